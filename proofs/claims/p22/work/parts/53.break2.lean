/-- what the two rows hold of an end -/
def cf_is (P : List Q4) (b : Option Q4) (v1 v2 : Int32) : Prop := match b with
  | none => v1 = -1 ∧ v2 = -1
  | some y => v1 = nI y.1 ∧ v2 = nI (qS P y.2.1 + y.2.2.1)
def cf_tab (P : List Q4) (pn : Nat) (C : Nat → Option Q4) (lo : Nat) (fc fn : Nat → Int32) : Prop := (∀ j, lo ≤ j → j < qS P pn → cf_is P (C j) (fc j) (fn j) ∧ bk_ok (qF P) (qT P) pn j (C j)) ∧ fc (qS P pn) = 0 ∧ fn (qS P pn) = -1
def cf_set (fc fn fc2 fn2 : Nat → Int32) (pl co en : Nat) : Prop := fc2 = upd fc pl (nI co) ∧ fn2 = upd fn pl (nI en)
theorem kc_le {A B : Prop} {w : Nat} (h : w = pif A (pif B 30 10) 0) : w ≤ 30 := by
  rw [h]
  by_cases a : A
  · rw [pif_p a]
    by_cases b : B
    · rw [pif_p b]; omega
    · rw [pif_n b]; omega
  · rw [pif_n a]; omega
abbrev cX0_weighEnd : ByteArray := prog_2_method_17_code
def yX0_weighEnd : MethodName := ⟨RX0, "weighEnd", "(II)V"⟩
theorem k_27 : (Cond.selects RX0 yX0_beginOf yX0_beginOf) ∈ gT := gT_i 27 (by decide +kernel) rfl
theorem k_95 : (Cond.initialized RX0) ∈ gT := gT_i 95 (by decide +kernel) rfl
theorem k_349 : (Cond.fieldLink RX0 25 "ScriptDesk$Breaking" "leaf" "LScriptDesk$Leaf;") ∈ gT := gT_i 349 (by decide +kernel) rfl
theorem k_784 : (Cond.methodLink RX0 98 yX0_beginOf) ∈ gT := gT_i 784 (by decide +kernel) rfl
theorem k_786 : (Cond.instanceMethod yX0_beginOf) ∈ gT := gT_i 786 (by decide +kernel) rfl
theorem k_787 : (Cond.code yX0_beginOf cX0_beginOf 2 (some .int)) ∈ gT := gT_i 787 (by decide +kernel) rfl
theorem k_818 : (Cond.methodLink RX0 92 yX3_rowsWithMore) ∈ gT := gT_i 818 (by decide +kernel) rfl
theorem k_819 : (Cond.instanceMethod yX3_rowsWithMore) ∈ gT := gT_i 819 (by decide +kernel) rfl
theorem k_820 : (Cond.selects RX3 yX3_rowsWithMore yX3_rowsWithMore) ∈ gT := gT_i 820 (by decide +kernel) rfl
theorem k_821 : (Cond.code yX3_rowsWithMore cX3_rowsWithMore 1 (some .int)) ∈ gT := gT_i 821 (by decide +kernel) rfl
theorem k_838 : (Cond.methodLink RX0 137 yX3_lastPiece) ∈ gT := gT_i 838 (by decide +kernel) rfl
theorem k_839 : (Cond.instanceMethod yX3_lastPiece) ∈ gT := gT_i 839 (by decide +kernel) rfl
theorem k_840 : (Cond.selects RX3 yX3_lastPiece yX3_lastPiece) ∈ gT := gT_i 840 (by decide +kernel) rfl
theorem k_841 : (Cond.code yX3_lastPiece cX3_lastPiece 1 (some .int)) ∈ gT := gT_i 841 (by decide +kernel) rfl
theorem k_842 : (Cond.methodLink RX0 138 yX3_endRow) ∈ gT := gT_i 842 (by decide +kernel) rfl
theorem k_843 : (Cond.instanceMethod yX3_endRow) ∈ gT := gT_i 843 (by decide +kernel) rfl
theorem k_844 : (Cond.selects RX3 yX3_endRow yX3_endRow) ∈ gT := gT_i 844 (by decide +kernel) rfl
theorem k_845 : (Cond.code yX3_endRow cX3_endRow 1 (some .int)) ∈ gT := gT_i 845 (by decide +kernel) rfl
theorem k_846 : (Cond.methodLink RX0 139 yX3_breakCost) ∈ gT := gT_i 846 (by decide +kernel) rfl
theorem k_847 : (Cond.instanceMethod yX3_breakCost) ∈ gT := gT_i 847 (by decide +kernel) rfl
theorem k_848 : (Cond.selects RX3 yX3_breakCost yX3_breakCost) ∈ gT := gT_i 848 (by decide +kernel) rfl
theorem k_849 : (Cond.code yX3_breakCost cX3_breakCost 2 (some .int)) ∈ gT := gT_i 849 (by decide +kernel) rfl
theorem dX0_weighEnd_0 : decode cX0_weighEnd 0 = .ok (.aload_n 0, 1) := by decide +kernel
theorem dX0_weighEnd_1 : decode cX0_weighEnd 1 = .ok (.aload_n 0, 1) := by decide +kernel
theorem dX0_weighEnd_2 : decode cX0_weighEnd 2 = .ok (.getfield 25, 3) := by decide +kernel
theorem dX0_weighEnd_5 : decode cX0_weighEnd 5 = .ok (.invokevirtual 137, 3) := by decide +kernel
theorem dX0_weighEnd_8 : decode cX0_weighEnd 8 = .ok (.invokevirtual 98, 3) := by decide +kernel
theorem dX0_weighEnd_11 : decode cX0_weighEnd 11 = .ok (.aload_n 0, 1) := by decide +kernel
theorem dX0_weighEnd_12 : decode cX0_weighEnd 12 = .ok (.getfield 25, 3) := by decide +kernel
theorem dX0_weighEnd_15 : decode cX0_weighEnd 15 = .ok (.invokevirtual 138, 3) := by decide +kernel
theorem dX0_weighEnd_18 : decode cX0_weighEnd 18 = .ok (.iadd, 1) := by decide +kernel
theorem dX0_weighEnd_19 : decode cX0_weighEnd 19 = .ok (.istore_n 3, 1) := by decide +kernel
theorem dX0_weighEnd_20 : decode cX0_weighEnd 20 = .ok (.iload_n 3, 1) := by decide +kernel
theorem dX0_weighEnd_21 : decode cX0_weighEnd 21 = .ok (.ifCond .lt 21, 3) := by decide +kernel
theorem dX0_weighEnd_24 : decode cX0_weighEnd 24 = .ok (.iload_n 3, 1) := by decide +kernel
theorem dX0_weighEnd_25 : decode cX0_weighEnd 25 = .ok (.aload_n 0, 1) := by decide +kernel
theorem dX0_weighEnd_26 : decode cX0_weighEnd 26 = .ok (.getfield 39, 3) := by decide +kernel
theorem dX0_weighEnd_29 : decode cX0_weighEnd 29 = .ok (.if_icmp .gt 13, 3) := by decide +kernel
theorem dX0_weighEnd_32 : decode cX0_weighEnd 32 = .ok (.aload_n 0, 1) := by decide +kernel
theorem dX0_weighEnd_33 : decode cX0_weighEnd 33 = .ok (.getfield 15, 3) := by decide +kernel
theorem dX0_weighEnd_36 : decode cX0_weighEnd 36 = .ok (.iload_n 3, 1) := by decide +kernel
theorem dX0_weighEnd_37 : decode cX0_weighEnd 37 = .ok (.iaload, 1) := by decide +kernel
theorem dX0_weighEnd_38 : decode cX0_weighEnd 38 = .ok (.iconst (-1), 1) := by decide +kernel
theorem dX0_weighEnd_39 : decode cX0_weighEnd 39 = .ok (.if_icmp .ne 4, 3) := by decide +kernel
theorem dX0_weighEnd_42 : decode cX0_weighEnd 42 = .ok (.return_, 1) := by decide +kernel
theorem dX0_weighEnd_43 : decode cX0_weighEnd 43 = .ok (.iconst 0, 1) := by decide +kernel
theorem dX0_weighEnd_44 : decode cX0_weighEnd 44 = .ok (.istore 4, 2) := by decide +kernel
theorem dX0_weighEnd_46 : decode cX0_weighEnd 46 = .ok (.iload_n 3, 1) := by decide +kernel
theorem dX0_weighEnd_47 : decode cX0_weighEnd 47 = .ok (.aload_n 0, 1) := by decide +kernel
theorem dX0_weighEnd_48 : decode cX0_weighEnd 48 = .ok (.getfield 39, 3) := by decide +kernel
theorem dX0_weighEnd_51 : decode cX0_weighEnd 51 = .ok (.if_icmp .ge 36, 3) := by decide +kernel
theorem dX0_weighEnd_87 : decode cX0_weighEnd 87 = .ok (.aload_n 0, 1) := by decide +kernel
theorem dX0_weighEnd_88 : decode cX0_weighEnd 88 = .ok (.getfield 15, 3) := by decide +kernel
theorem dX0_weighEnd_91 : decode cX0_weighEnd 91 = .ok (.iload_n 1, 1) := by decide +kernel
theorem dX0_weighEnd_92 : decode cX0_weighEnd 92 = .ok (.iaload, 1) := by decide +kernel
theorem dX0_weighEnd_93 : decode cX0_weighEnd 93 = .ok (.iconst (-1), 1) := by decide +kernel
theorem dX0_weighEnd_94 : decode cX0_weighEnd 94 = .ok (.if_icmp .eq 14, 3) := by decide +kernel
theorem dX0_weighEnd_108 : decode cX0_weighEnd 108 = .ok (.aload_n 0, 1) := by decide +kernel
theorem dX0_weighEnd_109 : decode cX0_weighEnd 109 = .ok (.getfield 15, 3) := by decide +kernel
theorem dX0_weighEnd_112 : decode cX0_weighEnd 112 = .ok (.iload_n 1, 1) := by decide +kernel
theorem dX0_weighEnd_113 : decode cX0_weighEnd 113 = .ok (.iload 4, 2) := by decide +kernel
theorem dX0_weighEnd_115 : decode cX0_weighEnd 115 = .ok (.iastore, 1) := by decide +kernel
theorem dX0_weighEnd_116 : decode cX0_weighEnd 116 = .ok (.aload_n 0, 1) := by decide +kernel
theorem dX0_weighEnd_117 : decode cX0_weighEnd 117 = .ok (.getfield 18, 3) := by decide +kernel
theorem dX0_weighEnd_120 : decode cX0_weighEnd 120 = .ok (.iload_n 1, 1) := by decide +kernel
theorem dX0_weighEnd_121 : decode cX0_weighEnd 121 = .ok (.iload_n 3, 1) := by decide +kernel
theorem dX0_weighEnd_122 : decode cX0_weighEnd 122 = .ok (.iastore, 1) := by decide +kernel
theorem dX0_weighEnd_123 : decode cX0_weighEnd 123 = .ok (.return_, 1) := by decide +kernel
theorem dX0_weighEnd_97 : decode cX0_weighEnd 97 = .ok (.iload 4, 2) := by decide +kernel
theorem dX0_weighEnd_99 : decode cX0_weighEnd 99 = .ok (.aload_n 0, 1) := by decide +kernel
theorem dX0_weighEnd_100 : decode cX0_weighEnd 100 = .ok (.getfield 15, 3) := by decide +kernel
theorem dX0_weighEnd_103 : decode cX0_weighEnd 103 = .ok (.iload_n 1, 1) := by decide +kernel
theorem dX0_weighEnd_104 : decode cX0_weighEnd 104 = .ok (.iaload, 1) := by decide +kernel
theorem dX0_weighEnd_105 : decode cX0_weighEnd 105 = .ok (.if_icmp .gt 18, 3) := by decide +kernel
theorem dX0_weighEnd_54 : decode cX0_weighEnd 54 = .ok (.iload_n 2, 1) := by decide +kernel
theorem dX0_weighEnd_55 : decode cX0_weighEnd 55 = .ok (.aload_n 0, 1) := by decide +kernel
theorem dX0_weighEnd_56 : decode cX0_weighEnd 56 = .ok (.getfield 25, 3) := by decide +kernel
theorem dX0_weighEnd_59 : decode cX0_weighEnd 59 = .ok (.invokevirtual 92, 3) := by decide +kernel
theorem dX0_weighEnd_62 : decode cX0_weighEnd 62 = .ok (.isub, 1) := by decide +kernel
theorem dX0_weighEnd_63 : decode cX0_weighEnd 63 = .ok (.istore 5, 2) := by decide +kernel
theorem dX0_weighEnd_65 : decode cX0_weighEnd 65 = .ok (.iload 5, 2) := by decide +kernel
theorem dX0_weighEnd_67 : decode cX0_weighEnd 67 = .ok (.iload 5, 2) := by decide +kernel
theorem dX0_weighEnd_69 : decode cX0_weighEnd 69 = .ok (.imul, 1) := by decide +kernel
theorem dX0_weighEnd_70 : decode cX0_weighEnd 70 = .ok (.aload_n 0, 1) := by decide +kernel
theorem dX0_weighEnd_71 : decode cX0_weighEnd 71 = .ok (.getfield 25, 3) := by decide +kernel
theorem dX0_weighEnd_74 : decode cX0_weighEnd 74 = .ok (.invokevirtual 139, 3) := by decide +kernel
theorem dX0_weighEnd_77 : decode cX0_weighEnd 77 = .ok (.iadd, 1) := by decide +kernel
theorem dX0_weighEnd_78 : decode cX0_weighEnd 78 = .ok (.aload_n 0, 1) := by decide +kernel
theorem dX0_weighEnd_79 : decode cX0_weighEnd 79 = .ok (.getfield 15, 3) := by decide +kernel
theorem dX0_weighEnd_82 : decode cX0_weighEnd 82 = .ok (.iload_n 3, 1) := by decide +kernel
theorem dX0_weighEnd_83 : decode cX0_weighEnd 83 = .ok (.iaload, 1) := by decide +kernel
theorem dX0_weighEnd_84 : decode cX0_weighEnd 84 = .ok (.iadd, 1) := by decide +kernel
theorem dX0_weighEnd_85 : decode cX0_weighEnd 85 = .ok (.istore 4, 2) := by decide +kernel
set_option maxHeartbeats 1000000 in
set_option maxRecDepth 100000 in
theorem we_n (l : Launch) (D : va_G) (z : Nat → Nat) (cB cI_ cO : ClassId) (L0 : List Nat) (g0 : hG) (pr pcs spr nwh cp : Nat) (pa : List Nat) (ea : Nat → Nat) (P : List Q4) (ne : Nat) (EE : Nat → E5) (bk lf bop cf nx : Nat) (y7 y8 y9 y10 : Int32) (fb : Nat → Int32) (M : Nat) (fc fn : Nat → Int32) (p0 b0 pq i lw mo pl en_ : Nat) (h_pr : ho L0 g0 pr 13 (.inr (7, [.ref pcs, .ref spr, .ref nwh]))) (h_pcs : alR cO (z 0) 14 15 L0 g0 pcs cp pa) (h_pc : pcR L0 g0 ea pa P) (h_es : esR cB cI_ L0 g0 ea ne EE) (h_bk : ho L0 g0 bk 21 (.inr (1, [.ref pr, .ref lf, .ref bop, .int (nI (pa.length)), .int (nI ((qS P pa.length))), .ref cf, .ref nx, .int y7, .int y8, .int y9, .int y10]))) (h_bop : ho L0 g0 bop 22 (.inl (cI_, 61, .inl fb))) (h_cf : ho L0 g0 cf 23 (.inl (cI_, M, .inl fc))) (h_nx : ho L0 g0 nx 24 (.inl (cI_, M, .inl fn))) (h_lf : ho L0 g0 lf 20 (.inr (4, [.ref pr, .int (nI (pa.length)), .int (nI p0), .int (nI b0), .int (nI pq), .int (nI ((P.getD pq d4).2.1 + i + 1)), .int (nI lw)]))) (hpa60 : pa.length ≤ 60) (hpa : pa.length ≤ 20000) (hQ : pq_ok ne EE P) (hU : pu_ok EE P) (hSb : ∀ i, i ≤ pa.length → qS P i ≤ 8000) (hFb : ∀ i, i ≤ pa.length → fb i = nI (qS P i)) (hMs : qS P pa.length < M) (hM : M ≤ 60000) (hp : pq < pa.length) (hi : i < (P.getD pq d4).2.2.1 - (P.getD pq d4).2.1) (hlw : lw ≤ 100) (hmo : mo ≤ 40) (hen : en_ = qS P pq + (i + 1)) (hpl : pl < en_) (hCe : fc en_ = -1) (hel : en_ < qS P pa.length) : eVs l D yX0_weighEnd cX0_weighEnd 6 none 5 106 0 0 [.ref bk, .int (nI pl), .int (nI mo)] z cB cI_ cO L0 g0 (True) := by
  refine o_sv (by decide) (Nat.le_of_ble_eq_true rfl) ?_
  intro p e s m below meth c A ls hf hr hlocks hin hK hP hD hS hA hZ hN hl
  obtain ⟨hx, hb, hml, hown, hts⟩ := id hf
  have hl : lv_has ls 6 [(0, .ref bk), (1, .int (nI pl)), (2, .int (nI mo))] := hl
  have hpl_ := h_pc.1
  have hup := hU pq (by omega)
  have hqp := hQ pq (by omega)
  have hrp := h_es.rb hqp.1
  have hSn := hSb pa.length (Nat.le_refl _)
  have hSin := qS_in P hp
  have hlrp : (P.getD pq d4).2.1 + i + 1 ≤ 20000 := by omega
  refine lv_aload_n hx hb dX0_weighEnd_0 rfl (lv_at hl 0 rfl) ?_
  refine lv_aload_n hx hb dX0_weighEnd_1 rfl (lv_at hl 0 rfl) ?_
  refine o_get (D := D) (ci := 1) (v := .ref lf) (C := RX0) (T := TX0) (N := 11) hx hb hts inX0 hown hK hP h_bk rfl 1 (by decide) (hts _ k_349) (fun _ h9 => h9) rfl dX0_weighEnd_2 ?_
  refine o_cis (k := 0) (n := 0) hK hP hD hS hA (o_rV (As := []) (rest := [.ref bk]) hf (lf_last _ _ _ _ _ _ _ _ lf (pa.length) p0 b0 pq ((P.getD pq d4).2.1 + i + 1) lw pr h_lf _) k_841 k_838 k_839 k_840 k_94 (nA := 0) (by decide +kernel) ⟨Nat.le_of_ble_eq_true rfl, Nat.le_of_ble_eq_true rfl⟩ hK hP hD hS hA hZ hN h_lf rfl rfl rfl hl.1 rfl (Nat.le_of_ble_eq_true rfl) dX0_weighEnd_5 ⟨(show 0 + 0 ≤ 0 by omega), (show 0 + 0 ≤ 0 by omega)⟩) (Nat.le_refl _) (Nat.le_refl _) (fun r H locs hw hP hD hS => ?_)
  obtain rfl := hw
  refine o_cis (k := 0) (n := 0) hK hP hD hS hA (o_rV (As := [.int (nI pq)]) (rest := []) hf (bk_beg _ _ _ _ _ _ _ _ pr P bk lf bop cf nx (pa.length) ((qS P pa.length)) y7 y8 y9 y10 fb pq h_bk h_bop (by omega) hFb (by omega) _) k_787 k_784 k_786 k_27 k_95 (nA := 1) (by decide +kernel) ⟨Nat.le_of_ble_eq_true rfl, Nat.le_of_ble_eq_true rfl⟩ hK hP hD hS hA hZ hN h_bk rfl rfl rfl hl.1 rfl (Nat.le_of_ble_eq_true rfl) dX0_weighEnd_8 ⟨(show 0 + 0 ≤ 0 by omega), (show 0 + 0 ≤ 0 by omega)⟩) (Nat.le_refl _) (Nat.le_refl _) (fun r H locs hw hP hD hS => ?_)
  obtain rfl := hw
  refine lv_aload_n hx hb dX0_weighEnd_11 rfl (lv_at hl 0 rfl) ?_
  refine o_get (D := D) (ci := 1) (v := .ref lf) (C := RX0) (T := TX0) (N := 11) hx hb hts inX0 hown hK hP h_bk rfl 1 (by decide) (hts _ k_349) (fun _ h9 => h9) rfl dX0_weighEnd_12 ?_
  refine o_cis (k := 0) (n := 0) hK hP hD hS hA (o_rV (As := []) (rest := [.int (nI ((qS P pq)))]) hf (lf_endr _ _ _ _ _ _ _ _ lf (pa.length) p0 b0 pq ((P.getD pq d4).2.1 + i + 1) lw pr h_lf _) k_845 k_842 k_843 k_844 k_94 (nA := 0) (by decide +kernel) ⟨Nat.le_of_ble_eq_true rfl, Nat.le_of_ble_eq_true rfl⟩ hK hP hD hS hA hZ hN h_lf rfl rfl rfl hl.1 rfl (Nat.le_of_ble_eq_true rfl) dX0_weighEnd_15 ⟨(show 0 + 0 ≤ 0 by omega), (show 0 + 0 ≤ 0 by omega)⟩) (Nat.le_refl _) (Nat.le_refl _) (fun r H locs hw hP hD hS => ?_)
  obtain rfl := hw
  refine lv_iadd hx hb dX0_weighEnd_18 ?_
  refine q_seti (y := nI (qS P pq + ((P.getD pq d4).2.1) + i + 1)) (nI_addE (a := (qS P pq)) (b := (P.getD pq d4).2.1 + i + 1) (by omega)) ?_
  refine q_seti (y := nI en_) (congrArg nI (show qS P pq + ((P.getD pq d4).2.1) + i + 1 = en_ by omega)) ?_
  refine lv_istore_n (lv' := [(3, .int (nI en_)), (0, .ref bk), (1, .int (nI pl)), (2, .int (nI mo))]) hx hb dX0_weighEnd_19 rfl hl (by decide) rfl (fun ls hl => ?_)
  refine lv_iload_n hx hb dX0_weighEnd_20 rfl (lv_at hl 0 rfl) ?_
  refine lv_if_lt (tgt := 42) hx hb dX0_weighEnd_21 (by decide) (fun c_1 => ?_) (fun c_1 => ?_)
  · have c_1 := q_lt (a := en_) (b := 0) (by omega) (by omega) c_1
    exact False.elim (by omega)
  · have c_1 := q_nlt (a := en_) (b := 0) (by omega) (by omega) c_1
    refine lv_iload_n hx hb dX0_weighEnd_24 rfl (lv_at hl 0 rfl) ?_
    refine lv_aload_n hx hb dX0_weighEnd_25 rfl (lv_at hl 1 rfl) ?_
    refine o_get (D := D) (ci := 1) (v := .int (nI ((qS P pa.length)))) (C := RX0) (T := TX0) (N := 11) hx hb hts inX0 hown hK hP h_bk rfl 4 (by decide) (hts _ k_352) (fun _ h9 => h9) rfl dX0_weighEnd_26 ?_
    refine lv_icmp_gt (tgt := 42) hx hb dX0_weighEnd_29 (by decide) (fun c_2 => ?_) (fun c_2 => ?_)
    · have c_2 := q_lt (a := (qS P pa.length)) (b := en_) (by omega) (by omega) c_2
      exact False.elim (by omega)
    · have c_2 := q_nlt (a := (qS P pa.length)) (b := en_) (by omega) (by omega) c_2
      refine lv_aload_n hx hb dX0_weighEnd_32 rfl (lv_at hl 1 rfl) ?_
      refine o_get (D := D) (ci := 1) (v := .ref cf) (C := RX0) (T := TX0) (N := 11) hx hb hts inX0 hown hK hP h_bk rfl 5 (by decide) (hts _ k_353) (fun _ h9 => h9) rfl dX0_weighEnd_33 ?_
      refine lv_iload_n hx hb dX0_weighEnd_36 rfl (lv_at hl 0 rfl) ?_
      refine o_ild (X := en_) hx hb hK hP h_cf (by omega) (by omega) dX0_weighEnd_37 ?_
      refine q_seti (y := (-1)) hCe ?_
      refine lv_iconst (v := (-1)) hx hb dX0_weighEnd_38 (by decide) ?_
      refine lv_icmp_ne (tgt := 43) hx hb dX0_weighEnd_39 (by decide) (fun hno => absurd hno (by decide)) (fun _ => ?_)
      exact o_rv hf hr hlocks hK hP hD hS (show 0 ≤ 0 by omega) (show 0 ≤ 0 by omega) ⟨trivial, rfl, rfl⟩ dX0_weighEnd_42
set_option maxHeartbeats 1000000 in
set_option maxRecDepth 100000 in
theorem we_ln (l : Launch) (D : va_G) (z : Nat → Nat) (cB cI_ cO : ClassId) (L0 : List Nat) (g0 : hG) (pr pcs spr nwh cp : Nat) (pa : List Nat) (ea : Nat → Nat) (P : List Q4) (ne : Nat) (EE : Nat → E5) (bk lf bop cf nx : Nat) (y7 y8 y9 y10 : Int32) (fb : Nat → Int32) (M : Nat) (fc fn : Nat → Int32) (p0 b0 pq i lw mo pl en_ : Nat) (h_pr : ho L0 g0 pr 13 (.inr (7, [.ref pcs, .ref spr, .ref nwh]))) (h_pcs : alR cO (z 0) 14 15 L0 g0 pcs cp pa) (h_pc : pcR L0 g0 ea pa P) (h_es : esR cB cI_ L0 g0 ea ne EE) (h_bk : ho L0 g0 bk 21 (.inr (1, [.ref pr, .ref lf, .ref bop, .int (nI (pa.length)), .int (nI ((qS P pa.length))), .ref cf, .ref nx, .int y7, .int y8, .int y9, .int y10]))) (h_bop : ho L0 g0 bop 22 (.inl (cI_, 61, .inl fb))) (h_cf : ho L0 g0 cf 23 (.inl (cI_, M, .inl fc))) (h_nx : ho L0 g0 nx 24 (.inl (cI_, M, .inl fn))) (h_lf : ho L0 g0 lf 20 (.inr (4, [.ref pr, .int (nI (pa.length)), .int (nI p0), .int (nI b0), .int (nI pq), .int (nI ((P.getD pq d4).2.1 + i + 1)), .int (nI lw)]))) (hpa60 : pa.length ≤ 60) (hpa : pa.length ≤ 20000) (hQ : pq_ok ne EE P) (hU : pu_ok EE P) (hSb : ∀ i, i ≤ pa.length → qS P i ≤ 8000) (hFb : ∀ i, i ≤ pa.length → fb i = nI (qS P i)) (hMs : qS P pa.length < M) (hM : M ≤ 60000) (hp : pq < pa.length) (hi : i < (P.getD pq d4).2.2.1 - (P.getD pq d4).2.1) (hlw : lw ≤ 100) (hmo : mo ≤ 40) (hen : en_ = qS P pq + (i + 1)) (hpl : pl < en_) (hCe : fc en_ = 0) (hel : en_ = qS P pa.length) (hCp : fc pl = -1) : eV l D yX0_weighEnd cX0_weighEnd 6 none 5 106 0 0 [.ref bk, .int (nI pl), .int (nI mo)] z cB cI_ cO L0 g0 (fun L g => ∃ (fc2 fn2 : Nat → Int32), cf_set fc fn fc2 fn2 pl 0 en_ ∧ fr [23, 24] L0 g0 L g ∧ ho L g cf 23 (.inl (cI_, M, .inl fc2)) ∧ ho L g nx 24 (.inl (cI_, M, .inl fn2))) := by
  refine o_sv (by decide) (Nat.le_of_ble_eq_true rfl) ?_
  intro p e s m below meth c A ls hf hr hlocks hin hK hP hD hS hA hZ hN hl
  obtain ⟨hx, hb, hml, hown, hts⟩ := id hf
  have hl : lv_has ls 6 [(0, .ref bk), (1, .int (nI pl)), (2, .int (nI mo))] := hl
  have hpl_ := h_pc.1
  have hup := hU pq (by omega)
  have hqp := hQ pq (by omega)
  have hrp := h_es.rb hqp.1
  have hSn := hSb pa.length (Nat.le_refl _)
  have hSin := qS_in P hp
  have hlrp : (P.getD pq d4).2.1 + i + 1 ≤ 20000 := by omega
  have hfr : fr [23, 24] L0 g0 L0 g0 := fr.rf
  refine lv_aload_n hx hb dX0_weighEnd_0 rfl (lv_at hl 0 rfl) ?_
  refine lv_aload_n hx hb dX0_weighEnd_1 rfl (lv_at hl 0 rfl) ?_
  refine o_get (D := D) (ci := 1) (v := .ref lf) (C := RX0) (T := TX0) (N := 11) hx hb hts inX0 hown hK hP h_bk rfl 1 (by decide) (hts _ k_349) (fun _ h9 => h9) rfl dX0_weighEnd_2 ?_
  refine o_cis (k := 0) (n := 0) hK hP hD hS hA (o_rV (As := []) (rest := [.ref bk]) hf (lf_last _ _ _ _ _ _ _ _ lf (pa.length) p0 b0 pq ((P.getD pq d4).2.1 + i + 1) lw pr h_lf _) k_841 k_838 k_839 k_840 k_94 (nA := 0) (by decide +kernel) ⟨Nat.le_of_ble_eq_true rfl, Nat.le_of_ble_eq_true rfl⟩ hK hP hD hS hA hZ hN h_lf rfl rfl rfl hl.1 rfl (Nat.le_of_ble_eq_true rfl) dX0_weighEnd_5 ⟨(show 0 + 0 ≤ 0 by omega), (show 0 + 0 ≤ 0 by omega)⟩) (Nat.le_refl _) (Nat.le_refl _) (fun r H locs hw hP hD hS => ?_)
  obtain rfl := hw
  refine o_cis (k := 0) (n := 0) hK hP hD hS hA (o_rV (As := [.int (nI pq)]) (rest := []) hf (bk_beg _ _ _ _ _ _ _ _ pr P bk lf bop cf nx (pa.length) ((qS P pa.length)) y7 y8 y9 y10 fb pq h_bk h_bop (by omega) hFb (by omega) _) k_787 k_784 k_786 k_27 k_95 (nA := 1) (by decide +kernel) ⟨Nat.le_of_ble_eq_true rfl, Nat.le_of_ble_eq_true rfl⟩ hK hP hD hS hA hZ hN h_bk rfl rfl rfl hl.1 rfl (Nat.le_of_ble_eq_true rfl) dX0_weighEnd_8 ⟨(show 0 + 0 ≤ 0 by omega), (show 0 + 0 ≤ 0 by omega)⟩) (Nat.le_refl _) (Nat.le_refl _) (fun r H locs hw hP hD hS => ?_)
  obtain rfl := hw
  refine lv_aload_n hx hb dX0_weighEnd_11 rfl (lv_at hl 0 rfl) ?_
  refine o_get (D := D) (ci := 1) (v := .ref lf) (C := RX0) (T := TX0) (N := 11) hx hb hts inX0 hown hK hP h_bk rfl 1 (by decide) (hts _ k_349) (fun _ h9 => h9) rfl dX0_weighEnd_12 ?_
  refine o_cis (k := 0) (n := 0) hK hP hD hS hA (o_rV (As := []) (rest := [.int (nI ((qS P pq)))]) hf (lf_endr _ _ _ _ _ _ _ _ lf (pa.length) p0 b0 pq ((P.getD pq d4).2.1 + i + 1) lw pr h_lf _) k_845 k_842 k_843 k_844 k_94 (nA := 0) (by decide +kernel) ⟨Nat.le_of_ble_eq_true rfl, Nat.le_of_ble_eq_true rfl⟩ hK hP hD hS hA hZ hN h_lf rfl rfl rfl hl.1 rfl (Nat.le_of_ble_eq_true rfl) dX0_weighEnd_15 ⟨(show 0 + 0 ≤ 0 by omega), (show 0 + 0 ≤ 0 by omega)⟩) (Nat.le_refl _) (Nat.le_refl _) (fun r H locs hw hP hD hS => ?_)
  obtain rfl := hw
  refine lv_iadd hx hb dX0_weighEnd_18 ?_
  refine q_seti (y := nI (qS P pq + ((P.getD pq d4).2.1) + i + 1)) (nI_addE (a := (qS P pq)) (b := (P.getD pq d4).2.1 + i + 1) (by omega)) ?_
  refine q_seti (y := nI en_) (congrArg nI (show qS P pq + ((P.getD pq d4).2.1) + i + 1 = en_ by omega)) ?_
  refine lv_istore_n (lv' := [(3, .int (nI en_)), (0, .ref bk), (1, .int (nI pl)), (2, .int (nI mo))]) hx hb dX0_weighEnd_19 rfl hl (by decide) rfl (fun ls hl => ?_)
  refine lv_iload_n hx hb dX0_weighEnd_20 rfl (lv_at hl 0 rfl) ?_
  refine lv_if_lt (tgt := 42) hx hb dX0_weighEnd_21 (by decide) (fun c_1 => ?_) (fun c_1 => ?_)
  · have c_1 := q_lt (a := en_) (b := 0) (by omega) (by omega) c_1
    exact False.elim (by omega)
  · have c_1 := q_nlt (a := en_) (b := 0) (by omega) (by omega) c_1
    refine lv_iload_n hx hb dX0_weighEnd_24 rfl (lv_at hl 0 rfl) ?_
    refine lv_aload_n hx hb dX0_weighEnd_25 rfl (lv_at hl 1 rfl) ?_
    refine o_get (D := D) (ci := 1) (v := .int (nI ((qS P pa.length)))) (C := RX0) (T := TX0) (N := 11) hx hb hts inX0 hown hK hP h_bk rfl 4 (by decide) (hts _ k_352) (fun _ h9 => h9) rfl dX0_weighEnd_26 ?_
    refine lv_icmp_gt (tgt := 42) hx hb dX0_weighEnd_29 (by decide) (fun c_2 => ?_) (fun c_2 => ?_)
    · have c_2 := q_lt (a := (qS P pa.length)) (b := en_) (by omega) (by omega) c_2
      exact False.elim (by omega)
    · have c_2 := q_nlt (a := (qS P pa.length)) (b := en_) (by omega) (by omega) c_2
      refine lv_aload_n hx hb dX0_weighEnd_32 rfl (lv_at hl 1 rfl) ?_
      refine o_get (D := D) (ci := 1) (v := .ref cf) (C := RX0) (T := TX0) (N := 11) hx hb hts inX0 hown hK hP h_bk rfl 5 (by decide) (hts _ k_353) (fun _ h9 => h9) rfl dX0_weighEnd_33 ?_
      refine lv_iload_n hx hb dX0_weighEnd_36 rfl (lv_at hl 0 rfl) ?_
      refine o_ild (X := en_) hx hb hK hP h_cf (by omega) (by omega) dX0_weighEnd_37 ?_
      refine q_seti (y := 0) hCe ?_
      refine lv_iconst (v := (-1)) hx hb dX0_weighEnd_38 (by decide) ?_
      refine lv_icmp_ne (tgt := 43) hx hb dX0_weighEnd_39 (by decide) (fun _ => ?_) (fun hno => absurd hno (by decide))
      refine lv_iconst (v := 0) hx hb dX0_weighEnd_43 (by decide) ?_
      refine lv_istore (lv' := [(4, .int 0), (3, .int (nI en_)), (0, .ref bk), (1, .int (nI pl)), (2, .int (nI mo))]) hx hb dX0_weighEnd_44 hl (by decide) rfl (fun ls hl => ?_)
      refine lv_iload_n hx hb dX0_weighEnd_46 rfl (lv_at hl 1 rfl) ?_
      refine lv_aload_n hx hb dX0_weighEnd_47 rfl (lv_at hl 2 rfl) ?_
      refine o_get (D := D) (ci := 1) (v := .int (nI ((qS P pa.length)))) (C := RX0) (T := TX0) (N := 11) hx hb hts inX0 hown hK hP h_bk rfl 4 (by decide) (hts _ k_352) (fun _ h9 => h9) rfl dX0_weighEnd_48 ?_
      refine lv_icmp_ge (tgt := 87) hx hb dX0_weighEnd_51 (by decide) (fun c_3 => ?_) (fun c_3 => ?_)
      · have c_3 := q_le (a := (qS P pa.length)) (b := en_) (by omega) (by omega) c_3
        refine lv_aload_n hx hb dX0_weighEnd_87 rfl (lv_at hl 2 rfl) ?_
        refine o_get (D := D) (ci := 1) (v := .ref cf) (C := RX0) (T := TX0) (N := 11) hx hb hts inX0 hown hK hP h_bk rfl 5 (by decide) (hts _ k_353) (fun _ h9 => h9) rfl dX0_weighEnd_88 ?_
        refine lv_iload_n hx hb dX0_weighEnd_91 rfl (lv_at hl 3 rfl) ?_
        refine o_ild (X := pl) hx hb hK hP h_cf (by omega) (by omega) dX0_weighEnd_92 ?_
        refine q_seti (y := (-1)) hCp ?_
        refine lv_iconst (v := (-1)) hx hb dX0_weighEnd_93 (by decide) ?_
        refine lv_icmp_eq (tgt := 108) hx hb dX0_weighEnd_94 (by decide) (fun _ => ?_) (fun hno => absurd hno (by decide))
        refine lv_aload_n hx hb dX0_weighEnd_108 rfl (lv_at hl 2 rfl) ?_
        refine o_get (D := D) (ci := 1) (v := .ref cf) (C := RX0) (T := TX0) (N := 11) hx hb hts inX0 hown hK hP h_bk rfl 5 (by decide) (hts _ k_353) (fun _ h9 => h9) rfl dX0_weighEnd_109 ?_
        refine lv_iload_n hx hb dX0_weighEnd_112 rfl (lv_at hl 3 rfl) ?_
        refine lv_iload hx hb dX0_weighEnd_113 (lv_at hl 0 rfl) ?_
        refine o_ist (X := pl) (x := 0) hx hb hK hP hD hS h_cf (by omega) (by omega) dX0_weighEnd_115 (fun g H locs h_cf hu hP hD hS => ?_)
        have h_pr := h_pr.up hu (by decide)
        have h_bk := h_bk.up hu (by decide)
        have h_bop := h_bop.up hu (by decide)
        have h_nx := h_nx.up hu (by decide)
        have h_lf := h_lf.up hu (by decide)
        have hfr := hfr.up hu (by decide)
        have h_pcs := h_pcs.frd hu.fr (by decide)
        have h_pc := h_pc.frd hu.fr (by decide)
        have h_es := h_es.frd hu.fr (by decide)
        refine lv_aload_n hx hb dX0_weighEnd_116 rfl (lv_at hl 2 rfl) ?_
        refine o_get (D := D) (ci := 1) (v := .ref nx) (C := RX0) (T := TX0) (N := 11) hx hb hts inX0 hown hK hP h_bk rfl 6 (by decide) (hts _ k_354) (fun _ h9 => h9) rfl dX0_weighEnd_117 ?_
        refine lv_iload_n hx hb dX0_weighEnd_120 rfl (lv_at hl 3 rfl) ?_
        refine lv_iload_n hx hb dX0_weighEnd_121 rfl (lv_at hl 1 rfl) ?_
        refine o_ist (X := pl) (x := (nI en_)) hx hb hK hP hD hS h_nx (by omega) (by omega) dX0_weighEnd_122 (fun g H locs h_nx hu hP hD hS => ?_)
        have h_pr := h_pr.up hu (by decide)
        have h_bk := h_bk.up hu (by decide)
        have h_bop := h_bop.up hu (by decide)
        have h_cf := h_cf.up hu (by decide)
        have h_lf := h_lf.up hu (by decide)
        have hfr := hfr.up hu (by decide)
        have h_pcs := h_pcs.frd hu.fr (by decide)
        have h_pc := h_pc.frd hu.fr (by decide)
        have h_es := h_es.frd hu.fr (by decide)
        exact o_rv hf hr hlocks hK hP hD hS (show 0 ≤ 0 by omega) (show 0 ≤ 0 by omega) ⟨_, _, ⟨rfl, rfl⟩, hfr, h_cf, h_nx⟩ dX0_weighEnd_123
      · have c_3 := q_nle (a := (qS P pa.length)) (b := en_) (by omega) (by omega) c_3
        exact False.elim (by omega)
set_option maxHeartbeats 1000000 in
set_option maxRecDepth 100000 in
theorem we_ls (l : Launch) (D : va_G) (z : Nat → Nat) (cB cI_ cO : ClassId) (L0 : List Nat) (g0 : hG) (pr pcs spr nwh cp : Nat) (pa : List Nat) (ea : Nat → Nat) (P : List Q4) (ne : Nat) (EE : Nat → E5) (bk lf bop cf nx : Nat) (y7 y8 y9 y10 : Int32) (fb : Nat → Int32) (M : Nat) (fc fn : Nat → Int32) (p0 b0 pq i lw mo pl en_ : Nat) (h_pr : ho L0 g0 pr 13 (.inr (7, [.ref pcs, .ref spr, .ref nwh]))) (h_pcs : alR cO (z 0) 14 15 L0 g0 pcs cp pa) (h_pc : pcR L0 g0 ea pa P) (h_es : esR cB cI_ L0 g0 ea ne EE) (h_bk : ho L0 g0 bk 21 (.inr (1, [.ref pr, .ref lf, .ref bop, .int (nI (pa.length)), .int (nI ((qS P pa.length))), .ref cf, .ref nx, .int y7, .int y8, .int y9, .int y10]))) (h_bop : ho L0 g0 bop 22 (.inl (cI_, 61, .inl fb))) (h_cf : ho L0 g0 cf 23 (.inl (cI_, M, .inl fc))) (h_nx : ho L0 g0 nx 24 (.inl (cI_, M, .inl fn))) (h_lf : ho L0 g0 lf 20 (.inr (4, [.ref pr, .int (nI (pa.length)), .int (nI p0), .int (nI b0), .int (nI pq), .int (nI ((P.getD pq d4).2.1 + i + 1)), .int (nI lw)]))) (hpa60 : pa.length ≤ 60) (hpa : pa.length ≤ 20000) (hQ : pq_ok ne EE P) (hU : pu_ok EE P) (hSb : ∀ i, i ≤ pa.length → qS P i ≤ 8000) (hFb : ∀ i, i ≤ pa.length → fb i = nI (qS P i)) (hMs : qS P pa.length < M) (hM : M ≤ 60000) (hp : pq < pa.length) (hi : i < (P.getD pq d4).2.2.1 - (P.getD pq d4).2.1) (hlw : lw ≤ 100) (hmo : mo ≤ 40) (hen : en_ = qS P pq + (i + 1)) (hpl : pl < en_) (y1 : Nat) (hy1 : y1 ≤ 20000000) (hCe : fc en_ = 0) (hel : en_ = qS P pa.length) (hCp : fc pl = nI y1) : eV l D yX0_weighEnd cX0_weighEnd 6 none 5 106 0 0 [.ref bk, .int (nI pl), .int (nI mo)] z cB cI_ cO L0 g0 (fun L g => ∃ (fc2 fn2 : Nat → Int32), ((0 ≤ y1 ∧ cf_set fc fn fc2 fn2 pl 0 en_) ∨ (¬ 0 ≤ y1 ∧ fc2 = fc ∧ fn2 = fn)) ∧ fr [23, 24] L0 g0 L g ∧ ho L g cf 23 (.inl (cI_, M, .inl fc2)) ∧ ho L g nx 24 (.inl (cI_, M, .inl fn2))) := by
  refine o_sv (by decide) (Nat.le_of_ble_eq_true rfl) ?_
  intro p e s m below meth c A ls hf hr hlocks hin hK hP hD hS hA hZ hN hl
  obtain ⟨hx, hb, hml, hown, hts⟩ := id hf
  have hl : lv_has ls 6 [(0, .ref bk), (1, .int (nI pl)), (2, .int (nI mo))] := hl
  have hpl_ := h_pc.1
  have hup := hU pq (by omega)
  have hqp := hQ pq (by omega)
  have hrp := h_es.rb hqp.1
  have hSn := hSb pa.length (Nat.le_refl _)
  have hSin := qS_in P hp
  have hlrp : (P.getD pq d4).2.1 + i + 1 ≤ 20000 := by omega
  have hfr : fr [23, 24] L0 g0 L0 g0 := fr.rf
  refine lv_aload_n hx hb dX0_weighEnd_0 rfl (lv_at hl 0 rfl) ?_
  refine lv_aload_n hx hb dX0_weighEnd_1 rfl (lv_at hl 0 rfl) ?_
  refine o_get (D := D) (ci := 1) (v := .ref lf) (C := RX0) (T := TX0) (N := 11) hx hb hts inX0 hown hK hP h_bk rfl 1 (by decide) (hts _ k_349) (fun _ h9 => h9) rfl dX0_weighEnd_2 ?_
  refine o_cis (k := 0) (n := 0) hK hP hD hS hA (o_rV (As := []) (rest := [.ref bk]) hf (lf_last _ _ _ _ _ _ _ _ lf (pa.length) p0 b0 pq ((P.getD pq d4).2.1 + i + 1) lw pr h_lf _) k_841 k_838 k_839 k_840 k_94 (nA := 0) (by decide +kernel) ⟨Nat.le_of_ble_eq_true rfl, Nat.le_of_ble_eq_true rfl⟩ hK hP hD hS hA hZ hN h_lf rfl rfl rfl hl.1 rfl (Nat.le_of_ble_eq_true rfl) dX0_weighEnd_5 ⟨(show 0 + 0 ≤ 0 by omega), (show 0 + 0 ≤ 0 by omega)⟩) (Nat.le_refl _) (Nat.le_refl _) (fun r H locs hw hP hD hS => ?_)
  obtain rfl := hw
  refine o_cis (k := 0) (n := 0) hK hP hD hS hA (o_rV (As := [.int (nI pq)]) (rest := []) hf (bk_beg _ _ _ _ _ _ _ _ pr P bk lf bop cf nx (pa.length) ((qS P pa.length)) y7 y8 y9 y10 fb pq h_bk h_bop (by omega) hFb (by omega) _) k_787 k_784 k_786 k_27 k_95 (nA := 1) (by decide +kernel) ⟨Nat.le_of_ble_eq_true rfl, Nat.le_of_ble_eq_true rfl⟩ hK hP hD hS hA hZ hN h_bk rfl rfl rfl hl.1 rfl (Nat.le_of_ble_eq_true rfl) dX0_weighEnd_8 ⟨(show 0 + 0 ≤ 0 by omega), (show 0 + 0 ≤ 0 by omega)⟩) (Nat.le_refl _) (Nat.le_refl _) (fun r H locs hw hP hD hS => ?_)
  obtain rfl := hw
  refine lv_aload_n hx hb dX0_weighEnd_11 rfl (lv_at hl 0 rfl) ?_
  refine o_get (D := D) (ci := 1) (v := .ref lf) (C := RX0) (T := TX0) (N := 11) hx hb hts inX0 hown hK hP h_bk rfl 1 (by decide) (hts _ k_349) (fun _ h9 => h9) rfl dX0_weighEnd_12 ?_
  refine o_cis (k := 0) (n := 0) hK hP hD hS hA (o_rV (As := []) (rest := [.int (nI ((qS P pq)))]) hf (lf_endr _ _ _ _ _ _ _ _ lf (pa.length) p0 b0 pq ((P.getD pq d4).2.1 + i + 1) lw pr h_lf _) k_845 k_842 k_843 k_844 k_94 (nA := 0) (by decide +kernel) ⟨Nat.le_of_ble_eq_true rfl, Nat.le_of_ble_eq_true rfl⟩ hK hP hD hS hA hZ hN h_lf rfl rfl rfl hl.1 rfl (Nat.le_of_ble_eq_true rfl) dX0_weighEnd_15 ⟨(show 0 + 0 ≤ 0 by omega), (show 0 + 0 ≤ 0 by omega)⟩) (Nat.le_refl _) (Nat.le_refl _) (fun r H locs hw hP hD hS => ?_)
  obtain rfl := hw
  refine lv_iadd hx hb dX0_weighEnd_18 ?_
  refine q_seti (y := nI (qS P pq + ((P.getD pq d4).2.1) + i + 1)) (nI_addE (a := (qS P pq)) (b := (P.getD pq d4).2.1 + i + 1) (by omega)) ?_
  refine q_seti (y := nI en_) (congrArg nI (show qS P pq + ((P.getD pq d4).2.1) + i + 1 = en_ by omega)) ?_
  refine lv_istore_n (lv' := [(3, .int (nI en_)), (0, .ref bk), (1, .int (nI pl)), (2, .int (nI mo))]) hx hb dX0_weighEnd_19 rfl hl (by decide) rfl (fun ls hl => ?_)
  refine lv_iload_n hx hb dX0_weighEnd_20 rfl (lv_at hl 0 rfl) ?_
  refine lv_if_lt (tgt := 42) hx hb dX0_weighEnd_21 (by decide) (fun c_1 => ?_) (fun c_1 => ?_)
  · have c_1 := q_lt (a := en_) (b := 0) (by omega) (by omega) c_1
    exact False.elim (by omega)
  · have c_1 := q_nlt (a := en_) (b := 0) (by omega) (by omega) c_1
    refine lv_iload_n hx hb dX0_weighEnd_24 rfl (lv_at hl 0 rfl) ?_
    refine lv_aload_n hx hb dX0_weighEnd_25 rfl (lv_at hl 1 rfl) ?_
    refine o_get (D := D) (ci := 1) (v := .int (nI ((qS P pa.length)))) (C := RX0) (T := TX0) (N := 11) hx hb hts inX0 hown hK hP h_bk rfl 4 (by decide) (hts _ k_352) (fun _ h9 => h9) rfl dX0_weighEnd_26 ?_
    refine lv_icmp_gt (tgt := 42) hx hb dX0_weighEnd_29 (by decide) (fun c_2 => ?_) (fun c_2 => ?_)
    · have c_2 := q_lt (a := (qS P pa.length)) (b := en_) (by omega) (by omega) c_2
      exact False.elim (by omega)
    · have c_2 := q_nlt (a := (qS P pa.length)) (b := en_) (by omega) (by omega) c_2
      refine lv_aload_n hx hb dX0_weighEnd_32 rfl (lv_at hl 1 rfl) ?_
      refine o_get (D := D) (ci := 1) (v := .ref cf) (C := RX0) (T := TX0) (N := 11) hx hb hts inX0 hown hK hP h_bk rfl 5 (by decide) (hts _ k_353) (fun _ h9 => h9) rfl dX0_weighEnd_33 ?_
      refine lv_iload_n hx hb dX0_weighEnd_36 rfl (lv_at hl 0 rfl) ?_
      refine o_ild (X := en_) hx hb hK hP h_cf (by omega) (by omega) dX0_weighEnd_37 ?_
      refine q_seti (y := 0) hCe ?_
      refine lv_iconst (v := (-1)) hx hb dX0_weighEnd_38 (by decide) ?_
      refine lv_icmp_ne (tgt := 43) hx hb dX0_weighEnd_39 (by decide) (fun _ => ?_) (fun hno => absurd hno (by decide))
      refine lv_iconst (v := 0) hx hb dX0_weighEnd_43 (by decide) ?_
      refine lv_istore (lv' := [(4, .int 0), (3, .int (nI en_)), (0, .ref bk), (1, .int (nI pl)), (2, .int (nI mo))]) hx hb dX0_weighEnd_44 hl (by decide) rfl (fun ls hl => ?_)
      refine lv_iload_n hx hb dX0_weighEnd_46 rfl (lv_at hl 1 rfl) ?_
      refine lv_aload_n hx hb dX0_weighEnd_47 rfl (lv_at hl 2 rfl) ?_
      refine o_get (D := D) (ci := 1) (v := .int (nI ((qS P pa.length)))) (C := RX0) (T := TX0) (N := 11) hx hb hts inX0 hown hK hP h_bk rfl 4 (by decide) (hts _ k_352) (fun _ h9 => h9) rfl dX0_weighEnd_48 ?_
      refine lv_icmp_ge (tgt := 87) hx hb dX0_weighEnd_51 (by decide) (fun c_3 => ?_) (fun c_3 => ?_)
      · have c_3 := q_le (a := (qS P pa.length)) (b := en_) (by omega) (by omega) c_3
        refine lv_aload_n hx hb dX0_weighEnd_87 rfl (lv_at hl 2 rfl) ?_
        refine o_get (D := D) (ci := 1) (v := .ref cf) (C := RX0) (T := TX0) (N := 11) hx hb hts inX0 hown hK hP h_bk rfl 5 (by decide) (hts _ k_353) (fun _ h9 => h9) rfl dX0_weighEnd_88 ?_
        refine lv_iload_n hx hb dX0_weighEnd_91 rfl (lv_at hl 3 rfl) ?_
        refine o_ild (X := pl) hx hb hK hP h_cf (by omega) (by omega) dX0_weighEnd_92 ?_
        refine q_seti (y := (nI y1)) hCp ?_
        refine lv_iconst (v := (-1)) hx hb dX0_weighEnd_93 (by decide) ?_
        refine lv_icmp_eq (tgt := 108) hx hb dX0_weighEnd_94 (by decide) (fun hno => absurd hno (q_nem (by decide) (by omega))) (fun _ => ?_)
        refine lv_iload hx hb dX0_weighEnd_97 (lv_at hl 0 rfl) ?_
        refine lv_aload_n hx hb dX0_weighEnd_99 rfl (lv_at hl 2 rfl) ?_
        refine o_get (D := D) (ci := 1) (v := .ref cf) (C := RX0) (T := TX0) (N := 11) hx hb hts inX0 hown hK hP h_bk rfl 5 (by decide) (hts _ k_353) (fun _ h9 => h9) rfl dX0_weighEnd_100 ?_
        refine lv_iload_n hx hb dX0_weighEnd_103 rfl (lv_at hl 3 rfl) ?_
        refine o_ild (X := pl) hx hb hK hP h_cf (by omega) (by omega) dX0_weighEnd_104 ?_
        refine q_seti (y := (nI y1)) hCp ?_
        refine lv_icmp_gt (tgt := 123) hx hb dX0_weighEnd_105 (by decide) (fun c_4 => ?_) (fun c_4 => ?_)
        · have c_4 := q_lt (a := y1) (b := 0) (by omega) (by omega) c_4
          exact o_rv hf hr hlocks hK hP hD hS (show 0 ≤ 0 by omega) (show 0 ≤ 0 by omega) ⟨_, _, Or.inr ⟨by omega, rfl, rfl⟩, hfr, h_cf, h_nx⟩ dX0_weighEnd_123
        · have c_4 := q_nlt (a := y1) (b := 0) (by omega) (by omega) c_4
          refine lv_aload_n hx hb dX0_weighEnd_108 rfl (lv_at hl 2 rfl) ?_
          refine o_get (D := D) (ci := 1) (v := .ref cf) (C := RX0) (T := TX0) (N := 11) hx hb hts inX0 hown hK hP h_bk rfl 5 (by decide) (hts _ k_353) (fun _ h9 => h9) rfl dX0_weighEnd_109 ?_
          refine lv_iload_n hx hb dX0_weighEnd_112 rfl (lv_at hl 3 rfl) ?_
          refine lv_iload hx hb dX0_weighEnd_113 (lv_at hl 0 rfl) ?_
          refine o_ist (X := pl) (x := 0) hx hb hK hP hD hS h_cf (by omega) (by omega) dX0_weighEnd_115 (fun g H locs h_cf hu hP hD hS => ?_)
          have h_pr := h_pr.up hu (by decide)
          have h_bk := h_bk.up hu (by decide)
          have h_bop := h_bop.up hu (by decide)
          have h_nx := h_nx.up hu (by decide)
          have h_lf := h_lf.up hu (by decide)
          have hfr := hfr.up hu (by decide)
          have h_pcs := h_pcs.frd hu.fr (by decide)
          have h_pc := h_pc.frd hu.fr (by decide)
          have h_es := h_es.frd hu.fr (by decide)
          refine lv_aload_n hx hb dX0_weighEnd_116 rfl (lv_at hl 2 rfl) ?_
          refine o_get (D := D) (ci := 1) (v := .ref nx) (C := RX0) (T := TX0) (N := 11) hx hb hts inX0 hown hK hP h_bk rfl 6 (by decide) (hts _ k_354) (fun _ h9 => h9) rfl dX0_weighEnd_117 ?_
          refine lv_iload_n hx hb dX0_weighEnd_120 rfl (lv_at hl 3 rfl) ?_
          refine lv_iload_n hx hb dX0_weighEnd_121 rfl (lv_at hl 1 rfl) ?_
          refine o_ist (X := pl) (x := (nI en_)) hx hb hK hP hD hS h_nx (by omega) (by omega) dX0_weighEnd_122 (fun g H locs h_nx hu hP hD hS => ?_)
          have h_pr := h_pr.up hu (by decide)
          have h_bk := h_bk.up hu (by decide)
          have h_bop := h_bop.up hu (by decide)
          have h_cf := h_cf.up hu (by decide)
          have h_lf := h_lf.up hu (by decide)
          have hfr := hfr.up hu (by decide)
          have h_pcs := h_pcs.frd hu.fr (by decide)
          have h_pc := h_pc.frd hu.fr (by decide)
          have h_es := h_es.frd hu.fr (by decide)
          exact o_rv hf hr hlocks hK hP hD hS (show 0 ≤ 0 by omega) (show 0 ≤ 0 by omega) ⟨_, _, Or.inl ⟨Nat.zero_le _, ⟨rfl, rfl⟩⟩, hfr, h_cf, h_nx⟩ dX0_weighEnd_123
      · have c_3 := q_nle (a := (qS P pa.length)) (b := en_) (by omega) (by omega) c_3
        exact False.elim (by omega)
set_option maxHeartbeats 1000000 in
set_option maxRecDepth 100000 in
theorem we_sn (l : Launch) (D : va_G) (z : Nat → Nat) (cB cI_ cO : ClassId) (L0 : List Nat) (g0 : hG) (pr pcs spr nwh cp : Nat) (pa : List Nat) (ea : Nat → Nat) (P : List Q4) (ne : Nat) (EE : Nat → E5) (bk lf bop cf nx : Nat) (y7 y8 y9 y10 : Int32) (fb : Nat → Int32) (M : Nat) (fc fn : Nat → Int32) (p0 b0 pq i lw mo pl en_ : Nat) (h_pr : ho L0 g0 pr 13 (.inr (7, [.ref pcs, .ref spr, .ref nwh]))) (h_pcs : alR cO (z 0) 14 15 L0 g0 pcs cp pa) (h_pc : pcR L0 g0 ea pa P) (h_es : esR cB cI_ L0 g0 ea ne EE) (h_bk : ho L0 g0 bk 21 (.inr (1, [.ref pr, .ref lf, .ref bop, .int (nI (pa.length)), .int (nI ((qS P pa.length))), .ref cf, .ref nx, .int y7, .int y8, .int y9, .int y10]))) (h_bop : ho L0 g0 bop 22 (.inl (cI_, 61, .inl fb))) (h_cf : ho L0 g0 cf 23 (.inl (cI_, M, .inl fc))) (h_nx : ho L0 g0 nx 24 (.inl (cI_, M, .inl fn))) (h_lf : ho L0 g0 lf 20 (.inr (4, [.ref pr, .int (nI (pa.length)), .int (nI p0), .int (nI b0), .int (nI pq), .int (nI ((P.getD pq d4).2.1 + i + 1)), .int (nI lw)]))) (hpa60 : pa.length ≤ 60) (hpa : pa.length ≤ 20000) (hQ : pq_ok ne EE P) (hU : pu_ok EE P) (hSb : ∀ i, i ≤ pa.length → qS P i ≤ 8000) (hFb : ∀ i, i ≤ pa.length → fb i = nI (qS P i)) (hMs : qS P pa.length < M) (hM : M ≤ 60000) (hp : pq < pa.length) (hi : i < (P.getD pq d4).2.2.1 - (P.getD pq d4).2.1) (hlw : lw ≤ 100) (hmo : mo ≤ 40) (hen : en_ = qS P pq + (i + 1)) (hpl : pl < en_) (x1 : Nat) (hx1 : x1 ≤ 20000000) (hCe : fc en_ = nI x1) (hel : en_ < qS P pa.length) (hCp : fc pl = -1) (tb kc : Nat) (etb : tb = pb ((EE (P.getD pq d4).1).1 = 4 ∧ 0 < (P.getD pq d4).2.1 + i + 1 ∧ (P.getD pq d4).2.1 + i + 1 < eRw (EE (P.getD pq d4).1))) (ekc : kc = pif ((P.getD pq d4).2.1 + i + 1 < eRw (EE (P.getD pq d4).1)) (pif ((EE (P.getD pq d4).1).1 = 4) 30 10) 0) (htt : lw + tb ≤ mo) : eV l D yX0_weighEnd cX0_weighEnd 6 none 5 106 0 0 [.ref bk, .int (nI pl), .int (nI mo)] z cB cI_ cO L0 g0 (fun L g => ∃ (fc2 fn2 : Nat → Int32), cf_set fc fn fc2 fn2 pl ((mo - lw - tb) * (mo - lw - tb) + kc + x1) en_ ∧ fr [23, 24] L0 g0 L g ∧ ho L g cf 23 (.inl (cI_, M, .inl fc2)) ∧ ho L g nx 24 (.inl (cI_, M, .inl fn2))) := by
  refine o_sv (by decide) (Nat.le_of_ble_eq_true rfl) ?_
  intro p e s m below meth c A ls hf hr hlocks hin hK hP hD hS hA hZ hN hl
  obtain ⟨hx, hb, hml, hown, hts⟩ := id hf
  have hl : lv_has ls 6 [(0, .ref bk), (1, .int (nI pl)), (2, .int (nI mo))] := hl
  have hpl_ := h_pc.1
  have hup := hU pq (by omega)
  have hqp := hQ pq (by omega)
  have hrp := h_es.rb hqp.1
  have hSn := hSb pa.length (Nat.le_refl _)
  have hSin := qS_in P hp
  have hlrp : (P.getD pq d4).2.1 + i + 1 ≤ 20000 := by omega
  have hkc := kc_le ekc
  have hfr : fr [23, 24] L0 g0 L0 g0 := fr.rf
  refine lv_aload_n hx hb dX0_weighEnd_0 rfl (lv_at hl 0 rfl) ?_
  refine lv_aload_n hx hb dX0_weighEnd_1 rfl (lv_at hl 0 rfl) ?_
  refine o_get (D := D) (ci := 1) (v := .ref lf) (C := RX0) (T := TX0) (N := 11) hx hb hts inX0 hown hK hP h_bk rfl 1 (by decide) (hts _ k_349) (fun _ h9 => h9) rfl dX0_weighEnd_2 ?_
  refine o_cis (k := 0) (n := 0) hK hP hD hS hA (o_rV (As := []) (rest := [.ref bk]) hf (lf_last _ _ _ _ _ _ _ _ lf (pa.length) p0 b0 pq ((P.getD pq d4).2.1 + i + 1) lw pr h_lf _) k_841 k_838 k_839 k_840 k_94 (nA := 0) (by decide +kernel) ⟨Nat.le_of_ble_eq_true rfl, Nat.le_of_ble_eq_true rfl⟩ hK hP hD hS hA hZ hN h_lf rfl rfl rfl hl.1 rfl (Nat.le_of_ble_eq_true rfl) dX0_weighEnd_5 ⟨(show 0 + 0 ≤ 0 by omega), (show 0 + 0 ≤ 0 by omega)⟩) (Nat.le_refl _) (Nat.le_refl _) (fun r H locs hw hP hD hS => ?_)
  obtain rfl := hw
  refine o_cis (k := 0) (n := 0) hK hP hD hS hA (o_rV (As := [.int (nI pq)]) (rest := []) hf (bk_beg _ _ _ _ _ _ _ _ pr P bk lf bop cf nx (pa.length) ((qS P pa.length)) y7 y8 y9 y10 fb pq h_bk h_bop (by omega) hFb (by omega) _) k_787 k_784 k_786 k_27 k_95 (nA := 1) (by decide +kernel) ⟨Nat.le_of_ble_eq_true rfl, Nat.le_of_ble_eq_true rfl⟩ hK hP hD hS hA hZ hN h_bk rfl rfl rfl hl.1 rfl (Nat.le_of_ble_eq_true rfl) dX0_weighEnd_8 ⟨(show 0 + 0 ≤ 0 by omega), (show 0 + 0 ≤ 0 by omega)⟩) (Nat.le_refl _) (Nat.le_refl _) (fun r H locs hw hP hD hS => ?_)
  obtain rfl := hw
  refine lv_aload_n hx hb dX0_weighEnd_11 rfl (lv_at hl 0 rfl) ?_
  refine o_get (D := D) (ci := 1) (v := .ref lf) (C := RX0) (T := TX0) (N := 11) hx hb hts inX0 hown hK hP h_bk rfl 1 (by decide) (hts _ k_349) (fun _ h9 => h9) rfl dX0_weighEnd_12 ?_
  refine o_cis (k := 0) (n := 0) hK hP hD hS hA (o_rV (As := []) (rest := [.int (nI ((qS P pq)))]) hf (lf_endr _ _ _ _ _ _ _ _ lf (pa.length) p0 b0 pq ((P.getD pq d4).2.1 + i + 1) lw pr h_lf _) k_845 k_842 k_843 k_844 k_94 (nA := 0) (by decide +kernel) ⟨Nat.le_of_ble_eq_true rfl, Nat.le_of_ble_eq_true rfl⟩ hK hP hD hS hA hZ hN h_lf rfl rfl rfl hl.1 rfl (Nat.le_of_ble_eq_true rfl) dX0_weighEnd_15 ⟨(show 0 + 0 ≤ 0 by omega), (show 0 + 0 ≤ 0 by omega)⟩) (Nat.le_refl _) (Nat.le_refl _) (fun r H locs hw hP hD hS => ?_)
  obtain rfl := hw
  refine lv_iadd hx hb dX0_weighEnd_18 ?_
  refine q_seti (y := nI (qS P pq + ((P.getD pq d4).2.1) + i + 1)) (nI_addE (a := (qS P pq)) (b := (P.getD pq d4).2.1 + i + 1) (by omega)) ?_
  refine q_seti (y := nI en_) (congrArg nI (show qS P pq + ((P.getD pq d4).2.1) + i + 1 = en_ by omega)) ?_
  refine lv_istore_n (lv' := [(3, .int (nI en_)), (0, .ref bk), (1, .int (nI pl)), (2, .int (nI mo))]) hx hb dX0_weighEnd_19 rfl hl (by decide) rfl (fun ls hl => ?_)
  refine lv_iload_n hx hb dX0_weighEnd_20 rfl (lv_at hl 0 rfl) ?_
  refine lv_if_lt (tgt := 42) hx hb dX0_weighEnd_21 (by decide) (fun c_1 => ?_) (fun c_1 => ?_)
  · have c_1 := q_lt (a := en_) (b := 0) (by omega) (by omega) c_1
    exact False.elim (by omega)
  · have c_1 := q_nlt (a := en_) (b := 0) (by omega) (by omega) c_1
    refine lv_iload_n hx hb dX0_weighEnd_24 rfl (lv_at hl 0 rfl) ?_
    refine lv_aload_n hx hb dX0_weighEnd_25 rfl (lv_at hl 1 rfl) ?_
    refine o_get (D := D) (ci := 1) (v := .int (nI ((qS P pa.length)))) (C := RX0) (T := TX0) (N := 11) hx hb hts inX0 hown hK hP h_bk rfl 4 (by decide) (hts _ k_352) (fun _ h9 => h9) rfl dX0_weighEnd_26 ?_
    refine lv_icmp_gt (tgt := 42) hx hb dX0_weighEnd_29 (by decide) (fun c_2 => ?_) (fun c_2 => ?_)
    · have c_2 := q_lt (a := (qS P pa.length)) (b := en_) (by omega) (by omega) c_2
      exact False.elim (by omega)
    · have c_2 := q_nlt (a := (qS P pa.length)) (b := en_) (by omega) (by omega) c_2
      refine lv_aload_n hx hb dX0_weighEnd_32 rfl (lv_at hl 1 rfl) ?_
      refine o_get (D := D) (ci := 1) (v := .ref cf) (C := RX0) (T := TX0) (N := 11) hx hb hts inX0 hown hK hP h_bk rfl 5 (by decide) (hts _ k_353) (fun _ h9 => h9) rfl dX0_weighEnd_33 ?_
      refine lv_iload_n hx hb dX0_weighEnd_36 rfl (lv_at hl 0 rfl) ?_
      refine o_ild (X := en_) hx hb hK hP h_cf (by omega) (by omega) dX0_weighEnd_37 ?_
      refine q_seti (y := (nI x1)) hCe ?_
      refine lv_iconst (v := (-1)) hx hb dX0_weighEnd_38 (by decide) ?_
      refine lv_icmp_ne (tgt := 43) hx hb dX0_weighEnd_39 (by decide) (fun _ => ?_) (fun hno => absurd hno (q_nem (by decide) (by omega)))
      refine lv_iconst (v := 0) hx hb dX0_weighEnd_43 (by decide) ?_
      refine lv_istore (lv' := [(4, .int 0), (3, .int (nI en_)), (0, .ref bk), (1, .int (nI pl)), (2, .int (nI mo))]) hx hb dX0_weighEnd_44 hl (by decide) rfl (fun ls hl => ?_)
      refine lv_iload_n hx hb dX0_weighEnd_46 rfl (lv_at hl 1 rfl) ?_
      refine lv_aload_n hx hb dX0_weighEnd_47 rfl (lv_at hl 2 rfl) ?_
      refine o_get (D := D) (ci := 1) (v := .int (nI ((qS P pa.length)))) (C := RX0) (T := TX0) (N := 11) hx hb hts inX0 hown hK hP h_bk rfl 4 (by decide) (hts _ k_352) (fun _ h9 => h9) rfl dX0_weighEnd_48 ?_
      refine lv_icmp_ge (tgt := 87) hx hb dX0_weighEnd_51 (by decide) (fun c_3 => ?_) (fun c_3 => ?_)
      · have c_3 := q_le (a := (qS P pa.length)) (b := en_) (by omega) (by omega) c_3
        exact False.elim (by omega)
      · have c_3 := q_nle (a := (qS P pa.length)) (b := en_) (by omega) (by omega) c_3
        refine lv_iload_n hx hb dX0_weighEnd_54 rfl (lv_at hl 4 rfl) ?_
        refine lv_aload_n hx hb dX0_weighEnd_55 rfl (lv_at hl 2 rfl) ?_
        refine o_get (D := D) (ci := 1) (v := .ref lf) (C := RX0) (T := TX0) (N := 11) hx hb hts inX0 hown hK hP h_bk rfl 1 (by decide) (hts _ k_349) (fun _ h9 => h9) rfl dX0_weighEnd_56 ?_
        refine o_cis (k := 0) (n := 0) hK hP hD hS hA (o_rV (As := []) (rest := [.int (nI mo)]) hf (lf_more _ _ _ _ _ _ _ _ pr pcs spr nwh cp pa ea P ne EE lf (pa.length) p0 b0 pq ((P.getD pq d4).2.1 + i + 1) lw h_lf h_pr h_pcs h_pc h_es hpa hQ (by omega) (by omega) (by omega) (by omega) _) k_821 k_818 k_819 k_820 k_94 (nA := 0) (by decide +kernel) ⟨Nat.le_of_ble_eq_true rfl, Nat.le_of_ble_eq_true rfl⟩ hK hP hD hS hA hZ hN h_lf rfl rfl rfl hl.1 rfl (Nat.le_of_ble_eq_true rfl) dX0_weighEnd_59 ⟨(show 0 + 0 ≤ 0 by omega), (show 0 + 0 ≤ 0 by omega)⟩) (Nat.le_refl _) (Nat.le_refl _) (fun r H locs hw hP hD hS => ?_)
        obtain ⟨w9, ew9, rfl⟩ := hw
        obtain rfl : tb = w9 := etb.trans ew9.symm
        refine lv_isub hx hb dX0_weighEnd_62 ?_
        refine q_seti (y := nI (mo - lw - tb)) (nI_subE (a := mo) (b := lw + tb) (by omega) (by omega)) ?_
        refine lv_istore (lv' := [(5, .int (nI (mo - lw - tb))), (4, .int 0), (3, .int (nI en_)), (0, .ref bk), (1, .int (nI pl)), (2, .int (nI mo))]) hx hb dX0_weighEnd_63 hl (by decide) rfl (fun ls hl => ?_)
        refine lv_iload hx hb dX0_weighEnd_65 (lv_at hl 0 rfl) ?_
        refine lv_iload hx hb dX0_weighEnd_67 (lv_at hl 0 rfl) ?_
        refine lv_imul hx hb dX0_weighEnd_69 ?_
        refine q_seti (y := nI ((mo - lw - tb) * (mo - lw - tb))) (nI_mulE (a := mo - lw - tb) (b := mo - lw - tb) rfl) ?_
        obtain ⟨sq, esq⟩ : ∃ x : Nat, x = (mo - lw - tb) * (mo - lw - tb) := ⟨_, rfl⟩
        have hsq : sq ≤ 1600 := by rw [esq]; exact Nat.le_trans (Nat.mul_le_mul (show _ ≤ 40 by omega) (show _ ≤ 40 by omega)) (by decide)
        refine q_seti (y := nI sq) (congrArg nI esq.symm) ?_
        refine lv_aload_n hx hb dX0_weighEnd_70 rfl (lv_at hl 3 rfl) ?_
        refine o_get (D := D) (ci := 1) (v := .ref lf) (C := RX0) (T := TX0) (N := 11) hx hb hts inX0 hown hK hP h_bk rfl 1 (by decide) (hts _ k_349) (fun _ h9 => h9) rfl dX0_weighEnd_71 ?_
        refine o_cis (k := 0) (n := 0) hK hP hD hS hA (o_rV (As := []) (rest := [.int (nI sq)]) hf (lf_bcost _ _ _ _ _ _ _ _ pr pcs spr nwh cp pa ea P ne EE lf (pa.length) p0 b0 pq ((P.getD pq d4).2.1 + i + 1) lw h_lf h_pr h_pcs h_pc h_es hpa hQ (by omega) (by omega) (by omega) (by omega) _) k_849 k_846 k_847 k_848 k_94 (nA := 0) (by decide +kernel) ⟨Nat.le_of_ble_eq_true rfl, Nat.le_of_ble_eq_true rfl⟩ hK hP hD hS hA hZ hN h_lf rfl rfl rfl hl.1 rfl (Nat.le_of_ble_eq_true rfl) dX0_weighEnd_74 ⟨(show 0 + 0 ≤ 0 by omega), (show 0 + 0 ≤ 0 by omega)⟩) (Nat.le_refl _) (Nat.le_refl _) (fun r H locs hw hP hD hS => ?_)
        obtain ⟨w9, ew9, rfl⟩ := hw
        obtain rfl : kc = w9 := ekc.trans ew9.symm
        refine lv_iadd hx hb dX0_weighEnd_77 ?_
        refine q_seti (y := nI (sq + kc)) (nI_addE (a := sq) (b := kc) (by omega)) ?_
        refine lv_aload_n hx hb dX0_weighEnd_78 rfl (lv_at hl 3 rfl) ?_
        refine o_get (D := D) (ci := 1) (v := .ref cf) (C := RX0) (T := TX0) (N := 11) hx hb hts inX0 hown hK hP h_bk rfl 5 (by decide) (hts _ k_353) (fun _ h9 => h9) rfl dX0_weighEnd_79 ?_
        refine lv_iload_n hx hb dX0_weighEnd_82 rfl (lv_at hl 2 rfl) ?_
        refine o_ild (X := en_) hx hb hK hP h_cf (by omega) (by omega) dX0_weighEnd_83 ?_
        refine q_seti (y := (nI x1)) hCe ?_
        refine lv_iadd hx hb dX0_weighEnd_84 ?_
        refine q_seti (y := nI (sq + kc + x1)) (nI_addE (a := sq + kc) (b := x1) (by omega)) ?_
        refine lv_istore (lv' := [(4, .int (nI (sq + kc + x1))), (5, .int (nI (mo - lw - tb))), (3, .int (nI en_)), (0, .ref bk), (1, .int (nI pl)), (2, .int (nI mo))]) hx hb dX0_weighEnd_85 hl (by decide) rfl (fun ls hl => ?_)
        refine lv_aload_n hx hb dX0_weighEnd_87 rfl (lv_at hl 3 rfl) ?_
        refine o_get (D := D) (ci := 1) (v := .ref cf) (C := RX0) (T := TX0) (N := 11) hx hb hts inX0 hown hK hP h_bk rfl 5 (by decide) (hts _ k_353) (fun _ h9 => h9) rfl dX0_weighEnd_88 ?_
        refine lv_iload_n hx hb dX0_weighEnd_91 rfl (lv_at hl 4 rfl) ?_
        refine o_ild (X := pl) hx hb hK hP h_cf (by omega) (by omega) dX0_weighEnd_92 ?_
        refine q_seti (y := (-1)) hCp ?_
        refine lv_iconst (v := (-1)) hx hb dX0_weighEnd_93 (by decide) ?_
        refine lv_icmp_eq (tgt := 108) hx hb dX0_weighEnd_94 (by decide) (fun _ => ?_) (fun hno => absurd hno (by decide))
        refine lv_aload_n hx hb dX0_weighEnd_108 rfl (lv_at hl 3 rfl) ?_
        refine o_get (D := D) (ci := 1) (v := .ref cf) (C := RX0) (T := TX0) (N := 11) hx hb hts inX0 hown hK hP h_bk rfl 5 (by decide) (hts _ k_353) (fun _ h9 => h9) rfl dX0_weighEnd_109 ?_
        refine lv_iload_n hx hb dX0_weighEnd_112 rfl (lv_at hl 4 rfl) ?_
        refine lv_iload hx hb dX0_weighEnd_113 (lv_at hl 0 rfl) ?_
        refine o_ist (X := pl) (x := (nI (sq + kc + x1))) hx hb hK hP hD hS h_cf (by omega) (by omega) dX0_weighEnd_115 (fun g H locs h_cf hu hP hD hS => ?_)
        have h_pr := h_pr.up hu (by decide)
        have h_bk := h_bk.up hu (by decide)
        have h_bop := h_bop.up hu (by decide)
        have h_nx := h_nx.up hu (by decide)
        have h_lf := h_lf.up hu (by decide)
        have hfr := hfr.up hu (by decide)
        have h_pcs := h_pcs.frd hu.fr (by decide)
        have h_pc := h_pc.frd hu.fr (by decide)
        have h_es := h_es.frd hu.fr (by decide)
        refine lv_aload_n hx hb dX0_weighEnd_116 rfl (lv_at hl 3 rfl) ?_
        refine o_get (D := D) (ci := 1) (v := .ref nx) (C := RX0) (T := TX0) (N := 11) hx hb hts inX0 hown hK hP h_bk rfl 6 (by decide) (hts _ k_354) (fun _ h9 => h9) rfl dX0_weighEnd_117 ?_
        refine lv_iload_n hx hb dX0_weighEnd_120 rfl (lv_at hl 4 rfl) ?_
        refine lv_iload_n hx hb dX0_weighEnd_121 rfl (lv_at hl 2 rfl) ?_
        refine o_ist (X := pl) (x := (nI en_)) hx hb hK hP hD hS h_nx (by omega) (by omega) dX0_weighEnd_122 (fun g H locs h_nx hu hP hD hS => ?_)
        have h_pr := h_pr.up hu (by decide)
        have h_bk := h_bk.up hu (by decide)
        have h_bop := h_bop.up hu (by decide)
        have h_cf := h_cf.up hu (by decide)
        have h_lf := h_lf.up hu (by decide)
        have hfr := hfr.up hu (by decide)
        have h_pcs := h_pcs.frd hu.fr (by decide)
        have h_pc := h_pc.frd hu.fr (by decide)
        have h_es := h_es.frd hu.fr (by decide)
        subst esq
        exact o_rv hf hr hlocks hK hP hD hS (show 0 ≤ 0 by omega) (show 0 ≤ 0 by omega) ⟨_, _, ⟨rfl, rfl⟩, hfr, h_cf, h_nx⟩ dX0_weighEnd_123
set_option maxHeartbeats 1000000 in
set_option maxRecDepth 100000 in
theorem we_ss (l : Launch) (D : va_G) (z : Nat → Nat) (cB cI_ cO : ClassId) (L0 : List Nat) (g0 : hG) (pr pcs spr nwh cp : Nat) (pa : List Nat) (ea : Nat → Nat) (P : List Q4) (ne : Nat) (EE : Nat → E5) (bk lf bop cf nx : Nat) (y7 y8 y9 y10 : Int32) (fb : Nat → Int32) (M : Nat) (fc fn : Nat → Int32) (p0 b0 pq i lw mo pl en_ : Nat) (h_pr : ho L0 g0 pr 13 (.inr (7, [.ref pcs, .ref spr, .ref nwh]))) (h_pcs : alR cO (z 0) 14 15 L0 g0 pcs cp pa) (h_pc : pcR L0 g0 ea pa P) (h_es : esR cB cI_ L0 g0 ea ne EE) (h_bk : ho L0 g0 bk 21 (.inr (1, [.ref pr, .ref lf, .ref bop, .int (nI (pa.length)), .int (nI ((qS P pa.length))), .ref cf, .ref nx, .int y7, .int y8, .int y9, .int y10]))) (h_bop : ho L0 g0 bop 22 (.inl (cI_, 61, .inl fb))) (h_cf : ho L0 g0 cf 23 (.inl (cI_, M, .inl fc))) (h_nx : ho L0 g0 nx 24 (.inl (cI_, M, .inl fn))) (h_lf : ho L0 g0 lf 20 (.inr (4, [.ref pr, .int (nI (pa.length)), .int (nI p0), .int (nI b0), .int (nI pq), .int (nI ((P.getD pq d4).2.1 + i + 1)), .int (nI lw)]))) (hpa60 : pa.length ≤ 60) (hpa : pa.length ≤ 20000) (hQ : pq_ok ne EE P) (hU : pu_ok EE P) (hSb : ∀ i, i ≤ pa.length → qS P i ≤ 8000) (hFb : ∀ i, i ≤ pa.length → fb i = nI (qS P i)) (hMs : qS P pa.length < M) (hM : M ≤ 60000) (hp : pq < pa.length) (hi : i < (P.getD pq d4).2.2.1 - (P.getD pq d4).2.1) (hlw : lw ≤ 100) (hmo : mo ≤ 40) (hen : en_ = qS P pq + (i + 1)) (hpl : pl < en_) (x1 y1 : Nat) (hx1 : x1 ≤ 20000000) (hy1 : y1 ≤ 20000000) (hCe : fc en_ = nI x1) (hel : en_ < qS P pa.length) (hCp : fc pl = nI y1) (tb kc : Nat) (etb : tb = pb ((EE (P.getD pq d4).1).1 = 4 ∧ 0 < (P.getD pq d4).2.1 + i + 1 ∧ (P.getD pq d4).2.1 + i + 1 < eRw (EE (P.getD pq d4).1))) (ekc : kc = pif ((P.getD pq d4).2.1 + i + 1 < eRw (EE (P.getD pq d4).1)) (pif ((EE (P.getD pq d4).1).1 = 4) 30 10) 0) (htt : lw + tb ≤ mo) : eV l D yX0_weighEnd cX0_weighEnd 6 none 5 106 0 0 [.ref bk, .int (nI pl), .int (nI mo)] z cB cI_ cO L0 g0 (fun L g => ∃ (fc2 fn2 : Nat → Int32), ((((mo - lw - tb) * (mo - lw - tb) + kc + x1) ≤ y1 ∧ cf_set fc fn fc2 fn2 pl ((mo - lw - tb) * (mo - lw - tb) + kc + x1) en_) ∨ (¬ ((mo - lw - tb) * (mo - lw - tb) + kc + x1) ≤ y1 ∧ fc2 = fc ∧ fn2 = fn)) ∧ fr [23, 24] L0 g0 L g ∧ ho L g cf 23 (.inl (cI_, M, .inl fc2)) ∧ ho L g nx 24 (.inl (cI_, M, .inl fn2))) := by
  refine o_sv (by decide) (Nat.le_of_ble_eq_true rfl) ?_
  intro p e s m below meth c A ls hf hr hlocks hin hK hP hD hS hA hZ hN hl
  obtain ⟨hx, hb, hml, hown, hts⟩ := id hf
  have hl : lv_has ls 6 [(0, .ref bk), (1, .int (nI pl)), (2, .int (nI mo))] := hl
  have hpl_ := h_pc.1
  have hup := hU pq (by omega)
  have hqp := hQ pq (by omega)
  have hrp := h_es.rb hqp.1
  have hSn := hSb pa.length (Nat.le_refl _)
  have hSin := qS_in P hp
  have hlrp : (P.getD pq d4).2.1 + i + 1 ≤ 20000 := by omega
  have hkc := kc_le ekc
  have hfr : fr [23, 24] L0 g0 L0 g0 := fr.rf
  refine lv_aload_n hx hb dX0_weighEnd_0 rfl (lv_at hl 0 rfl) ?_
  refine lv_aload_n hx hb dX0_weighEnd_1 rfl (lv_at hl 0 rfl) ?_
  refine o_get (D := D) (ci := 1) (v := .ref lf) (C := RX0) (T := TX0) (N := 11) hx hb hts inX0 hown hK hP h_bk rfl 1 (by decide) (hts _ k_349) (fun _ h9 => h9) rfl dX0_weighEnd_2 ?_
  refine o_cis (k := 0) (n := 0) hK hP hD hS hA (o_rV (As := []) (rest := [.ref bk]) hf (lf_last _ _ _ _ _ _ _ _ lf (pa.length) p0 b0 pq ((P.getD pq d4).2.1 + i + 1) lw pr h_lf _) k_841 k_838 k_839 k_840 k_94 (nA := 0) (by decide +kernel) ⟨Nat.le_of_ble_eq_true rfl, Nat.le_of_ble_eq_true rfl⟩ hK hP hD hS hA hZ hN h_lf rfl rfl rfl hl.1 rfl (Nat.le_of_ble_eq_true rfl) dX0_weighEnd_5 ⟨(show 0 + 0 ≤ 0 by omega), (show 0 + 0 ≤ 0 by omega)⟩) (Nat.le_refl _) (Nat.le_refl _) (fun r H locs hw hP hD hS => ?_)
  obtain rfl := hw
  refine o_cis (k := 0) (n := 0) hK hP hD hS hA (o_rV (As := [.int (nI pq)]) (rest := []) hf (bk_beg _ _ _ _ _ _ _ _ pr P bk lf bop cf nx (pa.length) ((qS P pa.length)) y7 y8 y9 y10 fb pq h_bk h_bop (by omega) hFb (by omega) _) k_787 k_784 k_786 k_27 k_95 (nA := 1) (by decide +kernel) ⟨Nat.le_of_ble_eq_true rfl, Nat.le_of_ble_eq_true rfl⟩ hK hP hD hS hA hZ hN h_bk rfl rfl rfl hl.1 rfl (Nat.le_of_ble_eq_true rfl) dX0_weighEnd_8 ⟨(show 0 + 0 ≤ 0 by omega), (show 0 + 0 ≤ 0 by omega)⟩) (Nat.le_refl _) (Nat.le_refl _) (fun r H locs hw hP hD hS => ?_)
  obtain rfl := hw
  refine lv_aload_n hx hb dX0_weighEnd_11 rfl (lv_at hl 0 rfl) ?_
  refine o_get (D := D) (ci := 1) (v := .ref lf) (C := RX0) (T := TX0) (N := 11) hx hb hts inX0 hown hK hP h_bk rfl 1 (by decide) (hts _ k_349) (fun _ h9 => h9) rfl dX0_weighEnd_12 ?_
  refine o_cis (k := 0) (n := 0) hK hP hD hS hA (o_rV (As := []) (rest := [.int (nI ((qS P pq)))]) hf (lf_endr _ _ _ _ _ _ _ _ lf (pa.length) p0 b0 pq ((P.getD pq d4).2.1 + i + 1) lw pr h_lf _) k_845 k_842 k_843 k_844 k_94 (nA := 0) (by decide +kernel) ⟨Nat.le_of_ble_eq_true rfl, Nat.le_of_ble_eq_true rfl⟩ hK hP hD hS hA hZ hN h_lf rfl rfl rfl hl.1 rfl (Nat.le_of_ble_eq_true rfl) dX0_weighEnd_15 ⟨(show 0 + 0 ≤ 0 by omega), (show 0 + 0 ≤ 0 by omega)⟩) (Nat.le_refl _) (Nat.le_refl _) (fun r H locs hw hP hD hS => ?_)
  obtain rfl := hw
  refine lv_iadd hx hb dX0_weighEnd_18 ?_
  refine q_seti (y := nI (qS P pq + ((P.getD pq d4).2.1) + i + 1)) (nI_addE (a := (qS P pq)) (b := (P.getD pq d4).2.1 + i + 1) (by omega)) ?_
  refine q_seti (y := nI en_) (congrArg nI (show qS P pq + ((P.getD pq d4).2.1) + i + 1 = en_ by omega)) ?_
  refine lv_istore_n (lv' := [(3, .int (nI en_)), (0, .ref bk), (1, .int (nI pl)), (2, .int (nI mo))]) hx hb dX0_weighEnd_19 rfl hl (by decide) rfl (fun ls hl => ?_)
  refine lv_iload_n hx hb dX0_weighEnd_20 rfl (lv_at hl 0 rfl) ?_
  refine lv_if_lt (tgt := 42) hx hb dX0_weighEnd_21 (by decide) (fun c_1 => ?_) (fun c_1 => ?_)
  · have c_1 := q_lt (a := en_) (b := 0) (by omega) (by omega) c_1
    exact False.elim (by omega)
  · have c_1 := q_nlt (a := en_) (b := 0) (by omega) (by omega) c_1
    refine lv_iload_n hx hb dX0_weighEnd_24 rfl (lv_at hl 0 rfl) ?_
    refine lv_aload_n hx hb dX0_weighEnd_25 rfl (lv_at hl 1 rfl) ?_
    refine o_get (D := D) (ci := 1) (v := .int (nI ((qS P pa.length)))) (C := RX0) (T := TX0) (N := 11) hx hb hts inX0 hown hK hP h_bk rfl 4 (by decide) (hts _ k_352) (fun _ h9 => h9) rfl dX0_weighEnd_26 ?_
    refine lv_icmp_gt (tgt := 42) hx hb dX0_weighEnd_29 (by decide) (fun c_2 => ?_) (fun c_2 => ?_)
    · have c_2 := q_lt (a := (qS P pa.length)) (b := en_) (by omega) (by omega) c_2
      exact False.elim (by omega)
    · have c_2 := q_nlt (a := (qS P pa.length)) (b := en_) (by omega) (by omega) c_2
      refine lv_aload_n hx hb dX0_weighEnd_32 rfl (lv_at hl 1 rfl) ?_
      refine o_get (D := D) (ci := 1) (v := .ref cf) (C := RX0) (T := TX0) (N := 11) hx hb hts inX0 hown hK hP h_bk rfl 5 (by decide) (hts _ k_353) (fun _ h9 => h9) rfl dX0_weighEnd_33 ?_
      refine lv_iload_n hx hb dX0_weighEnd_36 rfl (lv_at hl 0 rfl) ?_
      refine o_ild (X := en_) hx hb hK hP h_cf (by omega) (by omega) dX0_weighEnd_37 ?_
      refine q_seti (y := (nI x1)) hCe ?_
      refine lv_iconst (v := (-1)) hx hb dX0_weighEnd_38 (by decide) ?_
      refine lv_icmp_ne (tgt := 43) hx hb dX0_weighEnd_39 (by decide) (fun _ => ?_) (fun hno => absurd hno (q_nem (by decide) (by omega)))
      refine lv_iconst (v := 0) hx hb dX0_weighEnd_43 (by decide) ?_
      refine lv_istore (lv' := [(4, .int 0), (3, .int (nI en_)), (0, .ref bk), (1, .int (nI pl)), (2, .int (nI mo))]) hx hb dX0_weighEnd_44 hl (by decide) rfl (fun ls hl => ?_)
      refine lv_iload_n hx hb dX0_weighEnd_46 rfl (lv_at hl 1 rfl) ?_
      refine lv_aload_n hx hb dX0_weighEnd_47 rfl (lv_at hl 2 rfl) ?_
      refine o_get (D := D) (ci := 1) (v := .int (nI ((qS P pa.length)))) (C := RX0) (T := TX0) (N := 11) hx hb hts inX0 hown hK hP h_bk rfl 4 (by decide) (hts _ k_352) (fun _ h9 => h9) rfl dX0_weighEnd_48 ?_
      refine lv_icmp_ge (tgt := 87) hx hb dX0_weighEnd_51 (by decide) (fun c_3 => ?_) (fun c_3 => ?_)
      · have c_3 := q_le (a := (qS P pa.length)) (b := en_) (by omega) (by omega) c_3
        exact False.elim (by omega)
      · have c_3 := q_nle (a := (qS P pa.length)) (b := en_) (by omega) (by omega) c_3
        refine lv_iload_n hx hb dX0_weighEnd_54 rfl (lv_at hl 4 rfl) ?_
        refine lv_aload_n hx hb dX0_weighEnd_55 rfl (lv_at hl 2 rfl) ?_
        refine o_get (D := D) (ci := 1) (v := .ref lf) (C := RX0) (T := TX0) (N := 11) hx hb hts inX0 hown hK hP h_bk rfl 1 (by decide) (hts _ k_349) (fun _ h9 => h9) rfl dX0_weighEnd_56 ?_
        refine o_cis (k := 0) (n := 0) hK hP hD hS hA (o_rV (As := []) (rest := [.int (nI mo)]) hf (lf_more _ _ _ _ _ _ _ _ pr pcs spr nwh cp pa ea P ne EE lf (pa.length) p0 b0 pq ((P.getD pq d4).2.1 + i + 1) lw h_lf h_pr h_pcs h_pc h_es hpa hQ (by omega) (by omega) (by omega) (by omega) _) k_821 k_818 k_819 k_820 k_94 (nA := 0) (by decide +kernel) ⟨Nat.le_of_ble_eq_true rfl, Nat.le_of_ble_eq_true rfl⟩ hK hP hD hS hA hZ hN h_lf rfl rfl rfl hl.1 rfl (Nat.le_of_ble_eq_true rfl) dX0_weighEnd_59 ⟨(show 0 + 0 ≤ 0 by omega), (show 0 + 0 ≤ 0 by omega)⟩) (Nat.le_refl _) (Nat.le_refl _) (fun r H locs hw hP hD hS => ?_)
        obtain ⟨w9, ew9, rfl⟩ := hw
        obtain rfl : tb = w9 := etb.trans ew9.symm
        refine lv_isub hx hb dX0_weighEnd_62 ?_
        refine q_seti (y := nI (mo - lw - tb)) (nI_subE (a := mo) (b := lw + tb) (by omega) (by omega)) ?_
        refine lv_istore (lv' := [(5, .int (nI (mo - lw - tb))), (4, .int 0), (3, .int (nI en_)), (0, .ref bk), (1, .int (nI pl)), (2, .int (nI mo))]) hx hb dX0_weighEnd_63 hl (by decide) rfl (fun ls hl => ?_)
        refine lv_iload hx hb dX0_weighEnd_65 (lv_at hl 0 rfl) ?_
        refine lv_iload hx hb dX0_weighEnd_67 (lv_at hl 0 rfl) ?_
        refine lv_imul hx hb dX0_weighEnd_69 ?_
        refine q_seti (y := nI ((mo - lw - tb) * (mo - lw - tb))) (nI_mulE (a := mo - lw - tb) (b := mo - lw - tb) rfl) ?_
        obtain ⟨sq, esq⟩ : ∃ x : Nat, x = (mo - lw - tb) * (mo - lw - tb) := ⟨_, rfl⟩
        have hsq : sq ≤ 1600 := by rw [esq]; exact Nat.le_trans (Nat.mul_le_mul (show _ ≤ 40 by omega) (show _ ≤ 40 by omega)) (by decide)
        refine q_seti (y := nI sq) (congrArg nI esq.symm) ?_
        refine lv_aload_n hx hb dX0_weighEnd_70 rfl (lv_at hl 3 rfl) ?_
        refine o_get (D := D) (ci := 1) (v := .ref lf) (C := RX0) (T := TX0) (N := 11) hx hb hts inX0 hown hK hP h_bk rfl 1 (by decide) (hts _ k_349) (fun _ h9 => h9) rfl dX0_weighEnd_71 ?_
        refine o_cis (k := 0) (n := 0) hK hP hD hS hA (o_rV (As := []) (rest := [.int (nI sq)]) hf (lf_bcost _ _ _ _ _ _ _ _ pr pcs spr nwh cp pa ea P ne EE lf (pa.length) p0 b0 pq ((P.getD pq d4).2.1 + i + 1) lw h_lf h_pr h_pcs h_pc h_es hpa hQ (by omega) (by omega) (by omega) (by omega) _) k_849 k_846 k_847 k_848 k_94 (nA := 0) (by decide +kernel) ⟨Nat.le_of_ble_eq_true rfl, Nat.le_of_ble_eq_true rfl⟩ hK hP hD hS hA hZ hN h_lf rfl rfl rfl hl.1 rfl (Nat.le_of_ble_eq_true rfl) dX0_weighEnd_74 ⟨(show 0 + 0 ≤ 0 by omega), (show 0 + 0 ≤ 0 by omega)⟩) (Nat.le_refl _) (Nat.le_refl _) (fun r H locs hw hP hD hS => ?_)
        obtain ⟨w9, ew9, rfl⟩ := hw
        obtain rfl : kc = w9 := ekc.trans ew9.symm
        refine lv_iadd hx hb dX0_weighEnd_77 ?_
        refine q_seti (y := nI (sq + kc)) (nI_addE (a := sq) (b := kc) (by omega)) ?_
        refine lv_aload_n hx hb dX0_weighEnd_78 rfl (lv_at hl 3 rfl) ?_
        refine o_get (D := D) (ci := 1) (v := .ref cf) (C := RX0) (T := TX0) (N := 11) hx hb hts inX0 hown hK hP h_bk rfl 5 (by decide) (hts _ k_353) (fun _ h9 => h9) rfl dX0_weighEnd_79 ?_
        refine lv_iload_n hx hb dX0_weighEnd_82 rfl (lv_at hl 2 rfl) ?_
        refine o_ild (X := en_) hx hb hK hP h_cf (by omega) (by omega) dX0_weighEnd_83 ?_
        refine q_seti (y := (nI x1)) hCe ?_
        refine lv_iadd hx hb dX0_weighEnd_84 ?_
        refine q_seti (y := nI (sq + kc + x1)) (nI_addE (a := sq + kc) (b := x1) (by omega)) ?_
        refine lv_istore (lv' := [(4, .int (nI (sq + kc + x1))), (5, .int (nI (mo - lw - tb))), (3, .int (nI en_)), (0, .ref bk), (1, .int (nI pl)), (2, .int (nI mo))]) hx hb dX0_weighEnd_85 hl (by decide) rfl (fun ls hl => ?_)
        refine lv_aload_n hx hb dX0_weighEnd_87 rfl (lv_at hl 3 rfl) ?_
        refine o_get (D := D) (ci := 1) (v := .ref cf) (C := RX0) (T := TX0) (N := 11) hx hb hts inX0 hown hK hP h_bk rfl 5 (by decide) (hts _ k_353) (fun _ h9 => h9) rfl dX0_weighEnd_88 ?_
        refine lv_iload_n hx hb dX0_weighEnd_91 rfl (lv_at hl 4 rfl) ?_
        refine o_ild (X := pl) hx hb hK hP h_cf (by omega) (by omega) dX0_weighEnd_92 ?_
        refine q_seti (y := (nI y1)) hCp ?_
        refine lv_iconst (v := (-1)) hx hb dX0_weighEnd_93 (by decide) ?_
        refine lv_icmp_eq (tgt := 108) hx hb dX0_weighEnd_94 (by decide) (fun hno => absurd hno (q_nem (by decide) (by omega))) (fun _ => ?_)
        refine lv_iload hx hb dX0_weighEnd_97 (lv_at hl 0 rfl) ?_
        refine lv_aload_n hx hb dX0_weighEnd_99 rfl (lv_at hl 3 rfl) ?_
        refine o_get (D := D) (ci := 1) (v := .ref cf) (C := RX0) (T := TX0) (N := 11) hx hb hts inX0 hown hK hP h_bk rfl 5 (by decide) (hts _ k_353) (fun _ h9 => h9) rfl dX0_weighEnd_100 ?_
        refine lv_iload_n hx hb dX0_weighEnd_103 rfl (lv_at hl 4 rfl) ?_
        refine o_ild (X := pl) hx hb hK hP h_cf (by omega) (by omega) dX0_weighEnd_104 ?_
        refine q_seti (y := (nI y1)) hCp ?_
        refine lv_icmp_gt (tgt := 123) hx hb dX0_weighEnd_105 (by decide) (fun c_4 => ?_) (fun c_4 => ?_)
        · have c_4 := q_lt (a := y1) (b := sq + kc + x1) (by omega) (by omega) c_4
          subst esq
          exact o_rv hf hr hlocks hK hP hD hS (show 0 ≤ 0 by omega) (show 0 ≤ 0 by omega) ⟨_, _, Or.inr ⟨by omega, rfl, rfl⟩, hfr, h_cf, h_nx⟩ dX0_weighEnd_123
        · have c_4 := q_nlt (a := y1) (b := sq + kc + x1) (by omega) (by omega) c_4
          refine lv_aload_n hx hb dX0_weighEnd_108 rfl (lv_at hl 3 rfl) ?_
          refine o_get (D := D) (ci := 1) (v := .ref cf) (C := RX0) (T := TX0) (N := 11) hx hb hts inX0 hown hK hP h_bk rfl 5 (by decide) (hts _ k_353) (fun _ h9 => h9) rfl dX0_weighEnd_109 ?_
          refine lv_iload_n hx hb dX0_weighEnd_112 rfl (lv_at hl 4 rfl) ?_
          refine lv_iload hx hb dX0_weighEnd_113 (lv_at hl 0 rfl) ?_
          refine o_ist (X := pl) (x := (nI (sq + kc + x1))) hx hb hK hP hD hS h_cf (by omega) (by omega) dX0_weighEnd_115 (fun g H locs h_cf hu hP hD hS => ?_)
          have h_pr := h_pr.up hu (by decide)
          have h_bk := h_bk.up hu (by decide)
          have h_bop := h_bop.up hu (by decide)
          have h_nx := h_nx.up hu (by decide)
          have h_lf := h_lf.up hu (by decide)
          have hfr := hfr.up hu (by decide)
          have h_pcs := h_pcs.frd hu.fr (by decide)
          have h_pc := h_pc.frd hu.fr (by decide)
          have h_es := h_es.frd hu.fr (by decide)
          refine lv_aload_n hx hb dX0_weighEnd_116 rfl (lv_at hl 3 rfl) ?_
          refine o_get (D := D) (ci := 1) (v := .ref nx) (C := RX0) (T := TX0) (N := 11) hx hb hts inX0 hown hK hP h_bk rfl 6 (by decide) (hts _ k_354) (fun _ h9 => h9) rfl dX0_weighEnd_117 ?_
          refine lv_iload_n hx hb dX0_weighEnd_120 rfl (lv_at hl 4 rfl) ?_
          refine lv_iload_n hx hb dX0_weighEnd_121 rfl (lv_at hl 2 rfl) ?_
          refine o_ist (X := pl) (x := (nI en_)) hx hb hK hP hD hS h_nx (by omega) (by omega) dX0_weighEnd_122 (fun g H locs h_nx hu hP hD hS => ?_)
          have h_pr := h_pr.up hu (by decide)
          have h_bk := h_bk.up hu (by decide)
          have h_bop := h_bop.up hu (by decide)
          have h_cf := h_cf.up hu (by decide)
          have h_lf := h_lf.up hu (by decide)
          have hfr := hfr.up hu (by decide)
          have h_pcs := h_pcs.frd hu.fr (by decide)
          have h_pc := h_pc.frd hu.fr (by decide)
          have h_es := h_es.frd hu.fr (by decide)
          subst esq
          exact o_rv hf hr hlocks hK hP hD hS (show 0 ≤ 0 by omega) (show 0 ≤ 0 by omega) ⟨_, _, Or.inl ⟨by omega, ⟨rfl, rfl⟩⟩, hfr, h_cf, h_nx⟩ dX0_weighEnd_123
theorem cf_put {P : List Q4} {fc fn fc2 fn2 : Nat → Int32} {pl co en_ p2 i2 tt : Nat} (hs : cf_set fc fn fc2 fn2 pl co en_) (hpe : qS P p2 + i2 = en_) : (∀ j, ¬ j = pl → fc2 j = fc j ∧ fn2 j = fn j) ∧ cf_is P (some (co, p2, i2, tt)) (fc2 pl) (fn2 pl) := by
  obtain ⟨rfl, rfl⟩ := hs
  exact ⟨fun j hj => ⟨pk_un hj, pk_un hj⟩, pk_us, pk_us.trans (congrArg nI hpe.symm)⟩
theorem bk_wend (l : Launch) (D : va_G) (z : Nat → Nat) (cB cI_ cO : ClassId) (L0 : List Nat) (g0 : hG) (pr pcs spr nwh cp : Nat) (pa : List Nat) (ea : Nat → Nat) (P : List Q4) (ne : Nat) (EE : Nat → E5) (bk lf bop cf nx : Nat) (y7 y8 y9 y10 : Int32) (fb : Nat → Int32) (M : Nat) (fc fn : Nat → Int32) (p0 b0 pq i lw mo pl en_ : Nat) (h_pr : ho L0 g0 pr 13 (.inr (7, [.ref pcs, .ref spr, .ref nwh]))) (h_pcs : alR cO (z 0) 14 15 L0 g0 pcs cp pa) (h_pc : pcR L0 g0 ea pa P) (h_es : esR cB cI_ L0 g0 ea ne EE) (h_bk : ho L0 g0 bk 21 (.inr (1, [.ref pr, .ref lf, .ref bop, .int (nI (pa.length)), .int (nI ((qS P pa.length))), .ref cf, .ref nx, .int y7, .int y8, .int y9, .int y10]))) (h_bop : ho L0 g0 bop 22 (.inl (cI_, 61, .inl fb))) (h_cf : ho L0 g0 cf 23 (.inl (cI_, M, .inl fc))) (h_nx : ho L0 g0 nx 24 (.inl (cI_, M, .inl fn))) (h_lf : ho L0 g0 lf 20 (.inr (4, [.ref pr, .int (nI (pa.length)), .int (nI p0), .int (nI b0), .int (nI pq), .int (nI ((P.getD pq d4).2.1 + i + 1)), .int (nI lw)]))) (hpa60 : pa.length ≤ 60) (hpa : pa.length ≤ 20000) (hQ : pq_ok ne EE P) (hU : pu_ok EE P) (hSb : ∀ i, i ≤ pa.length → qS P i ≤ 8000) (hFb : ∀ i, i ≤ pa.length → fb i = nI (qS P i)) (hMs : qS P pa.length < M) (hM : M ≤ 60000) (hp : pq < pa.length) (hi : i < (P.getD pq d4).2.2.1 - (P.getD pq d4).2.1) (hlw : lw ≤ 100) (hmo : mo ≤ 40) (hen : en_ = qS P pq + (i + 1)) (hpl : pl < en_) (tb kc : Nat) (etb : tb = pb ((EE (P.getD pq d4).1).1 = 4 ∧ 0 < (P.getD pq d4).2.1 + i + 1 ∧ (P.getD pq d4).2.1 + i + 1 < eRw (EE (P.getD pq d4).1))) (ekc : kc = pif ((P.getD pq d4).2.1 + i + 1 < eRw (EE (P.getD pq d4).1)) (pif ((EE (P.getD pq d4).1).1 = 4) 30 10) 0) (htt : lw + tb ≤ mo) (C : Nat → Option Q4) (b : Option Q4) (p2 i2 : Nat) (hC : cf_tab P pa.length C (pl + 1) fc fn) (hb : cf_is P b (fc pl) (fn pl)) (hbo : bk_ok (qF P) (qT P) pa.length pl b) (hpe : qS P p2 + i2 = en_) (h3 : p2 ≤ pa.length) (h4 : p2 < pa.length → i2 < qT P p2 - qF P p2) (h5 : p2 = pa.length → i2 = 0) : eV l D yX0_weighEnd cX0_weighEnd 6 none 5 106 0 0 [.ref bk, .int (nI pl), .int (nI mo)] z cB cI_ cO L0 g0 (fun L g => ∃ fc2 fn2 : Nat → Int32, (∀ j, ¬ j = pl → fc2 j = fc j ∧ fn2 j = fn j) ∧ cf_is P (bk_new C en_ (qS P pa.length) mo kc b p2 i2 (lw + tb)) (fc2 pl) (fn2 pl) ∧ bk_ok (qF P) (qT P) pa.length pl (bk_new C en_ (qS P pa.length) mo kc b p2 i2 (lw + tb)) ∧ fr [23, 24] L0 g0 L g ∧ ho L g cf 23 (.inl (cI_, M, .inl fc2)) ∧ ho L g nx 24 (.inl (cI_, M, .inl fn2))) := by
  have hSn := hSb pa.length (Nat.le_refl _)
  have hSin := qS_in P hp
  have hkc := kc_le ekc
  have hrs : rs_S (qF P) (qT P) pa.length = qS P pa.length := rfl
  have hr2 : rs_S (qF P) (qT P) p2 = qS P p2 := rfl
  by_cases he : en_ = qS P pa.length
  · rw [bk_new_l he]
    have h0 := hC.2.1
    rw [← he] at h0
    have hok := bk_ok_try (co := 0) (tt := lw + tb) hbo (by omega) (by omega) h3 h4 h5 (by omega)
    cases b with
    | none =>
      refine eV_mo (we_ln l D z cB cI_ cO L0 g0 pr pcs spr nwh cp pa ea P ne EE bk lf bop cf nx y7 y8 y9 y10 fb M fc fn p0 b0 pq i lw mo pl en_ h_pr h_pcs h_pc h_es h_bk h_bop h_cf h_nx h_lf hpa60 hpa hQ hU hSb hFb hMs hM hp hi hlw hmo hen hpl h0 he hb.1) (fun L g h => ?_)
      obtain ⟨fc2, fn2, h6, h7⟩ := h
      have h8 := cf_put (P := P) (tt := lw + tb) h6 hpe
      exact ⟨fc2, fn2, h8.1, h8.2, hok, h7⟩
    | some y =>
      have hy := (hbo y rfl).1
      refine eV_mo (we_ls l D z cB cI_ cO L0 g0 pr pcs spr nwh cp pa ea P ne EE bk lf bop cf nx y7 y8 y9 y10 fb M fc fn p0 b0 pq i lw mo pl en_ h_pr h_pcs h_pc h_es h_bk h_bop h_cf h_nx h_lf hpa60 hpa hQ hU hSb hFb hMs hM hp hi hlw hmo hen hpl y.1 (by omega) h0 he hb.1) (fun L g h => ?_)
      obtain ⟨fc2, fn2, h6 | h6, h7⟩ := h
      · have h8 := cf_put (P := P) (tt := lw + tb) h6.2 hpe
        refine ⟨fc2, fn2, h8.1, ?_, hok, h7⟩
        rw [bk_try_p h6.1]
        exact h8.2
      · exact absurd (Nat.zero_le _) h6.1
  · obtain ⟨hc, ho9⟩ := hC.1 en_ (by omega) (by omega)
    cases hcc : C en_ with
    | none =>
      rw [hcc] at hc
      rw [bk_new_n he hcc]
      refine eV_mo (we_n l D z cB cI_ cO L0 g0 pr pcs spr nwh cp pa ea P ne EE bk lf bop cf nx y7 y8 y9 y10 fb M fc fn p0 b0 pq i lw mo pl en_ h_pr h_pcs h_pc h_es h_bk h_bop h_cf h_nx h_lf hpa60 hpa hQ hU hSb hFb hMs hM hp hi hlw hmo hen hpl hc.1 (by omega)) (fun L g h => ?_)
      obtain ⟨_, rfl, rfl⟩ := h
      exact ⟨fc, fn, fun j hj => ⟨rfl, rfl⟩, hb, hbo, fr.rf, h_cf, h_nx⟩
    | some x =>
      rw [hcc] at hc ho9
      have hx9 := (ho9 x rfl).1
      obtain ⟨sq, esq⟩ : ∃ w : Nat, w = (mo - (lw + tb)) * (mo - (lw + tb)) := ⟨_, rfl⟩
      have hsq : sq ≤ 1600 := by rw [esq]; exact Nat.le_trans (Nat.mul_le_mul (show _ ≤ 40 by omega) (show _ ≤ 40 by omega)) (by decide)
      have e1 : (mo - lw - tb) * (mo - lw - tb) + kc + x.1 = x.1 + sq + kc := by
        rw [show mo - lw - tb = mo - (lw + tb) by omega, ← esq]; omega
      rw [bk_new_s he hcc rfl, ← esq]
      have hok := bk_ok_try (co := x.1 + sq + kc) (tt := lw + tb) hbo (by omega) (by omega) h3 h4 h5 (by omega)
      cases b with
      | none =>
        refine eV_mo (we_sn l D z cB cI_ cO L0 g0 pr pcs spr nwh cp pa ea P ne EE bk lf bop cf nx y7 y8 y9 y10 fb M fc fn p0 b0 pq i lw mo pl en_ h_pr h_pcs h_pc h_es h_bk h_bop h_cf h_nx h_lf hpa60 hpa hQ hU hSb hFb hMs hM hp hi hlw hmo hen hpl x.1 (by omega) hc.1 (by omega) hb.1 tb kc etb ekc htt) (fun L g h => ?_)
        obtain ⟨fc2, fn2, h6, h7⟩ := h
        rw [e1] at h6
        have h8 := cf_put (P := P) (tt := lw + tb) h6 hpe
        exact ⟨fc2, fn2, h8.1, h8.2, hok, h7⟩
      | some y =>
        have hy := (hbo y rfl).1
        refine eV_mo (we_ss l D z cB cI_ cO L0 g0 pr pcs spr nwh cp pa ea P ne EE bk lf bop cf nx y7 y8 y9 y10 fb M fc fn p0 b0 pq i lw mo pl en_ h_pr h_pcs h_pc h_es h_bk h_bop h_cf h_nx h_lf hpa60 hpa hQ hU hSb hFb hMs hM hp hi hlw hmo hen hpl x.1 y.1 (by omega) (by omega) hc.1 (by omega) hb.1 tb kc etb ekc htt) (fun L g h => ?_)
        obtain ⟨fc2, fn2, h6, h7⟩ := h
        rw [e1] at h6
        rcases h6 with h6 | h6
        · have h8 := cf_put (P := P) (tt := lw + tb) h6.2 hpe
          refine ⟨fc2, fn2, h8.1, ?_, hok, h7⟩
          rw [bk_try_p h6.1]
          exact h8.2
        · rw [bk_try_g h6.1] at hok ⊢
          obtain ⟨h61, rfl, rfl⟩ := h6
          exact ⟨_, _, fun j hj => ⟨rfl, rfl⟩, hb, hok, h7⟩
