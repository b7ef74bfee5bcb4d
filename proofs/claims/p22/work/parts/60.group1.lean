abbrev N3 : Type := Nat × Nat × Nat
/-- what the desk marked of the best end -/
def mk_is (P : List Q4) (b : Option N3) (v7 v8 v9 : Int32) : Prop := match b with
  | none => True
  | some x => ∃ mp mr : Nat, v7 = nI mp ∧ v8 = nI mr ∧ v9 = nI x.2.2 ∧ ((mp = x.1 ∧ mr = (P.getD mp d4).2.1 + x.2.1 ∧ 0 < x.2.1) ∨ (mp + 1 = x.1 ∧ mr = (P.getD mp d4).2.2.1 ∧ x.2.1 = 0))
theorem tb_g {kd : Int32} {f t r i p en : Nat} (h1 : i < t - f) (h2 : p + 1 < en → t = r) (h3 : p < en) (h4 : t ≤ r) : pb (kd = 4 ∧ 0 < f + i + 1 ∧ f + i + 1 < r) = pb (rp_rb kd f t r p (i + 1) en) := by
  refine pb_iff ⟨fun h => ⟨h.1, ?_⟩, fun h => ⟨h.1, by omega, ?_⟩⟩
  · by_cases h5 : i + 1 < t - f
    · exact Or.inl h5
    · refine Or.inr ⟨?_, by omega⟩
      by_cases h6 : p + 1 < en
      · have h7 := h2 h6; omega
      · omega
  · rcases h.2 with h5 | h5
    · omega
    · omega
theorem ra_g {kd : Int32} {f t r p i fi : Nat} (h1 : i < t - f) (h2 : 0 < f → p = fi) (h4 : t ≤ r) : pb (kd = 4 ∧ 0 < f + i ∧ f + i < r) = pb (rp_ra kd f p i fi) := by
  refine pb_iff ⟨fun h => ⟨h.1, ?_⟩, fun h => ⟨h.1, ?_, by omega⟩⟩
  · by_cases h5 : 0 < i
    · exact Or.inl h5
    · exact Or.inr ⟨h2 (by omega), by omega⟩
  · rcases h.2 with h5 | h5
    · omega
    · omega
theorem rs_stop {K : Nat → Int32} {Fm To Rr : Nat → Nat} {p0 r0 en mo f p i rows al : Nat} {b : Option N3} (h : ¬ (p < en ∧ rows + 1 ≤ mo)) : rs_lay K Fm To Rr p0 r0 en mo f p i rows al b = b := by
  cases f with
  | zero => rfl
  | succ f => exact rs_out rfl (fun z => h ⟨z.1, by omega⟩)
theorem fs_stop {K : Nat → Int32} {Fm To Rr : Nat → Nat} {p0 r0 en mo f p i rows al dd tb : Nat} {b : Option N3} (h1 : p < en) (edd : dd = pb (p0 < p ∧ i = 0 ∧ rp_he (K p) (Fm p))) (etb : tb = pb (rp_rb (K p) (Fm p) (To p) (Rr p) p (i + 1) en)) (h : ¬ rows + dd + 1 + tb ≤ mo) (htb : tb ≤ 1) : rs_lay K Fm To Rr p0 r0 en mo (f + 1) p i rows al b = b := by
  by_cases h2 : rows + dd + 1 ≤ mo
  · rw [rs_in (mb := pb (rp_me (K p) (To p - Fm p) p0 r0 p (i + 1) en)) (b2 := b) (al2 := al) h1 h2 edd etb rfl rfl rfl (if_neg (fun z => h z.1)).symm (if_neg (fun z => h z.1)).symm]
    exact rs_stop (fun z => by omega)
  · exact rs_out edd (fun z => h2 z.2)
abbrev cX2_fillSheet : ByteArray := prog_4_method_11_code
def yX2_fillSheet : MethodName := ⟨RX2, "fillSheet", "(III)V"⟩
abbrev cX2_markPlace : ByteArray := prog_4_method_12_code
def yX2_markPlace : MethodName := ⟨RX2, "markPlace", "()V"⟩
theorem k_36 : (Cond.selects RX2 yX2_markPlace yX2_markPlace) ∈ gT := gT_i 36 (by decide +kernel) rfl
theorem k_96 : (Cond.initialized RX2) ∈ gT := gT_i 96 (by decide +kernel) rfl
theorem k_389 : (Cond.fieldLink RX2 25 "ScriptDesk$GroupLayout" "leaf" "LScriptDesk$Leaf;") ∈ gT := gT_i 389 (by decide +kernel) rfl
theorem k_394 : (Cond.fieldLink RX2 39 "ScriptDesk$GroupLayout" "end" "I") ∈ gT := gT_i 394 (by decide +kernel) rfl
theorem k_395 : (Cond.fieldLink RX2 64 "ScriptDesk$GroupLayout" "markedPiece" "I") ∈ gT := gT_i 395 (by decide +kernel) rfl
theorem k_396 : (Cond.fieldLink RX2 67 "ScriptDesk$GroupLayout" "markedRow" "I") ∈ gT := gT_i 396 (by decide +kernel) rfl
theorem k_397 : (Cond.fieldLink RX2 61 "ScriptDesk$GroupLayout" "markedRows" "I") ∈ gT := gT_i 397 (by decide +kernel) rfl
theorem k_977 : (Cond.methodLink RX2 86 yX3_open) ∈ gT := gT_i 977 (by decide +kernel) rfl
theorem k_978 : (Cond.methodLink RX2 91 yX3_isBehindAll) ∈ gT := gT_i 978 (by decide +kernel) rfl
theorem k_979 : (Cond.methodLink RX2 95 yX3_takeRow) ∈ gT := gT_i 979 (by decide +kernel) rfl
theorem k_980 : (Cond.methodLink RX2 98 yX3_rowsWithMore) ∈ gT := gT_i 980 (by decide +kernel) rfl
theorem k_981 : (Cond.methodLink RX2 102 yX3_mayEnd) ∈ gT := gT_i 981 (by decide +kernel) rfl
theorem k_982 : (Cond.methodLink RX2 105 yX2_markPlace) ∈ gT := gT_i 982 (by decide +kernel) rfl
theorem k_984 : (Cond.instanceMethod yX2_markPlace) ∈ gT := gT_i 984 (by decide +kernel) rfl
theorem k_985 : (Cond.code yX2_markPlace cX2_markPlace 1 none) ∈ gT := gT_i 985 (by decide +kernel) rfl
theorem k_986 : (Cond.methodLink RX2 108 yX3_lastPiece) ∈ gT := gT_i 986 (by decide +kernel) rfl
theorem k_987 : (Cond.methodLink RX2 111 yX3_endRow) ∈ gT := gT_i 987 (by decide +kernel) rfl
theorem dX2_markPlace_0 : decode cX2_markPlace 0 = .ok (.aload_n 0, 1) := by decide +kernel
theorem dX2_markPlace_1 : decode cX2_markPlace 1 = .ok (.aload_n 0, 1) := by decide +kernel
theorem dX2_markPlace_2 : decode cX2_markPlace 2 = .ok (.getfield 25, 3) := by decide +kernel
theorem dX2_markPlace_5 : decode cX2_markPlace 5 = .ok (.invokevirtual 108, 3) := by decide +kernel
theorem dX2_markPlace_8 : decode cX2_markPlace 8 = .ok (.putfield 64, 3) := by decide +kernel
theorem dX2_markPlace_11 : decode cX2_markPlace 11 = .ok (.aload_n 0, 1) := by decide +kernel
theorem dX2_markPlace_12 : decode cX2_markPlace 12 = .ok (.aload_n 0, 1) := by decide +kernel
theorem dX2_markPlace_13 : decode cX2_markPlace 13 = .ok (.getfield 25, 3) := by decide +kernel
theorem dX2_markPlace_16 : decode cX2_markPlace 16 = .ok (.invokevirtual 111, 3) := by decide +kernel
theorem dX2_markPlace_19 : decode cX2_markPlace 19 = .ok (.putfield 67, 3) := by decide +kernel
theorem dX2_markPlace_22 : decode cX2_markPlace 22 = .ok (.aload_n 0, 1) := by decide +kernel
theorem dX2_markPlace_23 : decode cX2_markPlace 23 = .ok (.aload_n 0, 1) := by decide +kernel
theorem dX2_markPlace_24 : decode cX2_markPlace 24 = .ok (.getfield 25, 3) := by decide +kernel
theorem dX2_markPlace_27 : decode cX2_markPlace 27 = .ok (.invokevirtual 98, 3) := by decide +kernel
theorem dX2_markPlace_30 : decode cX2_markPlace 30 = .ok (.putfield 61, 3) := by decide +kernel
theorem dX2_markPlace_33 : decode cX2_markPlace 33 = .ok (.return_, 1) := by decide +kernel
theorem dX2_fillSheet_19 : decode cX2_fillSheet 19 = .ok (.iload 5, 2) := by decide +kernel
theorem dX2_fillSheet_21 : decode cX2_fillSheet 21 = .ok (.iload_n 3, 1) := by decide +kernel
theorem dX2_fillSheet_22 : decode cX2_fillSheet 22 = .ok (.if_icmp .ge 78, 3) := by decide +kernel
theorem dX2_fillSheet_25 : decode cX2_fillSheet 25 = .ok (.aload_n 0, 1) := by decide +kernel
theorem dX2_fillSheet_26 : decode cX2_fillSheet 26 = .ok (.getfield 25, 3) := by decide +kernel
theorem dX2_fillSheet_29 : decode cX2_fillSheet 29 = .ok (.invokevirtual 91, 3) := by decide +kernel
theorem dX2_fillSheet_32 : decode cX2_fillSheet 32 = .ok (.ifCond .ne 68, 3) := by decide +kernel
theorem dX2_fillSheet_35 : decode cX2_fillSheet 35 = .ok (.aload_n 0, 1) := by decide +kernel
theorem dX2_fillSheet_36 : decode cX2_fillSheet 36 = .ok (.getfield 25, 3) := by decide +kernel
theorem dX2_fillSheet_39 : decode cX2_fillSheet 39 = .ok (.invokevirtual 95, 3) := by decide +kernel
theorem dX2_fillSheet_42 : decode cX2_fillSheet 42 = .ok (.aload_n 0, 1) := by decide +kernel
theorem dX2_fillSheet_43 : decode cX2_fillSheet 43 = .ok (.getfield 25, 3) := by decide +kernel
theorem dX2_fillSheet_46 : decode cX2_fillSheet 46 = .ok (.invokevirtual 98, 3) := by decide +kernel
theorem dX2_fillSheet_49 : decode cX2_fillSheet 49 = .ok (.iload_n 3, 1) := by decide +kernel
theorem dX2_fillSheet_50 : decode cX2_fillSheet 50 = .ok (.if_icmp .le 4, 3) := by decide +kernel
theorem dX2_fillSheet_54 : decode cX2_fillSheet 54 = .ok (.aload_n 0, 1) := by decide +kernel
theorem dX2_fillSheet_55 : decode cX2_fillSheet 55 = .ok (.getfield 25, 3) := by decide +kernel
theorem dX2_fillSheet_58 : decode cX2_fillSheet 58 = .ok (.invokevirtual 102, 3) := by decide +kernel
theorem dX2_fillSheet_61 : decode cX2_fillSheet 61 = .ok (.istore 6, 2) := by decide +kernel
theorem dX2_fillSheet_63 : decode cX2_fillSheet 63 = .ok (.iload 6, 2) := by decide +kernel
theorem dX2_fillSheet_65 : decode cX2_fillSheet 65 = .ok (.ifCond .ne 8, 3) := by decide +kernel
theorem dX2_fillSheet_73 : decode cX2_fillSheet 73 = .ok (.aload_n 0, 1) := by decide +kernel
theorem dX2_fillSheet_74 : decode cX2_fillSheet 74 = .ok (.invokevirtual 105, 3) := by decide +kernel
theorem dX2_fillSheet_77 : decode cX2_fillSheet 77 = .ok (.iload 4, 2) := by decide +kernel
theorem dX2_fillSheet_79 : decode cX2_fillSheet 79 = .ok (.ifCond .ne 8, 3) := by decide +kernel
theorem dX2_fillSheet_87 : decode cX2_fillSheet 87 = .ok (.iconst 1, 1) := by decide +kernel
theorem dX2_fillSheet_88 : decode cX2_fillSheet 88 = .ok (.goto 4, 3) := by decide +kernel
theorem dX2_fillSheet_92 : decode cX2_fillSheet 92 = .ok (.istore 4, 2) := by decide +kernel
theorem dX2_fillSheet_94 : decode cX2_fillSheet 94 = .ok (.iinc 5 1, 3) := by decide +kernel
theorem dX2_fillSheet_97 : decode cX2_fillSheet 97 = .ok (.goto (-78), 3) := by decide +kernel
theorem dX2_fillSheet_82 : decode cX2_fillSheet 82 = .ok (.iload 6, 2) := by decide +kernel
theorem dX2_fillSheet_84 : decode cX2_fillSheet 84 = .ok (.ifCond .eq 7, 3) := by decide +kernel
theorem dX2_fillSheet_68 : decode cX2_fillSheet 68 = .ok (.iload 4, 2) := by decide +kernel
theorem dX2_fillSheet_70 : decode cX2_fillSheet 70 = .ok (.ifCond .ne 7, 3) := by decide +kernel
theorem dX2_fillSheet_91 : decode cX2_fillSheet 91 = .ok (.iconst 0, 1) := by decide +kernel
theorem dX2_fillSheet_0 : decode cX2_fillSheet 0 = .ok (.iconst 0, 1) := by decide +kernel
theorem dX2_fillSheet_1 : decode cX2_fillSheet 1 = .ok (.istore 4, 2) := by decide +kernel
theorem dX2_fillSheet_3 : decode cX2_fillSheet 3 = .ok (.aload_n 0, 1) := by decide +kernel
theorem dX2_fillSheet_4 : decode cX2_fillSheet 4 = .ok (.getfield 25, 3) := by decide +kernel
theorem dX2_fillSheet_7 : decode cX2_fillSheet 7 = .ok (.iload_n 1, 1) := by decide +kernel
theorem dX2_fillSheet_8 : decode cX2_fillSheet 8 = .ok (.iload_n 2, 1) := by decide +kernel
theorem dX2_fillSheet_9 : decode cX2_fillSheet 9 = .ok (.aload_n 0, 1) := by decide +kernel
theorem dX2_fillSheet_10 : decode cX2_fillSheet 10 = .ok (.getfield 39, 3) := by decide +kernel
theorem dX2_fillSheet_13 : decode cX2_fillSheet 13 = .ok (.invokevirtual 86, 3) := by decide +kernel
theorem dX2_fillSheet_16 : decode cX2_fillSheet 16 = .ok (.iconst 0, 1) := by decide +kernel
theorem dX2_fillSheet_17 : decode cX2_fillSheet 17 = .ok (.istore 5, 2) := by decide +kernel
theorem dX2_fillSheet_53 : decode cX2_fillSheet 53 = .ok (.return_, 1) := by decide +kernel
theorem dX2_fillSheet_100 : decode cX2_fillSheet 100 = .ok (.return_, 1) := by decide +kernel
set_option maxHeartbeats 1000000 in
set_option maxRecDepth 100000 in
theorem gl_mark (l : Launch) (D : va_G) (z : Nat → Nat) (cB cI_ cO : ClassId) (L0 : List Nat) (g0 : hG) (pr pcs spr nwh cp : Nat) (pa : List Nat) (ea : Nat → Nat) (P : List Q4) (ne : Nat) (EE : Nat → E5) (gl lf ra fa la sc en : Nat) (v7 v8 v9 : Int32) (p0 b0 lp lr lw tb : Nat) (h_pr : ho L0 g0 pr 13 (.inr (7, [.ref pcs, .ref spr, .ref nwh]))) (h_pcs : alR cO (z 0) 14 15 L0 g0 pcs cp pa) (h_pc : pcR L0 g0 ea pa P) (h_es : esR cB cI_ L0 g0 ea ne EE) (h_gl : ho L0 g0 gl 25 (.inr (3, [.ref pr, .ref lf, .ref ra, .ref fa, .ref la, .int (nI sc), .int (nI en), .int v7, .int v8, .int v9]))) (h_lf : ho L0 g0 lf 20 (.inr (4, [.ref pr, .int (nI en), .int (nI p0), .int (nI b0), .int (nI lp), .int (nI lr), .int (nI lw)]))) (hpa : pa.length ≤ 20000) (hQ : pq_ok ne EE P) (hen : en ≤ pa.length) (hl0 : lp < en) (hlr : lr ≤ 20000) (hlw : lw ≤ 20000) (etb : tb = pb ((EE (P.getD lp d4).1).1 = 4 ∧ 0 < lr ∧ lr < eRw (EE (P.getD lp d4).1))) : eV l D yX2_markPlace cX2_markPlace 1 none 5 105 0 0 [.ref gl] z cB cI_ cO L0 g0 (fun L g => fr [25] L0 g0 L g ∧ ho L g gl 25 (.inr (3, [.ref pr, .ref lf, .ref ra, .ref fa, .ref la, .int (nI sc), .int (nI en), .int (nI lp), .int (nI lr), .int (nI (lw + tb))]))) := by
  refine o_sv (by decide) (Nat.le_of_ble_eq_true rfl) ?_
  intro p e s m below meth c A ls hf hr hlocks hin hK hP hD hS hA hZ hN hl
  obtain ⟨hx, hb, hml, hown, hts⟩ := id hf
  have hl : lv_has ls 1 [(0, .ref gl)] := hl
  have hfr : fr [25] L0 g0 L0 g0 := fr.rf
  refine lv_aload_n hx hb dX2_markPlace_0 rfl (lv_at hl 0 rfl) ?_
  refine lv_aload_n hx hb dX2_markPlace_1 rfl (lv_at hl 0 rfl) ?_
  refine o_get (D := D) (ci := 3) (v := .ref lf) (C := RX2) (T := TX2) (N := 10) hx hb hts inX2 hown hK hP h_gl rfl 1 (by decide) (hts _ k_389) (fun _ h9 => h9) rfl dX2_markPlace_2 ?_
  refine o_cis (k := 0) (n := 0) hK hP hD hS hA (o_rV (As := []) (rest := [.ref gl]) hf (lf_last _ _ _ _ _ _ _ _ lf en p0 b0 lp lr lw pr h_lf _) k_841 k_986 k_839 k_840 k_94 (nA := 0) (by decide +kernel) ⟨Nat.le_of_ble_eq_true rfl, Nat.le_of_ble_eq_true rfl⟩ hK hP hD hS hA hZ hN h_lf rfl rfl rfl hl.1 rfl (Nat.le_of_ble_eq_true rfl) dX2_markPlace_5 ⟨(show 0 + 0 ≤ 0 by omega), (show 0 + 0 ≤ 0 by omega)⟩) (Nat.le_refl _) (Nat.le_refl _) (fun r H locs hw hP hD hS => ?_)
  obtain rfl := hw
  refine o_put (D := D) (ci := 3) (v := .int (nI lp)) (ty := .int) (C := RX2) (T := TX2) (N := 10) (fs1 := [.ref pr, .ref lf, .ref ra, .ref fa, .ref la, .int (nI sc), .int (nI en), .int (nI lp), .int v8, .int v9]) hx hb hts inX2 tyX2 tyX2_ok nmX2 hown hK hP hD hS h_gl rfl 7 (by decide) (hts _ k_395) (fun _ h9 => h9) rfl (by decide +kernel) rfl rfl (Nat.le_of_ble_eq_true rfl) rfl dX2_markPlace_8 (fun g H locs h_gl hu hP hD hS => ?_)
  have h_pr := h_pr.up hu (by decide)
  have h_lf := h_lf.up hu (by decide)
  have hfr := hfr.up hu (by decide)
  have h_pcs := h_pcs.frd hu.fr (by decide)
  have h_pc := h_pc.frd hu.fr (by decide)
  have h_es := h_es.frd hu.fr (by decide)
  refine lv_aload_n hx hb dX2_markPlace_11 rfl (lv_at hl 0 rfl) ?_
  refine lv_aload_n hx hb dX2_markPlace_12 rfl (lv_at hl 0 rfl) ?_
  refine o_get (D := D) (ci := 3) (v := .ref lf) (C := RX2) (T := TX2) (N := 10) hx hb hts inX2 hown hK hP h_gl rfl 1 (by decide) (hts _ k_389) (fun _ h9 => h9) rfl dX2_markPlace_13 ?_
  refine o_cis (k := 0) (n := 0) hK hP hD hS hA (o_rV (As := []) (rest := [.ref gl]) hf (lf_endr _ _ _ _ _ _ _ _ lf en p0 b0 lp lr lw pr h_lf _) k_845 k_987 k_843 k_844 k_94 (nA := 0) (by decide +kernel) ⟨Nat.le_of_ble_eq_true rfl, Nat.le_of_ble_eq_true rfl⟩ hK hP hD hS hA hZ hN h_lf rfl rfl rfl hl.1 rfl (Nat.le_of_ble_eq_true rfl) dX2_markPlace_16 ⟨(show 0 + 0 ≤ 0 by omega), (show 0 + 0 ≤ 0 by omega)⟩) (Nat.le_refl _) (Nat.le_refl _) (fun r H locs hw hP hD hS => ?_)
  obtain rfl := hw
  refine o_put (D := D) (ci := 3) (v := .int (nI lr)) (ty := .int) (C := RX2) (T := TX2) (N := 10) (fs1 := [.ref pr, .ref lf, .ref ra, .ref fa, .ref la, .int (nI sc), .int (nI en), .int (nI lp), .int (nI lr), .int v9]) hx hb hts inX2 tyX2 tyX2_ok nmX2 hown hK hP hD hS h_gl rfl 8 (by decide) (hts _ k_396) (fun _ h9 => h9) rfl (by decide +kernel) rfl rfl (Nat.le_of_ble_eq_true rfl) rfl dX2_markPlace_19 (fun g H locs h_gl hu hP hD hS => ?_)
  have h_pr := h_pr.up hu (by decide)
  have h_lf := h_lf.up hu (by decide)
  have hfr := hfr.up hu (by decide)
  have h_pcs := h_pcs.frd hu.fr (by decide)
  have h_pc := h_pc.frd hu.fr (by decide)
  have h_es := h_es.frd hu.fr (by decide)
  refine lv_aload_n hx hb dX2_markPlace_22 rfl (lv_at hl 0 rfl) ?_
  refine lv_aload_n hx hb dX2_markPlace_23 rfl (lv_at hl 0 rfl) ?_
  refine o_get (D := D) (ci := 3) (v := .ref lf) (C := RX2) (T := TX2) (N := 10) hx hb hts inX2 hown hK hP h_gl rfl 1 (by decide) (hts _ k_389) (fun _ h9 => h9) rfl dX2_markPlace_24 ?_
  refine o_cis (k := 0) (n := 0) hK hP hD hS hA (o_rV (As := []) (rest := [.ref gl]) hf (lf_more _ _ _ _ _ _ _ _ pr pcs spr nwh cp pa ea P ne EE lf en p0 b0 lp lr lw h_lf h_pr h_pcs h_pc h_es hpa hQ (by omega) (by omega) (by omega) (by omega) _) k_821 k_980 k_819 k_820 k_94 (nA := 0) (by decide +kernel) ⟨Nat.le_of_ble_eq_true rfl, Nat.le_of_ble_eq_true rfl⟩ hK hP hD hS hA hZ hN h_lf rfl rfl rfl hl.1 rfl (Nat.le_of_ble_eq_true rfl) dX2_markPlace_27 ⟨(show 0 + 0 ≤ 0 by omega), (show 0 + 0 ≤ 0 by omega)⟩) (Nat.le_refl _) (Nat.le_refl _) (fun r H locs hw hP hD hS => ?_)
  obtain ⟨w9, ew9, rfl⟩ := hw
  obtain rfl : tb = w9 := etb.trans ew9.symm
  refine o_put (D := D) (ci := 3) (v := .int (nI (lw + tb))) (ty := .int) (C := RX2) (T := TX2) (N := 10) (fs1 := [.ref pr, .ref lf, .ref ra, .ref fa, .ref la, .int (nI sc), .int (nI en), .int (nI lp), .int (nI lr), .int (nI (lw + tb))]) hx hb hts inX2 tyX2 tyX2_ok nmX2 hown hK hP hD hS h_gl rfl 9 (by decide) (hts _ k_397) (fun _ h9 => h9) rfl (by decide +kernel) rfl rfl (Nat.le_of_ble_eq_true rfl) rfl dX2_markPlace_30 (fun g H locs h_gl hu hP hD hS => ?_)
  have h_pr := h_pr.up hu (by decide)
  have h_lf := h_lf.up hu (by decide)
  have hfr := hfr.up hu (by decide)
  have h_pcs := h_pcs.frd hu.fr (by decide)
  have h_pc := h_pc.frd hu.fr (by decide)
  have h_es := h_es.frd hu.fr (by decide)
  exact o_rv hf hr hlocks hK hP hD hS (show 0 ≤ 0 by omega) (show 0 ≤ 0 by omega) ⟨hfr, h_gl⟩ dX2_markPlace_33
set_option maxHeartbeats 1000000 in
set_option maxRecDepth 100000 in
theorem fs_loop {p : Program} {l : Launch} {e : Env} {R : Room} {s : State} {m : MethodId} {args : Array Value} {below : List Frame} {meth : Method} {c : Code} {Q : State → Prop} {D : va_G} {A : Nat → Prop} {z : Nat → Nat} {cB cI_ cO : ClassId} {L0 : List Nat} {g0 : hG} {pr pcs spr nwh cp : Nat} {pa : List Nat} {ea : Nat → Nat} {P : List Q4} {ne : Nat} {EE : Nat → E5} {gl lf ra fa la sc en fi mo p0 r0 : Nat} (hpa : pa.length ≤ 20000) (hQ : pq_ok ne EE P) (hen : en ≤ pa.length) (hgF : ∀ p, fi < p → p < en → (P.getD p d4).2.1 = 0) (hgT : ∀ p, fi ≤ p → p + 1 < en → (P.getD p d4).2.2.1 = eRw (EE (P.getD p d4).1)) (hfi : fi ≤ p0) (hmo : mo ≤ 40) (hp0 : p0 < en) (hr0 : r0 < (P.getD p0 d4).2.2.1 - (P.getD p0 d4).2.1) (hb0 : (P.getD p0 d4).2.1 + r0 ≤ 200) (hRf : 8 ≤ R.frames) (hRl : 220 ≤ R.locals) (hA : ∀ q : Nat, s.heap.size ≤ q → A q) (hf : CallFix p m c cX2_fillSheet 7 s args gT yX2_fillSheet.cls) (hK : va_K D vcl (dT cB cI_ cO) s) (hZ : zA z A s s.heap) (hN : zB z s) :
    ∀ (k : Nat) (pq : Nat) (i : Nat) (lw : Nat) (lp : Nat) (lr : Nat) (j : Nat) (al : Nat) (b : Option N3) (v7 : Int32) (v8 : Int32) (v9 : Int32) (cells slots : Nat) (L : List Nat) (g : hG) (H : Heap) (locs : List Loc) (ls : Array Slot), mo + 1 ≤ k + lw → lw ≤ mo → j ≤ lw → pq ≤ en → lp < en → lr ≤ 200 → (pq < en → i < (P.getD pq d4).2.2.1 - (P.getD pq d4).2.1) → ((lp = pq ∧ lr = (P.getD pq d4).2.1 + i ∧ (pq = p0 ∨ 0 < i)) ∨ (lp + 1 = pq ∧ lr = (P.getD lp d4).2.2.1 ∧ i = 0 ∧ p0 < pq)) → (p0 < pq ∨ (p0 = pq ∧ r0 ≤ i)) → al ≤ 1 → mk_is P b v7 v8 v9 → cells ≤ R.cells → slots ≤ R.slots → ho L g pr 13 (.inr (7, [.ref pcs, .ref spr, .ref nwh])) → alR cO (z 0) 14 15 L g pcs cp pa → pcR L g ea pa P → esR cB cI_ L g ea ne EE → ho L g gl 25 (.inr (3, [.ref pr, .ref lf, .ref ra, .ref fa, .ref la, .int (nI sc), .int (nI en), .int v7, .int v8, .int v9])) → ho L g lf 20 (.inr (4, [.ref pr, .int (nI en), .int (nI p0), .int (nI ((P.getD p0 d4).2.1 + r0)), .int (nI lp), .int (nI lr), .int (nI lw)])) → fr [20, 25] L0 g0 L g → va_P D vcl (dW L g) H → va_D A (dW L g) → va_S A s.heap H locs → lv_has ls 7 [(5, .int (nI j)), (4, .int (nI al)), (0, .ref gl), (1, .int (nI p0)), (2, .int (nI ((P.getD p0 d4).2.1 + r0))), (3, .int (nI mo))] →
    (∀ (b2 : Option N3) (w7 : Int32) (w8 : Int32) (w9 : Int32) (x1 : Int32) (x2 : Int32) (x3 : Int32) (x4 : Int32) (x5 : Int32) (x6 : Int32)  (L : List Nat) (g : hG) (H : Heap) (locs : List Loc) (ls : Array Slot), b2 = rs_lay (qK EE P) (qF P) (qT P) (qR EE P) p0 r0 en mo k pq i lw al b → mk_is P b2 w7 w8 w9 → ho L g pr 13 (.inr (7, [.ref pcs, .ref spr, .ref nwh])) → alR cO (z 0) 14 15 L g pcs cp pa → pcR L g ea pa P → esR cB cI_ L g ea ne EE → ho L g gl 25 (.inr (3, [.ref pr, .ref lf, .ref ra, .ref fa, .ref la, .int (nI sc), .int (nI en), .int w7, .int w8, .int w9])) → ho L g lf 20 (.inr (4, [.ref pr, .int x1, .int x2, .int x3, .int x4, .int x5, .int x6])) → fr [20, 25] L0 g0 L g → va_P D vcl (dW L g) H → va_D A (dW L g) → va_S A s.heap H locs → lv_has ls 7 [(0, .ref gl)] → W p l e R s m args below meth c H locs cells slots Q (F0 m 53 ls [])) →
    (∀ (b2 : Option N3) (w7 : Int32) (w8 : Int32) (w9 : Int32) (x1 : Int32) (x2 : Int32) (x3 : Int32) (x4 : Int32) (x5 : Int32) (x6 : Int32)  (L : List Nat) (g : hG) (H : Heap) (locs : List Loc) (ls : Array Slot), b2 = rs_lay (qK EE P) (qF P) (qT P) (qR EE P) p0 r0 en mo k pq i lw al b → mk_is P b2 w7 w8 w9 → ho L g pr 13 (.inr (7, [.ref pcs, .ref spr, .ref nwh])) → alR cO (z 0) 14 15 L g pcs cp pa → pcR L g ea pa P → esR cB cI_ L g ea ne EE → ho L g gl 25 (.inr (3, [.ref pr, .ref lf, .ref ra, .ref fa, .ref la, .int (nI sc), .int (nI en), .int w7, .int w8, .int w9])) → ho L g lf 20 (.inr (4, [.ref pr, .int x1, .int x2, .int x3, .int x4, .int x5, .int x6])) → fr [20, 25] L0 g0 L g → va_P D vcl (dW L g) H → va_D A (dW L g) → va_S A s.heap H locs → lv_has ls 7 [(0, .ref gl)] → W p l e R s m args below meth c H locs cells slots Q (F0 m 100 ls [])) →
    W p l e R s m args below meth c H locs cells slots Q (F0 m 19 ls []) := by
  obtain ⟨hx, hb, hml, hown, hts⟩ := id hf
  intro k
  induction k with
  | zero =>
    intro pq i lw lp lr j al b v7 v8 v9 cells slots L g H locs ls hfu hlwm hj hple hlp hlr hi hR hge hal hmk hRc hRs h_pr h_pcs h_pc h_es h_gl h_lf hfr hP hD hS hl kk1 kk0
    refine lv_iload hx hb dX2_fillSheet_19 (lv_at hl 0 rfl) ?_
    exact False.elim (by omega)
  | succ k ih =>
    intro pq i lw lp lr j al b v7 v8 v9 cells slots L g H locs ls hfu hlwm hj hple hlp hlr hi hR hge hal hmk hRc hRs h_pr h_pcs h_pc h_es h_gl h_lf hfr hP hD hS hl kk1 kk0
    refine lv_iload hx hb dX2_fillSheet_19 (lv_at hl 0 rfl) ?_
    refine lv_iload_n hx hb dX2_fillSheet_21 rfl (lv_at hl 5 rfl) ?_
    refine lv_icmp_ge (tgt := 100) hx hb dX2_fillSheet_22 (by decide) (fun c_1 => ?_) (fun c_1 => ?_)
    · have c_1 := q_le (a := mo) (b := j) (by omega) (by omega) c_1
      exact kk0 b v7 v8 v9 (nI en) (nI p0) (nI ((P.getD p0 d4).2.1 + r0)) (nI lp) (nI lr) (nI lw) _ _ H locs ls (rs_stop (fun z9 => by omega)).symm hmk h_pr h_pcs h_pc h_es h_gl h_lf hfr hP hD hS (lv_sub hl (l' := [(0, .ref gl)]) [2] rfl)
    · have c_1 := q_nle (a := mo) (b := j) (by omega) (by omega) c_1
      refine lv_aload_n hx hb dX2_fillSheet_25 rfl (lv_at hl 2 rfl) ?_
      refine o_get (D := D) (ci := 3) (v := .ref lf) (C := RX2) (T := TX2) (N := 10) hx hb hts inX2 hown hK hP h_gl rfl 1 (by decide) (hts _ k_389) (fun _ h9 => h9) rfl dX2_fillSheet_26 ?_
      refine o_cis (k := cells) (n := slots) hK hP hD hS hA (o_rV (As := []) (rest := []) hf (lf_beh _ _ _ _ _ _ _ _ pr pcs spr nwh cp pa ea P ne EE lf en p0 ((P.getD p0 d4).2.1 + r0) lp lr lw h_lf h_pr h_pcs h_pc h_es hpa hQ (by omega) (by omega) (by omega) _) k_804 k_978 k_802 k_803 k_94 (nA := 0) (by decide +kernel) ⟨Nat.le_trans (by decide) hRf, Nat.le_trans (by decide) hRl⟩ hK hP hD hS hA hZ hN h_lf rfl rfl rfl hl.1 rfl (Nat.le_of_ble_eq_true rfl) dX2_fillSheet_29 ⟨(show cells + 0 ≤ R.cells by omega), (show slots + 0 ≤ R.slots by omega)⟩) (Nat.le_refl _) (Nat.le_refl _) (fun r H locs hw hP hD hS => ?_)
      rcases hw with ⟨c_2, rfl⟩ | ⟨c_2, rfl⟩
      · have hP := hP
        refine lv_if_ne (tgt := 100) hx hb dX2_fillSheet_32 (by decide) (fun _ => ?_) (fun hno => absurd hno (by decide))
        exact kk0 b v7 v8 v9 (nI en) (nI p0) (nI ((P.getD p0 d4).2.1 + r0)) (nI lp) (nI lr) (nI lw) _ _ H locs ls (rs_stop (fun z9 => by
          have h8 := z9.1
          rcases hR with ⟨rfl, h9, _⟩ | ⟨h9, _, _, _⟩
          · have h7 := hi h8; omega
          · omega)).symm hmk h_pr h_pcs h_pc h_es h_gl h_lf hfr hP hD hS (lv_sub hl (l' := [(0, .ref gl)]) [2] rfl)
      · have hP := hP
        refine lv_if_ne (tgt := 100) hx hb dX2_fillSheet_32 (by decide) (fun hno => absurd hno (by decide)) (fun _ => ?_)
        have hpn : pq < en := by omega
        have hpl_ := h_pc.1
        have hqp := hQ pq (by omega)
        have hrp := h_es.rb hqp.1
        have hi1 := hi hpn
        have hz1 : pq + 1 < en → 0 < (P.getD (pq + 1) d4).2.2.1 - (P.getD (pq + 1) d4).2.1 := fun h9 => by have h8 := hQ (pq + 1) (by omega); omega
        obtain ⟨dd, edd⟩ : ∃ x : Nat, x = pb (p0 < pq ∧ i = 0 ∧ rp_he ((EE (P.getD pq d4).1).1) ((P.getD pq d4).2.1)) := ⟨_, rfl⟩
        have hdd : dd ≤ 1 := by rw [edd]; exact pb_le _
        obtain ⟨tb, etb⟩ : ∃ x : Nat, x = pb ((EE (P.getD pq d4).1).1 = 4 ∧ 0 < (P.getD pq d4).2.1 + i + 1 ∧ (P.getD pq d4).2.1 + i + 1 < eRw (EE (P.getD pq d4).1)) := ⟨_, rfl⟩
        have htb : tb ≤ 1 := by rw [etb]; exact pb_le _
        have etb2 := etb.trans (tb_g (p := pq) (en := en) hi1 (hgT pq (by omega)) hpn hqp.2.2)
        refine lv_aload_n hx hb dX2_fillSheet_35 rfl (lv_at hl 2 rfl) ?_
        refine o_get (D := D) (ci := 3) (v := .ref lf) (C := RX2) (T := TX2) (N := 10) hx hb hts inX2 hown hK hP h_gl rfl 1 (by decide) (hts _ k_389) (fun _ h9 => h9) rfl dX2_fillSheet_36 ?_
        refine o_cv (k := cells) (n := slots) hK hP hD hS hA (o_rV (As := []) (rest := []) hf (lf_take _ _ _ _ _ _ _ _ pr pcs spr nwh cp pa ea P ne EE lf en p0 ((P.getD p0 d4).2.1 + r0) lp lr lw pq i h_lf h_pr h_pcs h_pc h_es hpa hQ (by omega) (by omega) hpn (hi hpn) hR _) k_808 k_979 k_806 k_807 k_94 (nA := 0) (by decide +kernel) ⟨Nat.le_trans (by decide) hRf, Nat.le_trans (by decide) hRl⟩ hK hP hD hS hA hZ hN h_lf rfl rfl rfl hl.1 rfl (Nat.le_of_ble_eq_true rfl) dX2_fillSheet_39 ⟨(show cells + 0 ≤ R.cells by omega), (show slots + 0 ≤ R.slots by omega)⟩) (Nat.le_refl _) (Nat.le_refl _) (fun L g H locs hw hP hD hS => ?_)
        obtain ⟨hf9, h_lf⟩ := hw
        have h_pr := h_pr.fr hf9 (by decide)
        have h_gl := h_gl.fr hf9 (by decide)
        have hfr := hfr.tm hf9 (by decide)
        have h_pcs := h_pcs.frd hf9 (by decide)
        have h_pc := h_pc.frd hf9 (by decide)
        have h_es := h_es.frd hf9 (by decide)
        rw [← edd] at h_lf
        refine lv_aload_n hx hb dX2_fillSheet_42 rfl (lv_at hl 2 rfl) ?_
        refine o_get (D := D) (ci := 3) (v := .ref lf) (C := RX2) (T := TX2) (N := 10) hx hb hts inX2 hown hK hP h_gl rfl 1 (by decide) (hts _ k_389) (fun _ h9 => h9) rfl dX2_fillSheet_43 ?_
        refine o_cis (k := cells) (n := slots) hK hP hD hS hA (o_rV (As := []) (rest := []) hf (lf_more _ _ _ _ _ _ _ _ pr pcs spr nwh cp pa ea P ne EE lf en p0 ((P.getD p0 d4).2.1 + r0) pq ((P.getD pq d4).2.1 + i + 1) (lw + dd + 1) h_lf h_pr h_pcs h_pc h_es hpa hQ (by omega) (by omega) (by omega) (by omega) _) k_821 k_980 k_819 k_820 k_94 (nA := 0) (by decide +kernel) ⟨Nat.le_trans (by decide) hRf, Nat.le_trans (by decide) hRl⟩ hK hP hD hS hA hZ hN h_lf rfl rfl rfl hl.1 rfl (Nat.le_of_ble_eq_true rfl) dX2_fillSheet_46 ⟨(show cells + 0 ≤ R.cells by omega), (show slots + 0 ≤ R.slots by omega)⟩) (Nat.le_refl _) (Nat.le_refl _) (fun r H locs hw hP hD hS => ?_)
        obtain ⟨w9, ew9, rfl⟩ := hw
        obtain rfl : tb = w9 := etb.trans ew9.symm
        refine lv_iload_n hx hb dX2_fillSheet_49 rfl (lv_at hl 5 rfl) ?_
        refine lv_icmp_le (tgt := 54) hx hb dX2_fillSheet_50 (by decide) (fun c_3 => ?_) (fun c_3 => ?_)
        · have c_3 := q_le (a := lw + dd + 1 + tb) (b := mo) (by omega) (by omega) c_3
          by_cases hz : i + 1 = (P.getD pq d4).2.2.1 - (P.getD pq d4).2.1
          · have hP := hP
            refine lv_aload_n hx hb dX2_fillSheet_54 rfl (lv_at hl 2 rfl) ?_
            refine o_get (D := D) (ci := 3) (v := .ref lf) (C := RX2) (T := TX2) (N := 10) hx hb hts inX2 hown hK hP h_gl rfl 1 (by decide) (hts _ k_389) (fun _ h9 => h9) rfl dX2_fillSheet_55 ?_
            refine o_cis (k := cells) (n := slots) hK hP hD hS hA (o_rV (As := []) (rest := []) hf (lf_end _ _ _ _ _ _ _ _ pr pcs spr nwh cp pa ea P ne EE lf en p0 ((P.getD p0 d4).2.1 + r0) pq ((P.getD pq d4).2.1 + i + 1) (lw + dd + 1) h_lf h_pr h_pcs h_pc h_es hpa hQ (by omega) (by omega) (by omega) (by omega) (by omega) (by omega) (fun e9 => by subst e9; omega) _) k_825 k_981 k_823 k_824 k_94 (nA := 0) (by decide +kernel) ⟨Nat.le_trans (by decide) hRf, Nat.le_trans (by decide) hRl⟩ hK hP hD hS hA hZ hN h_lf rfl rfl rfl hl.1 rfl (Nat.le_of_ble_eq_true rfl) dX2_fillSheet_58 ⟨(show cells + 0 ≤ R.cells by omega), (show slots + 0 ≤ R.slots by omega)⟩) (Nat.le_refl _) (Nat.le_refl _) (fun r H locs hw hP hD hS => ?_)
            rcases hw with ⟨c_4, rfl⟩ | ⟨c_4, rfl⟩
            · rw [show (P.getD p0 d4).2.1 + r0 - (P.getD p0 d4).2.1 = r0 by omega, show (P.getD pq d4).2.1 + i + 1 - (P.getD pq d4).2.1 = i + 1 by omega] at c_4
              have hP := hP
              refine lv_istore (lv' := [(6, .int 1), (5, .int (nI j)), (4, .int (nI al)), (0, .ref gl), (1, .int (nI p0)), (2, .int (nI ((P.getD p0 d4).2.1 + r0))), (3, .int (nI mo))]) hx hb dX2_fillSheet_61 hl (by decide) rfl (fun ls hl => ?_)
              refine lv_iload hx hb dX2_fillSheet_63 (lv_at hl 0 rfl) ?_
              refine lv_if_ne (tgt := 73) hx hb dX2_fillSheet_65 (by decide) (fun _ => ?_) (fun hno => absurd hno (by decide))
              refine lv_aload_n hx hb dX2_fillSheet_73 rfl (lv_at hl 3 rfl) ?_
              refine o_cv (k := cells) (n := slots) hK hP hD hS hA (o_rV (As := []) (rest := []) hf (gl_mark _ _ _ _ _ _ _ _ pr pcs spr nwh cp pa ea P ne EE gl lf ra fa la sc en v7 v8 v9 p0 ((P.getD p0 d4).2.1 + r0) pq ((P.getD pq d4).2.1 + i + 1) (lw + dd + 1) tb h_pr h_pcs h_pc h_es h_gl h_lf hpa hQ hen (by omega) (by omega) (by omega) etb _) k_985 k_982 k_984 k_36 k_96 (nA := 0) (by decide +kernel) ⟨Nat.le_trans (by decide) hRf, Nat.le_trans (by decide) hRl⟩ hK hP hD hS hA hZ hN h_gl rfl rfl rfl hl.1 rfl (Nat.le_of_ble_eq_true rfl) dX2_fillSheet_74 ⟨(show cells + 0 ≤ R.cells by omega), (show slots + 0 ≤ R.slots by omega)⟩) (Nat.le_refl _) (Nat.le_refl _) (fun L g H locs hw hP hD hS => ?_)
              obtain ⟨hf9, h_gl⟩ := hw
              have h_pr := h_pr.fr hf9 (by decide)
              have h_lf := h_lf.fr hf9 (by decide)
              have hfr := hfr.tm hf9 (by decide)
              have h_pcs := h_pcs.frd hf9 (by decide)
              have h_pc := h_pc.frd hf9 (by decide)
              have h_es := h_es.frd hf9 (by decide)
              refine lv_iload hx hb dX2_fillSheet_77 (lv_at hl 2 rfl) ?_
              refine lv_if_ne (tgt := 87) hx hb dX2_fillSheet_79 (by decide) (fun c_5 => ?_) (fun c_5 => ?_)
              · have c_5 := q_nen (a := al) (b := 0) (by omega) (by omega) c_5
                refine lv_iconst (v := 1) hx hb dX2_fillSheet_87 (by decide) ?_
                refine lv_goto (tgt := 92) hx hb dX2_fillSheet_88 (by decide) ?_
                refine lv_istore (lv' := [(4, .int 1), (6, .int 1), (5, .int (nI j)), (0, .ref gl), (1, .int (nI p0)), (2, .int (nI ((P.getD p0 d4).2.1 + r0))), (3, .int (nI mo))]) hx hb dX2_fillSheet_92 hl (by decide) rfl (fun ls hl => ?_)
                refine lv_iinc (v := nI (j + 1)) (lv' := [(5, .int (nI (j + 1))), (4, .int 1), (6, .int 1), (0, .ref gl), (1, .int (nI p0)), (2, .int (nI ((P.getD p0 d4).2.1 + r0))), (3, .int (nI mo))]) hx hb dX2_fillSheet_94 hl (k := 2) rfl (nI_addE (a := j) (b := 1) (by omega)) (by decide) rfl (fun ls hl => ?_)
                refine lv_goto (tgt := 19) hx hb dX2_fillSheet_97 (by decide) ?_
                exact ih (pq + 1) 0 (lw + dd + 1) pq ((P.getD pq d4).2.1 + i + 1) (j + 1) 1 (some ((pq + 1), 0, (lw + dd + 1 + tb))) (nI pq) (nI ((P.getD pq d4).2.1 + i + 1)) (nI (lw + dd + 1 + tb)) cells slots _ _ H locs ls (by omega) (by omega) (by omega) (by omega) (by omega) (by omega) (fun h9 => hz1 h9) (Or.inr ⟨rfl, by omega, rfl, by omega⟩) (by omega) (by omega) ⟨pq, (P.getD pq d4).2.1 + i + 1, rfl, rfl, rfl, Or.inr ⟨rfl, by omega, rfl⟩⟩ hRc hRs h_pr h_pcs h_pc h_es h_gl h_lf hfr hP hD hS (lv_sub hl (l' := [(5, .int (nI (j + 1))), (4, .int 1), (0, .ref gl), (1, .int (nI p0)), (2, .int (nI ((P.getD p0 d4).2.1 + r0))), (3, .int (nI mo))]) [0, 1, 3, 4, 5, 6] rfl) (fun b2 w7 w8 w9 x1 x2 x3 x4 x5 x6 L g H locs ls a1 => kk1 b2 w7 w8 w9 x1 x2 x3 x4 x5 x6 L g H locs ls (a1.trans (rs_in (mb := 1) (al2 := 1) (b2 := (some ((pq + 1), 0, (lw + dd + 1 + tb)))) hpn (by omega) edd etb2 (pb_1 c_4).symm (if_pos hz).symm (if_pos hz).symm (if_pos ⟨by omega, Or.inl (by decide)⟩).symm (if_pos ⟨by omega, Or.inl (by decide)⟩).symm).symm)) (fun b2 w7 w8 w9 x1 x2 x3 x4 x5 x6 L g H locs ls a1 => kk0 b2 w7 w8 w9 x1 x2 x3 x4 x5 x6 L g H locs ls (a1.trans (rs_in (mb := 1) (al2 := 1) (b2 := (some ((pq + 1), 0, (lw + dd + 1 + tb)))) hpn (by omega) edd etb2 (pb_1 c_4).symm (if_pos hz).symm (if_pos hz).symm (if_pos ⟨by omega, Or.inl (by decide)⟩).symm (if_pos ⟨by omega, Or.inl (by decide)⟩).symm).symm))
              · have c_5 := q_eqn (a := al) (b := 0) (by omega) (by omega) c_5
                refine lv_iload hx hb dX2_fillSheet_82 (lv_at hl 0 rfl) ?_
                refine lv_if_eq (tgt := 91) hx hb dX2_fillSheet_84 (by decide) (fun hno => absurd hno (by decide)) (fun _ => ?_)
                refine lv_iconst (v := 1) hx hb dX2_fillSheet_87 (by decide) ?_
                refine lv_goto (tgt := 92) hx hb dX2_fillSheet_88 (by decide) ?_
                refine lv_istore (lv' := [(4, .int 1), (6, .int 1), (5, .int (nI j)), (0, .ref gl), (1, .int (nI p0)), (2, .int (nI ((P.getD p0 d4).2.1 + r0))), (3, .int (nI mo))]) hx hb dX2_fillSheet_92 hl (by decide) rfl (fun ls hl => ?_)
                refine lv_iinc (v := nI (j + 1)) (lv' := [(5, .int (nI (j + 1))), (4, .int 1), (6, .int 1), (0, .ref gl), (1, .int (nI p0)), (2, .int (nI ((P.getD p0 d4).2.1 + r0))), (3, .int (nI mo))]) hx hb dX2_fillSheet_94 hl (k := 2) rfl (nI_addE (a := j) (b := 1) (by omega)) (by decide) rfl (fun ls hl => ?_)
                refine lv_goto (tgt := 19) hx hb dX2_fillSheet_97 (by decide) ?_
                exact ih (pq + 1) 0 (lw + dd + 1) pq ((P.getD pq d4).2.1 + i + 1) (j + 1) 1 (some ((pq + 1), 0, (lw + dd + 1 + tb))) (nI pq) (nI ((P.getD pq d4).2.1 + i + 1)) (nI (lw + dd + 1 + tb)) cells slots _ _ H locs ls (by omega) (by omega) (by omega) (by omega) (by omega) (by omega) (fun h9 => hz1 h9) (Or.inr ⟨rfl, by omega, rfl, by omega⟩) (by omega) (by omega) ⟨pq, (P.getD pq d4).2.1 + i + 1, rfl, rfl, rfl, Or.inr ⟨rfl, by omega, rfl⟩⟩ hRc hRs h_pr h_pcs h_pc h_es h_gl h_lf hfr hP hD hS (lv_sub hl (l' := [(5, .int (nI (j + 1))), (4, .int 1), (0, .ref gl), (1, .int (nI p0)), (2, .int (nI ((P.getD p0 d4).2.1 + r0))), (3, .int (nI mo))]) [0, 1, 3, 4, 5, 6] rfl) (fun b2 w7 w8 w9 x1 x2 x3 x4 x5 x6 L g H locs ls a1 => kk1 b2 w7 w8 w9 x1 x2 x3 x4 x5 x6 L g H locs ls (a1.trans (rs_in (mb := 1) (al2 := 1) (b2 := (some ((pq + 1), 0, (lw + dd + 1 + tb)))) hpn (by omega) edd etb2 (pb_1 c_4).symm (if_pos hz).symm (if_pos hz).symm (if_pos ⟨by omega, Or.inl (by decide)⟩).symm (if_pos ⟨by omega, Or.inl (by decide)⟩).symm).symm)) (fun b2 w7 w8 w9 x1 x2 x3 x4 x5 x6 L g H locs ls a1 => kk0 b2 w7 w8 w9 x1 x2 x3 x4 x5 x6 L g H locs ls (a1.trans (rs_in (mb := 1) (al2 := 1) (b2 := (some ((pq + 1), 0, (lw + dd + 1 + tb)))) hpn (by omega) edd etb2 (pb_1 c_4).symm (if_pos hz).symm (if_pos hz).symm (if_pos ⟨by omega, Or.inl (by decide)⟩).symm (if_pos ⟨by omega, Or.inl (by decide)⟩).symm).symm))
            · rw [show (P.getD p0 d4).2.1 + r0 - (P.getD p0 d4).2.1 = r0 by omega, show (P.getD pq d4).2.1 + i + 1 - (P.getD pq d4).2.1 = i + 1 by omega] at c_4
              have hP := hP
              refine lv_istore (lv' := [(6, .int 0), (5, .int (nI j)), (4, .int (nI al)), (0, .ref gl), (1, .int (nI p0)), (2, .int (nI ((P.getD p0 d4).2.1 + r0))), (3, .int (nI mo))]) hx hb dX2_fillSheet_61 hl (by decide) rfl (fun ls hl => ?_)
              refine lv_iload hx hb dX2_fillSheet_63 (lv_at hl 0 rfl) ?_
              refine lv_if_ne (tgt := 73) hx hb dX2_fillSheet_65 (by decide) (fun hno => absurd hno (by decide)) (fun _ => ?_)
              refine lv_iload hx hb dX2_fillSheet_68 (lv_at hl 2 rfl) ?_
              refine lv_if_ne (tgt := 77) hx hb dX2_fillSheet_70 (by decide) (fun c_6 => ?_) (fun c_6 => ?_)
              · have c_6 := q_nen (a := al) (b := 0) (by omega) (by omega) c_6
                refine lv_iload hx hb dX2_fillSheet_77 (lv_at hl 2 rfl) ?_
                refine lv_if_ne (tgt := 87) hx hb dX2_fillSheet_79 (by decide) (fun c_7 => ?_) (fun c_7 => ?_)
                · have c_7 := q_nen (a := al) (b := 0) (by omega) (by omega) c_7
                  refine lv_iconst (v := 1) hx hb dX2_fillSheet_87 (by decide) ?_
                  refine lv_goto (tgt := 92) hx hb dX2_fillSheet_88 (by decide) ?_
                  refine lv_istore (lv' := [(4, .int 1), (6, .int 0), (5, .int (nI j)), (0, .ref gl), (1, .int (nI p0)), (2, .int (nI ((P.getD p0 d4).2.1 + r0))), (3, .int (nI mo))]) hx hb dX2_fillSheet_92 hl (by decide) rfl (fun ls hl => ?_)
                  refine lv_iinc (v := nI (j + 1)) (lv' := [(5, .int (nI (j + 1))), (4, .int 1), (6, .int 0), (0, .ref gl), (1, .int (nI p0)), (2, .int (nI ((P.getD p0 d4).2.1 + r0))), (3, .int (nI mo))]) hx hb dX2_fillSheet_94 hl (k := 2) rfl (nI_addE (a := j) (b := 1) (by omega)) (by decide) rfl (fun ls hl => ?_)
                  refine lv_goto (tgt := 19) hx hb dX2_fillSheet_97 (by decide) ?_
                  exact ih (pq + 1) 0 (lw + dd + 1) pq ((P.getD pq d4).2.1 + i + 1) (j + 1) 1 b v7 v8 v9 cells slots _ _ H locs ls (by omega) (by omega) (by omega) (by omega) (by omega) (by omega) (fun h9 => hz1 h9) (Or.inr ⟨rfl, by omega, rfl, by omega⟩) (by omega) (by omega) hmk hRc hRs h_pr h_pcs h_pc h_es h_gl h_lf hfr hP hD hS (lv_sub hl (l' := [(5, .int (nI (j + 1))), (4, .int 1), (0, .ref gl), (1, .int (nI p0)), (2, .int (nI ((P.getD p0 d4).2.1 + r0))), (3, .int (nI mo))]) [0, 1, 3, 4, 5, 6] rfl) (fun b2 w7 w8 w9 x1 x2 x3 x4 x5 x6 L g H locs ls a1 => kk1 b2 w7 w8 w9 x1 x2 x3 x4 x5 x6 L g H locs ls (a1.trans (rs_in (mb := 0) (al2 := 1) (b2 := b) hpn (by omega) edd etb2 (pb_0 c_4).symm (if_pos hz).symm (if_pos hz).symm ((show 1 = al by omega).trans (if_neg (fun z9 => z9.2.elim (fun y9 => y9 rfl) (fun y9 => absurd y9 (by omega)))).symm) (if_neg (fun z9 => z9.2.elim (fun y9 => y9 rfl) (fun y9 => absurd y9 (by omega)))).symm).symm)) (fun b2 w7 w8 w9 x1 x2 x3 x4 x5 x6 L g H locs ls a1 => kk0 b2 w7 w8 w9 x1 x2 x3 x4 x5 x6 L g H locs ls (a1.trans (rs_in (mb := 0) (al2 := 1) (b2 := b) hpn (by omega) edd etb2 (pb_0 c_4).symm (if_pos hz).symm (if_pos hz).symm ((show 1 = al by omega).trans (if_neg (fun z9 => z9.2.elim (fun y9 => y9 rfl) (fun y9 => absurd y9 (by omega)))).symm) (if_neg (fun z9 => z9.2.elim (fun y9 => y9 rfl) (fun y9 => absurd y9 (by omega)))).symm).symm))
                · have c_7 := q_eqn (a := al) (b := 0) (by omega) (by omega) c_7
                  refine lv_iload hx hb dX2_fillSheet_82 (lv_at hl 0 rfl) ?_
                  refine lv_if_eq (tgt := 91) hx hb dX2_fillSheet_84 (by decide) (fun _ => ?_) (fun hno => absurd hno (by decide))
                  refine lv_iconst (v := 0) hx hb dX2_fillSheet_91 (by decide) ?_
                  refine lv_istore (lv' := [(4, .int 0), (6, .int 0), (5, .int (nI j)), (0, .ref gl), (1, .int (nI p0)), (2, .int (nI ((P.getD p0 d4).2.1 + r0))), (3, .int (nI mo))]) hx hb dX2_fillSheet_92 hl (by decide) rfl (fun ls hl => ?_)
                  refine lv_iinc (v := nI (j + 1)) (lv' := [(5, .int (nI (j + 1))), (4, .int 0), (6, .int 0), (0, .ref gl), (1, .int (nI p0)), (2, .int (nI ((P.getD p0 d4).2.1 + r0))), (3, .int (nI mo))]) hx hb dX2_fillSheet_94 hl (k := 2) rfl (nI_addE (a := j) (b := 1) (by omega)) (by decide) rfl (fun ls hl => ?_)
                  refine lv_goto (tgt := 19) hx hb dX2_fillSheet_97 (by decide) ?_
                  exact False.elim (by omega)
              · have c_6 := q_eqn (a := al) (b := 0) (by omega) (by omega) c_6
                refine lv_aload_n hx hb dX2_fillSheet_73 rfl (lv_at hl 3 rfl) ?_
                refine o_cv (k := cells) (n := slots) hK hP hD hS hA (o_rV (As := []) (rest := []) hf (gl_mark _ _ _ _ _ _ _ _ pr pcs spr nwh cp pa ea P ne EE gl lf ra fa la sc en v7 v8 v9 p0 ((P.getD p0 d4).2.1 + r0) pq ((P.getD pq d4).2.1 + i + 1) (lw + dd + 1) tb h_pr h_pcs h_pc h_es h_gl h_lf hpa hQ hen (by omega) (by omega) (by omega) etb _) k_985 k_982 k_984 k_36 k_96 (nA := 0) (by decide +kernel) ⟨Nat.le_trans (by decide) hRf, Nat.le_trans (by decide) hRl⟩ hK hP hD hS hA hZ hN h_gl rfl rfl rfl hl.1 rfl (Nat.le_of_ble_eq_true rfl) dX2_fillSheet_74 ⟨(show cells + 0 ≤ R.cells by omega), (show slots + 0 ≤ R.slots by omega)⟩) (Nat.le_refl _) (Nat.le_refl _) (fun L g H locs hw hP hD hS => ?_)
                obtain ⟨hf9, h_gl⟩ := hw
                have h_pr := h_pr.fr hf9 (by decide)
                have h_lf := h_lf.fr hf9 (by decide)
                have hfr := hfr.tm hf9 (by decide)
                have h_pcs := h_pcs.frd hf9 (by decide)
                have h_pc := h_pc.frd hf9 (by decide)
                have h_es := h_es.frd hf9 (by decide)
                refine lv_iload hx hb dX2_fillSheet_77 (lv_at hl 2 rfl) ?_
                refine lv_if_ne (tgt := 87) hx hb dX2_fillSheet_79 (by decide) (fun c_8 => ?_) (fun c_8 => ?_)
                · have c_8 := q_nen (a := al) (b := 0) (by omega) (by omega) c_8
                  refine lv_iconst (v := 1) hx hb dX2_fillSheet_87 (by decide) ?_
                  refine lv_goto (tgt := 92) hx hb dX2_fillSheet_88 (by decide) ?_
                  refine lv_istore (lv' := [(4, .int 1), (6, .int 0), (5, .int (nI j)), (0, .ref gl), (1, .int (nI p0)), (2, .int (nI ((P.getD p0 d4).2.1 + r0))), (3, .int (nI mo))]) hx hb dX2_fillSheet_92 hl (by decide) rfl (fun ls hl => ?_)
                  refine lv_iinc (v := nI (j + 1)) (lv' := [(5, .int (nI (j + 1))), (4, .int 1), (6, .int 0), (0, .ref gl), (1, .int (nI p0)), (2, .int (nI ((P.getD p0 d4).2.1 + r0))), (3, .int (nI mo))]) hx hb dX2_fillSheet_94 hl (k := 2) rfl (nI_addE (a := j) (b := 1) (by omega)) (by decide) rfl (fun ls hl => ?_)
                  refine lv_goto (tgt := 19) hx hb dX2_fillSheet_97 (by decide) ?_
                  exact False.elim (by omega)
                · have c_8 := q_eqn (a := al) (b := 0) (by omega) (by omega) c_8
                  refine lv_iload hx hb dX2_fillSheet_82 (lv_at hl 0 rfl) ?_
                  refine lv_if_eq (tgt := 91) hx hb dX2_fillSheet_84 (by decide) (fun _ => ?_) (fun hno => absurd hno (by decide))
                  refine lv_iconst (v := 0) hx hb dX2_fillSheet_91 (by decide) ?_
                  refine lv_istore (lv' := [(4, .int 0), (6, .int 0), (5, .int (nI j)), (0, .ref gl), (1, .int (nI p0)), (2, .int (nI ((P.getD p0 d4).2.1 + r0))), (3, .int (nI mo))]) hx hb dX2_fillSheet_92 hl (by decide) rfl (fun ls hl => ?_)
                  refine lv_iinc (v := nI (j + 1)) (lv' := [(5, .int (nI (j + 1))), (4, .int 0), (6, .int 0), (0, .ref gl), (1, .int (nI p0)), (2, .int (nI ((P.getD p0 d4).2.1 + r0))), (3, .int (nI mo))]) hx hb dX2_fillSheet_94 hl (k := 2) rfl (nI_addE (a := j) (b := 1) (by omega)) (by decide) rfl (fun ls hl => ?_)
                  refine lv_goto (tgt := 19) hx hb dX2_fillSheet_97 (by decide) ?_
                  exact ih (pq + 1) 0 (lw + dd + 1) pq ((P.getD pq d4).2.1 + i + 1) (j + 1) 0 (some ((pq + 1), 0, (lw + dd + 1 + tb))) (nI pq) (nI ((P.getD pq d4).2.1 + i + 1)) (nI (lw + dd + 1 + tb)) cells slots _ _ H locs ls (by omega) (by omega) (by omega) (by omega) (by omega) (by omega) (fun h9 => hz1 h9) (Or.inr ⟨rfl, by omega, rfl, by omega⟩) (by omega) (by omega) ⟨pq, (P.getD pq d4).2.1 + i + 1, rfl, rfl, rfl, Or.inr ⟨rfl, by omega, rfl⟩⟩ hRc hRs h_pr h_pcs h_pc h_es h_gl h_lf hfr hP hD hS (lv_sub hl (l' := [(5, .int (nI (j + 1))), (4, .int 0), (0, .ref gl), (1, .int (nI p0)), (2, .int (nI ((P.getD p0 d4).2.1 + r0))), (3, .int (nI mo))]) [0, 1, 3, 4, 5, 6] rfl) (fun b2 w7 w8 w9 x1 x2 x3 x4 x5 x6 L g H locs ls a1 => kk1 b2 w7 w8 w9 x1 x2 x3 x4 x5 x6 L g H locs ls (a1.trans (rs_in (mb := 0) (al2 := 0) (b2 := (some ((pq + 1), 0, (lw + dd + 1 + tb)))) hpn (by omega) edd etb2 (pb_0 c_4).symm (if_pos hz).symm (if_pos hz).symm (if_pos ⟨by omega, Or.inr (by omega)⟩).symm (if_pos ⟨by omega, Or.inr (by omega)⟩).symm).symm)) (fun b2 w7 w8 w9 x1 x2 x3 x4 x5 x6 L g H locs ls a1 => kk0 b2 w7 w8 w9 x1 x2 x3 x4 x5 x6 L g H locs ls (a1.trans (rs_in (mb := 0) (al2 := 0) (b2 := (some ((pq + 1), 0, (lw + dd + 1 + tb)))) hpn (by omega) edd etb2 (pb_0 c_4).symm (if_pos hz).symm (if_pos hz).symm (if_pos ⟨by omega, Or.inr (by omega)⟩).symm (if_pos ⟨by omega, Or.inr (by omega)⟩).symm).symm))
          · have hP := hP
            refine lv_aload_n hx hb dX2_fillSheet_54 rfl (lv_at hl 2 rfl) ?_
            refine o_get (D := D) (ci := 3) (v := .ref lf) (C := RX2) (T := TX2) (N := 10) hx hb hts inX2 hown hK hP h_gl rfl 1 (by decide) (hts _ k_389) (fun _ h9 => h9) rfl dX2_fillSheet_55 ?_
            refine o_cis (k := cells) (n := slots) hK hP hD hS hA (o_rV (As := []) (rest := []) hf (lf_end _ _ _ _ _ _ _ _ pr pcs spr nwh cp pa ea P ne EE lf en p0 ((P.getD p0 d4).2.1 + r0) pq ((P.getD pq d4).2.1 + i + 1) (lw + dd + 1) h_lf h_pr h_pcs h_pc h_es hpa hQ (by omega) (by omega) (by omega) (by omega) (by omega) (by omega) (fun e9 => by subst e9; omega) _) k_825 k_981 k_823 k_824 k_94 (nA := 0) (by decide +kernel) ⟨Nat.le_trans (by decide) hRf, Nat.le_trans (by decide) hRl⟩ hK hP hD hS hA hZ hN h_lf rfl rfl rfl hl.1 rfl (Nat.le_of_ble_eq_true rfl) dX2_fillSheet_58 ⟨(show cells + 0 ≤ R.cells by omega), (show slots + 0 ≤ R.slots by omega)⟩) (Nat.le_refl _) (Nat.le_refl _) (fun r H locs hw hP hD hS => ?_)
            rcases hw with ⟨c_9, rfl⟩ | ⟨c_9, rfl⟩
            · rw [show (P.getD p0 d4).2.1 + r0 - (P.getD p0 d4).2.1 = r0 by omega, show (P.getD pq d4).2.1 + i + 1 - (P.getD pq d4).2.1 = i + 1 by omega] at c_9
              have hP := hP
              refine lv_istore (lv' := [(6, .int 1), (5, .int (nI j)), (4, .int (nI al)), (0, .ref gl), (1, .int (nI p0)), (2, .int (nI ((P.getD p0 d4).2.1 + r0))), (3, .int (nI mo))]) hx hb dX2_fillSheet_61 hl (by decide) rfl (fun ls hl => ?_)
              refine lv_iload hx hb dX2_fillSheet_63 (lv_at hl 0 rfl) ?_
              refine lv_if_ne (tgt := 73) hx hb dX2_fillSheet_65 (by decide) (fun _ => ?_) (fun hno => absurd hno (by decide))
              refine lv_aload_n hx hb dX2_fillSheet_73 rfl (lv_at hl 3 rfl) ?_
              refine o_cv (k := cells) (n := slots) hK hP hD hS hA (o_rV (As := []) (rest := []) hf (gl_mark _ _ _ _ _ _ _ _ pr pcs spr nwh cp pa ea P ne EE gl lf ra fa la sc en v7 v8 v9 p0 ((P.getD p0 d4).2.1 + r0) pq ((P.getD pq d4).2.1 + i + 1) (lw + dd + 1) tb h_pr h_pcs h_pc h_es h_gl h_lf hpa hQ hen (by omega) (by omega) (by omega) etb _) k_985 k_982 k_984 k_36 k_96 (nA := 0) (by decide +kernel) ⟨Nat.le_trans (by decide) hRf, Nat.le_trans (by decide) hRl⟩ hK hP hD hS hA hZ hN h_gl rfl rfl rfl hl.1 rfl (Nat.le_of_ble_eq_true rfl) dX2_fillSheet_74 ⟨(show cells + 0 ≤ R.cells by omega), (show slots + 0 ≤ R.slots by omega)⟩) (Nat.le_refl _) (Nat.le_refl _) (fun L g H locs hw hP hD hS => ?_)
              obtain ⟨hf9, h_gl⟩ := hw
              have h_pr := h_pr.fr hf9 (by decide)
              have h_lf := h_lf.fr hf9 (by decide)
              have hfr := hfr.tm hf9 (by decide)
              have h_pcs := h_pcs.frd hf9 (by decide)
              have h_pc := h_pc.frd hf9 (by decide)
              have h_es := h_es.frd hf9 (by decide)
              refine lv_iload hx hb dX2_fillSheet_77 (lv_at hl 2 rfl) ?_
              refine lv_if_ne (tgt := 87) hx hb dX2_fillSheet_79 (by decide) (fun c_10 => ?_) (fun c_10 => ?_)
              · have c_10 := q_nen (a := al) (b := 0) (by omega) (by omega) c_10
                refine lv_iconst (v := 1) hx hb dX2_fillSheet_87 (by decide) ?_
                refine lv_goto (tgt := 92) hx hb dX2_fillSheet_88 (by decide) ?_
                refine lv_istore (lv' := [(4, .int 1), (6, .int 1), (5, .int (nI j)), (0, .ref gl), (1, .int (nI p0)), (2, .int (nI ((P.getD p0 d4).2.1 + r0))), (3, .int (nI mo))]) hx hb dX2_fillSheet_92 hl (by decide) rfl (fun ls hl => ?_)
                refine lv_iinc (v := nI (j + 1)) (lv' := [(5, .int (nI (j + 1))), (4, .int 1), (6, .int 1), (0, .ref gl), (1, .int (nI p0)), (2, .int (nI ((P.getD p0 d4).2.1 + r0))), (3, .int (nI mo))]) hx hb dX2_fillSheet_94 hl (k := 2) rfl (nI_addE (a := j) (b := 1) (by omega)) (by decide) rfl (fun ls hl => ?_)
                refine lv_goto (tgt := 19) hx hb dX2_fillSheet_97 (by decide) ?_
                exact ih pq (i + 1) (lw + dd + 1) pq ((P.getD pq d4).2.1 + i + 1) (j + 1) 1 (some (pq, (i + 1), (lw + dd + 1 + tb))) (nI pq) (nI ((P.getD pq d4).2.1 + i + 1)) (nI (lw + dd + 1 + tb)) cells slots _ _ H locs ls (by omega) (by omega) (by omega) (by omega) (by omega) (by omega) (fun _ => by omega) (Or.inl ⟨rfl, by omega, Or.inr (by omega)⟩) (by omega) (by omega) ⟨pq, (P.getD pq d4).2.1 + i + 1, rfl, rfl, rfl, Or.inl ⟨rfl, rfl, by show 0 < i + 1; omega⟩⟩ hRc hRs h_pr h_pcs h_pc h_es h_gl h_lf hfr hP hD hS (lv_sub hl (l' := [(5, .int (nI (j + 1))), (4, .int 1), (0, .ref gl), (1, .int (nI p0)), (2, .int (nI ((P.getD p0 d4).2.1 + r0))), (3, .int (nI mo))]) [0, 1, 3, 4, 5, 6] rfl) (fun b2 w7 w8 w9 x1 x2 x3 x4 x5 x6 L g H locs ls a1 => kk1 b2 w7 w8 w9 x1 x2 x3 x4 x5 x6 L g H locs ls (a1.trans (rs_in (mb := 1) (al2 := 1) (b2 := (some (pq, (i + 1), (lw + dd + 1 + tb)))) hpn (by omega) edd etb2 (pb_1 c_9).symm (if_neg hz).symm (if_neg hz).symm (if_pos ⟨by omega, Or.inl (by decide)⟩).symm (if_pos ⟨by omega, Or.inl (by decide)⟩).symm).symm)) (fun b2 w7 w8 w9 x1 x2 x3 x4 x5 x6 L g H locs ls a1 => kk0 b2 w7 w8 w9 x1 x2 x3 x4 x5 x6 L g H locs ls (a1.trans (rs_in (mb := 1) (al2 := 1) (b2 := (some (pq, (i + 1), (lw + dd + 1 + tb)))) hpn (by omega) edd etb2 (pb_1 c_9).symm (if_neg hz).symm (if_neg hz).symm (if_pos ⟨by omega, Or.inl (by decide)⟩).symm (if_pos ⟨by omega, Or.inl (by decide)⟩).symm).symm))
              · have c_10 := q_eqn (a := al) (b := 0) (by omega) (by omega) c_10
                refine lv_iload hx hb dX2_fillSheet_82 (lv_at hl 0 rfl) ?_
                refine lv_if_eq (tgt := 91) hx hb dX2_fillSheet_84 (by decide) (fun hno => absurd hno (by decide)) (fun _ => ?_)
                refine lv_iconst (v := 1) hx hb dX2_fillSheet_87 (by decide) ?_
                refine lv_goto (tgt := 92) hx hb dX2_fillSheet_88 (by decide) ?_
                refine lv_istore (lv' := [(4, .int 1), (6, .int 1), (5, .int (nI j)), (0, .ref gl), (1, .int (nI p0)), (2, .int (nI ((P.getD p0 d4).2.1 + r0))), (3, .int (nI mo))]) hx hb dX2_fillSheet_92 hl (by decide) rfl (fun ls hl => ?_)
                refine lv_iinc (v := nI (j + 1)) (lv' := [(5, .int (nI (j + 1))), (4, .int 1), (6, .int 1), (0, .ref gl), (1, .int (nI p0)), (2, .int (nI ((P.getD p0 d4).2.1 + r0))), (3, .int (nI mo))]) hx hb dX2_fillSheet_94 hl (k := 2) rfl (nI_addE (a := j) (b := 1) (by omega)) (by decide) rfl (fun ls hl => ?_)
                refine lv_goto (tgt := 19) hx hb dX2_fillSheet_97 (by decide) ?_
                exact ih pq (i + 1) (lw + dd + 1) pq ((P.getD pq d4).2.1 + i + 1) (j + 1) 1 (some (pq, (i + 1), (lw + dd + 1 + tb))) (nI pq) (nI ((P.getD pq d4).2.1 + i + 1)) (nI (lw + dd + 1 + tb)) cells slots _ _ H locs ls (by omega) (by omega) (by omega) (by omega) (by omega) (by omega) (fun _ => by omega) (Or.inl ⟨rfl, by omega, Or.inr (by omega)⟩) (by omega) (by omega) ⟨pq, (P.getD pq d4).2.1 + i + 1, rfl, rfl, rfl, Or.inl ⟨rfl, rfl, by show 0 < i + 1; omega⟩⟩ hRc hRs h_pr h_pcs h_pc h_es h_gl h_lf hfr hP hD hS (lv_sub hl (l' := [(5, .int (nI (j + 1))), (4, .int 1), (0, .ref gl), (1, .int (nI p0)), (2, .int (nI ((P.getD p0 d4).2.1 + r0))), (3, .int (nI mo))]) [0, 1, 3, 4, 5, 6] rfl) (fun b2 w7 w8 w9 x1 x2 x3 x4 x5 x6 L g H locs ls a1 => kk1 b2 w7 w8 w9 x1 x2 x3 x4 x5 x6 L g H locs ls (a1.trans (rs_in (mb := 1) (al2 := 1) (b2 := (some (pq, (i + 1), (lw + dd + 1 + tb)))) hpn (by omega) edd etb2 (pb_1 c_9).symm (if_neg hz).symm (if_neg hz).symm (if_pos ⟨by omega, Or.inl (by decide)⟩).symm (if_pos ⟨by omega, Or.inl (by decide)⟩).symm).symm)) (fun b2 w7 w8 w9 x1 x2 x3 x4 x5 x6 L g H locs ls a1 => kk0 b2 w7 w8 w9 x1 x2 x3 x4 x5 x6 L g H locs ls (a1.trans (rs_in (mb := 1) (al2 := 1) (b2 := (some (pq, (i + 1), (lw + dd + 1 + tb)))) hpn (by omega) edd etb2 (pb_1 c_9).symm (if_neg hz).symm (if_neg hz).symm (if_pos ⟨by omega, Or.inl (by decide)⟩).symm (if_pos ⟨by omega, Or.inl (by decide)⟩).symm).symm))
            · rw [show (P.getD p0 d4).2.1 + r0 - (P.getD p0 d4).2.1 = r0 by omega, show (P.getD pq d4).2.1 + i + 1 - (P.getD pq d4).2.1 = i + 1 by omega] at c_9
              have hP := hP
              refine lv_istore (lv' := [(6, .int 0), (5, .int (nI j)), (4, .int (nI al)), (0, .ref gl), (1, .int (nI p0)), (2, .int (nI ((P.getD p0 d4).2.1 + r0))), (3, .int (nI mo))]) hx hb dX2_fillSheet_61 hl (by decide) rfl (fun ls hl => ?_)
              refine lv_iload hx hb dX2_fillSheet_63 (lv_at hl 0 rfl) ?_
              refine lv_if_ne (tgt := 73) hx hb dX2_fillSheet_65 (by decide) (fun hno => absurd hno (by decide)) (fun _ => ?_)
              refine lv_iload hx hb dX2_fillSheet_68 (lv_at hl 2 rfl) ?_
              refine lv_if_ne (tgt := 77) hx hb dX2_fillSheet_70 (by decide) (fun c_11 => ?_) (fun c_11 => ?_)
              · have c_11 := q_nen (a := al) (b := 0) (by omega) (by omega) c_11
                refine lv_iload hx hb dX2_fillSheet_77 (lv_at hl 2 rfl) ?_
                refine lv_if_ne (tgt := 87) hx hb dX2_fillSheet_79 (by decide) (fun c_12 => ?_) (fun c_12 => ?_)
                · have c_12 := q_nen (a := al) (b := 0) (by omega) (by omega) c_12
                  refine lv_iconst (v := 1) hx hb dX2_fillSheet_87 (by decide) ?_
                  refine lv_goto (tgt := 92) hx hb dX2_fillSheet_88 (by decide) ?_
                  refine lv_istore (lv' := [(4, .int 1), (6, .int 0), (5, .int (nI j)), (0, .ref gl), (1, .int (nI p0)), (2, .int (nI ((P.getD p0 d4).2.1 + r0))), (3, .int (nI mo))]) hx hb dX2_fillSheet_92 hl (by decide) rfl (fun ls hl => ?_)
                  refine lv_iinc (v := nI (j + 1)) (lv' := [(5, .int (nI (j + 1))), (4, .int 1), (6, .int 0), (0, .ref gl), (1, .int (nI p0)), (2, .int (nI ((P.getD p0 d4).2.1 + r0))), (3, .int (nI mo))]) hx hb dX2_fillSheet_94 hl (k := 2) rfl (nI_addE (a := j) (b := 1) (by omega)) (by decide) rfl (fun ls hl => ?_)
                  refine lv_goto (tgt := 19) hx hb dX2_fillSheet_97 (by decide) ?_
                  exact ih pq (i + 1) (lw + dd + 1) pq ((P.getD pq d4).2.1 + i + 1) (j + 1) 1 b v7 v8 v9 cells slots _ _ H locs ls (by omega) (by omega) (by omega) (by omega) (by omega) (by omega) (fun _ => by omega) (Or.inl ⟨rfl, by omega, Or.inr (by omega)⟩) (by omega) (by omega) hmk hRc hRs h_pr h_pcs h_pc h_es h_gl h_lf hfr hP hD hS (lv_sub hl (l' := [(5, .int (nI (j + 1))), (4, .int 1), (0, .ref gl), (1, .int (nI p0)), (2, .int (nI ((P.getD p0 d4).2.1 + r0))), (3, .int (nI mo))]) [0, 1, 3, 4, 5, 6] rfl) (fun b2 w7 w8 w9 x1 x2 x3 x4 x5 x6 L g H locs ls a1 => kk1 b2 w7 w8 w9 x1 x2 x3 x4 x5 x6 L g H locs ls (a1.trans (rs_in (mb := 0) (al2 := 1) (b2 := b) hpn (by omega) edd etb2 (pb_0 c_9).symm (if_neg hz).symm (if_neg hz).symm ((show 1 = al by omega).trans (if_neg (fun z9 => z9.2.elim (fun y9 => y9 rfl) (fun y9 => absurd y9 (by omega)))).symm) (if_neg (fun z9 => z9.2.elim (fun y9 => y9 rfl) (fun y9 => absurd y9 (by omega)))).symm).symm)) (fun b2 w7 w8 w9 x1 x2 x3 x4 x5 x6 L g H locs ls a1 => kk0 b2 w7 w8 w9 x1 x2 x3 x4 x5 x6 L g H locs ls (a1.trans (rs_in (mb := 0) (al2 := 1) (b2 := b) hpn (by omega) edd etb2 (pb_0 c_9).symm (if_neg hz).symm (if_neg hz).symm ((show 1 = al by omega).trans (if_neg (fun z9 => z9.2.elim (fun y9 => y9 rfl) (fun y9 => absurd y9 (by omega)))).symm) (if_neg (fun z9 => z9.2.elim (fun y9 => y9 rfl) (fun y9 => absurd y9 (by omega)))).symm).symm))
                · have c_12 := q_eqn (a := al) (b := 0) (by omega) (by omega) c_12
                  refine lv_iload hx hb dX2_fillSheet_82 (lv_at hl 0 rfl) ?_
                  refine lv_if_eq (tgt := 91) hx hb dX2_fillSheet_84 (by decide) (fun _ => ?_) (fun hno => absurd hno (by decide))
                  refine lv_iconst (v := 0) hx hb dX2_fillSheet_91 (by decide) ?_
                  refine lv_istore (lv' := [(4, .int 0), (6, .int 0), (5, .int (nI j)), (0, .ref gl), (1, .int (nI p0)), (2, .int (nI ((P.getD p0 d4).2.1 + r0))), (3, .int (nI mo))]) hx hb dX2_fillSheet_92 hl (by decide) rfl (fun ls hl => ?_)
                  refine lv_iinc (v := nI (j + 1)) (lv' := [(5, .int (nI (j + 1))), (4, .int 0), (6, .int 0), (0, .ref gl), (1, .int (nI p0)), (2, .int (nI ((P.getD p0 d4).2.1 + r0))), (3, .int (nI mo))]) hx hb dX2_fillSheet_94 hl (k := 2) rfl (nI_addE (a := j) (b := 1) (by omega)) (by decide) rfl (fun ls hl => ?_)
                  refine lv_goto (tgt := 19) hx hb dX2_fillSheet_97 (by decide) ?_
                  exact False.elim (by omega)
              · have c_11 := q_eqn (a := al) (b := 0) (by omega) (by omega) c_11
                refine lv_aload_n hx hb dX2_fillSheet_73 rfl (lv_at hl 3 rfl) ?_
                refine o_cv (k := cells) (n := slots) hK hP hD hS hA (o_rV (As := []) (rest := []) hf (gl_mark _ _ _ _ _ _ _ _ pr pcs spr nwh cp pa ea P ne EE gl lf ra fa la sc en v7 v8 v9 p0 ((P.getD p0 d4).2.1 + r0) pq ((P.getD pq d4).2.1 + i + 1) (lw + dd + 1) tb h_pr h_pcs h_pc h_es h_gl h_lf hpa hQ hen (by omega) (by omega) (by omega) etb _) k_985 k_982 k_984 k_36 k_96 (nA := 0) (by decide +kernel) ⟨Nat.le_trans (by decide) hRf, Nat.le_trans (by decide) hRl⟩ hK hP hD hS hA hZ hN h_gl rfl rfl rfl hl.1 rfl (Nat.le_of_ble_eq_true rfl) dX2_fillSheet_74 ⟨(show cells + 0 ≤ R.cells by omega), (show slots + 0 ≤ R.slots by omega)⟩) (Nat.le_refl _) (Nat.le_refl _) (fun L g H locs hw hP hD hS => ?_)
                obtain ⟨hf9, h_gl⟩ := hw
                have h_pr := h_pr.fr hf9 (by decide)
                have h_lf := h_lf.fr hf9 (by decide)
                have hfr := hfr.tm hf9 (by decide)
                have h_pcs := h_pcs.frd hf9 (by decide)
                have h_pc := h_pc.frd hf9 (by decide)
                have h_es := h_es.frd hf9 (by decide)
                refine lv_iload hx hb dX2_fillSheet_77 (lv_at hl 2 rfl) ?_
                refine lv_if_ne (tgt := 87) hx hb dX2_fillSheet_79 (by decide) (fun c_13 => ?_) (fun c_13 => ?_)
                · have c_13 := q_nen (a := al) (b := 0) (by omega) (by omega) c_13
                  refine lv_iconst (v := 1) hx hb dX2_fillSheet_87 (by decide) ?_
                  refine lv_goto (tgt := 92) hx hb dX2_fillSheet_88 (by decide) ?_
                  refine lv_istore (lv' := [(4, .int 1), (6, .int 0), (5, .int (nI j)), (0, .ref gl), (1, .int (nI p0)), (2, .int (nI ((P.getD p0 d4).2.1 + r0))), (3, .int (nI mo))]) hx hb dX2_fillSheet_92 hl (by decide) rfl (fun ls hl => ?_)
                  refine lv_iinc (v := nI (j + 1)) (lv' := [(5, .int (nI (j + 1))), (4, .int 1), (6, .int 0), (0, .ref gl), (1, .int (nI p0)), (2, .int (nI ((P.getD p0 d4).2.1 + r0))), (3, .int (nI mo))]) hx hb dX2_fillSheet_94 hl (k := 2) rfl (nI_addE (a := j) (b := 1) (by omega)) (by decide) rfl (fun ls hl => ?_)
                  refine lv_goto (tgt := 19) hx hb dX2_fillSheet_97 (by decide) ?_
                  exact False.elim (by omega)
                · have c_13 := q_eqn (a := al) (b := 0) (by omega) (by omega) c_13
                  refine lv_iload hx hb dX2_fillSheet_82 (lv_at hl 0 rfl) ?_
                  refine lv_if_eq (tgt := 91) hx hb dX2_fillSheet_84 (by decide) (fun _ => ?_) (fun hno => absurd hno (by decide))
                  refine lv_iconst (v := 0) hx hb dX2_fillSheet_91 (by decide) ?_
                  refine lv_istore (lv' := [(4, .int 0), (6, .int 0), (5, .int (nI j)), (0, .ref gl), (1, .int (nI p0)), (2, .int (nI ((P.getD p0 d4).2.1 + r0))), (3, .int (nI mo))]) hx hb dX2_fillSheet_92 hl (by decide) rfl (fun ls hl => ?_)
                  refine lv_iinc (v := nI (j + 1)) (lv' := [(5, .int (nI (j + 1))), (4, .int 0), (6, .int 0), (0, .ref gl), (1, .int (nI p0)), (2, .int (nI ((P.getD p0 d4).2.1 + r0))), (3, .int (nI mo))]) hx hb dX2_fillSheet_94 hl (k := 2) rfl (nI_addE (a := j) (b := 1) (by omega)) (by decide) rfl (fun ls hl => ?_)
                  refine lv_goto (tgt := 19) hx hb dX2_fillSheet_97 (by decide) ?_
                  exact ih pq (i + 1) (lw + dd + 1) pq ((P.getD pq d4).2.1 + i + 1) (j + 1) 0 (some (pq, (i + 1), (lw + dd + 1 + tb))) (nI pq) (nI ((P.getD pq d4).2.1 + i + 1)) (nI (lw + dd + 1 + tb)) cells slots _ _ H locs ls (by omega) (by omega) (by omega) (by omega) (by omega) (by omega) (fun _ => by omega) (Or.inl ⟨rfl, by omega, Or.inr (by omega)⟩) (by omega) (by omega) ⟨pq, (P.getD pq d4).2.1 + i + 1, rfl, rfl, rfl, Or.inl ⟨rfl, rfl, by show 0 < i + 1; omega⟩⟩ hRc hRs h_pr h_pcs h_pc h_es h_gl h_lf hfr hP hD hS (lv_sub hl (l' := [(5, .int (nI (j + 1))), (4, .int 0), (0, .ref gl), (1, .int (nI p0)), (2, .int (nI ((P.getD p0 d4).2.1 + r0))), (3, .int (nI mo))]) [0, 1, 3, 4, 5, 6] rfl) (fun b2 w7 w8 w9 x1 x2 x3 x4 x5 x6 L g H locs ls a1 => kk1 b2 w7 w8 w9 x1 x2 x3 x4 x5 x6 L g H locs ls (a1.trans (rs_in (mb := 0) (al2 := 0) (b2 := (some (pq, (i + 1), (lw + dd + 1 + tb)))) hpn (by omega) edd etb2 (pb_0 c_9).symm (if_neg hz).symm (if_neg hz).symm (if_pos ⟨by omega, Or.inr (by omega)⟩).symm (if_pos ⟨by omega, Or.inr (by omega)⟩).symm).symm)) (fun b2 w7 w8 w9 x1 x2 x3 x4 x5 x6 L g H locs ls a1 => kk0 b2 w7 w8 w9 x1 x2 x3 x4 x5 x6 L g H locs ls (a1.trans (rs_in (mb := 0) (al2 := 0) (b2 := (some (pq, (i + 1), (lw + dd + 1 + tb)))) hpn (by omega) edd etb2 (pb_0 c_9).symm (if_neg hz).symm (if_neg hz).symm (if_pos ⟨by omega, Or.inr (by omega)⟩).symm (if_pos ⟨by omega, Or.inr (by omega)⟩).symm).symm))
        · have c_3 := q_nle (a := lw + dd + 1 + tb) (b := mo) (by omega) (by omega) c_3
          exact kk1 b v7 v8 v9 (nI en) (nI p0) (nI ((P.getD p0 d4).2.1 + r0)) (nI pq) (nI ((P.getD pq d4).2.1 + i + 1)) (nI (lw + dd + 1)) _ _ H locs ls (fs_stop hpn edd etb2 (by omega) htb).symm hmk h_pr h_pcs h_pc h_es h_gl h_lf hfr hP hD hS (lv_sub hl (l' := [(0, .ref gl)]) [2] rfl)
set_option maxHeartbeats 1000000 in
set_option maxRecDepth 100000 in
theorem gl_fill (l : Launch) (D : va_G) (z : Nat → Nat) (cB cI_ cO : ClassId) (L0 : List Nat) (g0 : hG) (pr pcs spr nwh cp : Nat) (pa : List Nat) (ea : Nat → Nat) (P : List Q4) (ne : Nat) (EE : Nat → E5) (gl lf ra fa la sc en : Nat) (v7 v8 v9 : Int32) (x1 x2 x3 x4 x5 x6 : Int32) (fi mo p0 r0 : Nat) (h_pr : ho L0 g0 pr 13 (.inr (7, [.ref pcs, .ref spr, .ref nwh]))) (h_pcs : alR cO (z 0) 14 15 L0 g0 pcs cp pa) (h_pc : pcR L0 g0 ea pa P) (h_es : esR cB cI_ L0 g0 ea ne EE) (h_gl : ho L0 g0 gl 25 (.inr (3, [.ref pr, .ref lf, .ref ra, .ref fa, .ref la, .int (nI sc), .int (nI en), .int v7, .int v8, .int v9]))) (h_lf : ho L0 g0 lf 20 (.inr (4, [.ref pr, .int x1, .int x2, .int x3, .int x4, .int x5, .int x6]))) (hpa : pa.length ≤ 20000) (hQ : pq_ok ne EE P) (hen : en ≤ pa.length) (hgF : ∀ p, fi < p → p < en → (P.getD p d4).2.1 = 0) (hgT : ∀ p, fi ≤ p → p + 1 < en → (P.getD p d4).2.2.1 = eRw (EE (P.getD p d4).1)) (hfi : fi ≤ p0) (hmo1 : 10 ≤ mo) (hmo : mo ≤ 40) (hp0 : p0 < en) (hr0 : r0 < (P.getD p0 d4).2.2.1 - (P.getD p0 d4).2.1) : eV l D yX2_fillSheet cX2_fillSheet 7 none 8 220 0 0 [.ref gl, .int (nI p0), .int (nI ((P.getD p0 d4).2.1 + r0)), .int (nI mo)] z cB cI_ cO L0 g0 (fun L g => ∃ (w7 w8 w9 x1 x2 x3 x4 x5 x6 : Int32), mk_is P (rs_lay (qK EE P) (qF P) (qT P) (qR EE P) p0 r0 en mo 41 p0 r0 (pb (rp_ra (qK EE P p0) (qF P p0) p0 r0 fi)) 0 none) w7 w8 w9 ∧ fr [20, 25] L0 g0 L g ∧ ho L g gl 25 (.inr (3, [.ref pr, .ref lf, .ref ra, .ref fa, .ref la, .int (nI sc), .int (nI en), .int w7, .int w8, .int w9])) ∧ ho L g lf 20 (.inr (4, [.ref pr, .int x1, .int x2, .int x3, .int x4, .int x5, .int x6]))) := by
  refine o_sv (by decide) (Nat.le_of_ble_eq_true rfl) ?_
  intro p e s m below meth c A ls hf hr hlocks hin hK hP hD hS hA hZ hN hl
  obtain ⟨hx, hb, hml, hown, hts⟩ := id hf
  have hl : lv_has ls 7 [(0, .ref gl), (1, .int (nI p0)), (2, .int (nI ((P.getD p0 d4).2.1 + r0))), (3, .int (nI mo))] := hl
  have hpl_ := h_pc.1
  have hq0 := hQ p0 (by omega)
  have hrb0 := h_es.rb hq0.1
  have hfr : fr [20, 25] L0 g0 L0 g0 := fr.rf
  refine lv_iconst (v := 0) hx hb dX2_fillSheet_0 (by decide) ?_
  refine lv_istore (lv' := [(4, .int 0), (0, .ref gl), (1, .int (nI p0)), (2, .int (nI ((P.getD p0 d4).2.1 + r0))), (3, .int (nI mo))]) hx hb dX2_fillSheet_1 hl (by decide) rfl (fun ls hl => ?_)
  refine lv_aload_n hx hb dX2_fillSheet_3 rfl (lv_at hl 1 rfl) ?_
  refine o_get (D := D) (ci := 3) (v := .ref lf) (C := RX2) (T := TX2) (N := 10) hx hb hts inX2 hown hK hP h_gl rfl 1 (by decide) (hts _ k_389) (fun _ h9 => h9) rfl dX2_fillSheet_4 ?_
  refine lv_iload_n hx hb dX2_fillSheet_7 rfl (lv_at hl 2 rfl) ?_
  refine lv_iload_n hx hb dX2_fillSheet_8 rfl (lv_at hl 3 rfl) ?_
  refine lv_aload_n hx hb dX2_fillSheet_9 rfl (lv_at hl 1 rfl) ?_
  refine o_get (D := D) (ci := 3) (v := .int (nI en)) (C := RX2) (T := TX2) (N := 10) hx hb hts inX2 hown hK hP h_gl rfl 6 (by decide) (hts _ k_394) (fun _ h9 => h9) rfl dX2_fillSheet_10 ?_
  refine o_cv (k := 0) (n := 0) hK hP hD hS hA (o_rV (As := [.int (nI p0), .int (nI ((P.getD p0 d4).2.1 + r0)), .int (nI en)]) (rest := []) hf (lf_open _ _ _ _ _ _ _ _ pr pcs spr nwh cp pa ea P ne EE lf x1 x2 x3 x4 x5 x6 p0 ((P.getD p0 d4).2.1 + r0) en h_lf h_pr h_pcs h_pc h_es hpa hQ (by omega) (by omega) _) k_791 k_977 k_789 k_790 k_94 (nA := 3) (by decide +kernel) ⟨Nat.le_of_ble_eq_true rfl, Nat.le_of_ble_eq_true rfl⟩ hK hP hD hS hA hZ hN h_lf rfl rfl rfl hl.1 rfl (Nat.le_of_ble_eq_true rfl) dX2_fillSheet_13 ⟨(show 0 + 0 ≤ 0 by omega), (show 0 + 0 ≤ 0 by omega)⟩) (Nat.le_refl _) (Nat.le_refl _) (fun L g H locs hw hP hD hS => ?_)
  obtain ⟨hf9, h_lf⟩ := hw
  have h_pr := h_pr.fr hf9 (by decide)
  have h_gl := h_gl.fr hf9 (by decide)
  have hfr := hfr.tm hf9 (by decide)
  have h_pcs := h_pcs.frd hf9 (by decide)
  have h_pc := h_pc.frd hf9 (by decide)
  have h_es := h_es.frd hf9 (by decide)
  refine lv_iconst (v := 0) hx hb dX2_fillSheet_16 (by decide) ?_
  refine lv_istore (lv' := [(5, .int 0), (4, .int 0), (0, .ref gl), (1, .int (nI p0)), (2, .int (nI ((P.getD p0 d4).2.1 + r0))), (3, .int (nI mo))]) hx hb dX2_fillSheet_17 hl (by decide) rfl (fun ls hl => ?_)
  obtain ⟨lw, elw⟩ : ∃ x : Nat, x = pb ((EE (P.getD p0 d4).1).1 = 4 ∧ 0 < (P.getD p0 d4).2.1 + r0 ∧ (P.getD p0 d4).2.1 + r0 < eRw (EE (P.getD p0 d4).1)) := ⟨_, rfl⟩
  rw [← elw] at h_lf
  have hlw1 : lw ≤ 1 := by rw [elw]; exact pb_le _
  have era := elw.trans (ra_g (p := p0) (fi := fi) hr0 (fun h9 => by by_cases h8 : p0 = fi; (· exact h8); exact absurd (hgF p0 (by omega) hp0) (by omega)) hq0.2.2)
  refine fs_loop (L0 := L0) (g0 := g0) hpa hQ hen hgF hgT hfi hmo hp0 hr0 (by omega) (Nat.le_of_ble_eq_true rfl) (Nat.le_of_ble_eq_true rfl) hA hf hK hZ hN 41 p0 r0 lw p0 ((P.getD p0 d4).2.1 + r0) 0 0 none v7 v8 v9 0 0 _ _ _ _ ls (by omega) (by omega) (by omega) (by omega) hp0 (by omega) (fun _ => hr0) (Or.inl ⟨rfl, rfl, Or.inl rfl⟩) (Or.inr ⟨rfl, Nat.le_refl _⟩) (Nat.zero_le _) trivial (Nat.zero_le _) (Nat.zero_le _) h_pr h_pcs h_pc h_es h_gl h_lf hfr hP hD hS (lv_sub hl (l' := [(5, .int 0), (4, .int 0), (0, .ref gl), (1, .int (nI p0)), (2, .int (nI ((P.getD p0 d4).2.1 + r0))), (3, .int (nI mo))]) [0, 1, 2, 3, 4, 5] rfl) ?_ ?_
  · intro b2 w7 w8 w9 x1 x2 x3 x4 x5 x6 L g H locs ls a1 a2 h_pr h_pcs h_pc h_es h_gl h_lf hfr hP hD hS hl
    exact o_rv hf hr hlocks hK hP hD hS (show 0 ≤ 0 by omega) (show 0 ≤ 0 by omega) ⟨w7, w8, w9, x1, x2, x3, x4, x5, x6, (by rw [show pb (rp_ra (qK EE P p0) (qF P p0) p0 r0 fi) = lw from era.symm, ← a1]; exact a2), hfr, h_gl, h_lf⟩ dX2_fillSheet_53
  · intro b2 w7 w8 w9 x1 x2 x3 x4 x5 x6 L g H locs ls a1 a2 h_pr h_pcs h_pc h_es h_gl h_lf hfr hP hD hS hl
    exact o_rv hf hr hlocks hK hP hD hS (show 0 ≤ 0 by omega) (show 0 ≤ 0 by omega) ⟨w7, w8, w9, x1, x2, x3, x4, x5, x6, (by rw [show pb (rp_ra (qK EE P p0) (qF P p0) p0 r0 fi) = lw from era.symm, ← a1]; exact a2), hfr, h_gl, h_lf⟩ dX2_fillSheet_100
