theorem q_sw_0_2 (x : Int32) : x = 0 ∨ x = 1 ∨ x = 2 ∨ (x.toInt < 0 ∨ 2 < x.toInt) := by
  by_cases h : x.toInt < 0 ∨ 2 < x.toInt
  · exact Or.inr (Or.inr (Or.inr h))
  · have h1 : x.toInt = 0 ∨ x.toInt = 1 ∨ x.toInt = 2 := by omega
    rcases h1 with h1 | h1 | h1
    · exact Or.inl (Int32.toInt_inj.mp h1)
    · exact Or.inr (Or.inl (Int32.toInt_inj.mp h1))
    · exact Or.inr (Or.inr (Or.inl (Int32.toInt_inj.mp h1)))
theorem rs_sh_ok {K : Nat → Int32} {Fm To Rr : Nat → Nat} {fi en mo : Nat} (hz : ∀ p, p < en → 0 < To p - Fm p) (hmo1 : 10 ≤ mo) (hmo : mo ≤ 40) : ∀ f p r, p ≤ en → (p < en → r < To p - Fm p) → (p = en → r = 0) → (rs_sh K Fm To Rr fi en mo f p r).length + (rs_S Fm To p + r) ≤ rs_S Fm To en ∧ ∀ j, j < (rs_sh K Fm To Rr fi en mo f p r).length → ∃ a b c : Nat, (rs_sh K Fm To Rr fi en mo f p r).getD j (0, 0, 0) = (nI a, nI b, nI c) ∧ b ≤ c ∧ c < en ∧ a ≤ 40 := by
  intro f
  induction f with
  | zero =>
    intro p r h1 h2 h3
    have h4 := rs_S_end (Fm := Fm) (To := To) h1 h2 h3
    exact ⟨by show 0 + _ ≤ _; omega, fun j hj => absurd hj (Nat.not_lt_zero j)⟩
  | succ f ih =>
    intro p r h1 h2 h3
    by_cases c : p < en
    · obtain ⟨⟨t1, t2, t3⟩, hx9, hfar⟩ := rs_some (K := K) (Fm := Fm) (To := To) (Rr := Rr) (f := 40) (rows := pb (rp_ra (K p) (Fm p) p r fi)) hz hmo1 hmo c (h2 c) (pb_le _)
      have hfar : (p < t1 ∨ (p = t1 ∧ r < t2)) ∧ t1 ≤ en ∧ (t1 < en → t2 < To t1 - Fm t1) ∧ (t1 = en → t2 = 0) ∧ t3 ≤ 40 := hfar
      have hsf : rs_S Fm To p + r < rs_S Fm To t1 + t2 := rs_S_far (To := To) (Fm := Fm) (x := (t1, t2, t3)) hfar (h2 c)
      have h4 := ih t1 t2 hfar.2.1 hfar.2.2.1 hfar.2.2.2.1
      rw [rs_sh_in c hx9]
      show (rs_sh K Fm To Rr fi en mo f t1 t2).length + 1 + _ ≤ _ ∧ _
      refine ⟨by omega, fun j hj => ?_⟩
      cases j with
      | zero =>
        have hlp : p ≤ rs_lp (t1, t2, t3) ∧ rs_lp (t1, t2, t3) < en := by
          unfold rs_lp
          by_cases c2 : t2 = 0
          · rw [if_pos c2]; show p ≤ t1 - 1 ∧ t1 - 1 < en; omega
          · rw [if_neg c2]
            show p ≤ t1 ∧ t1 < en
            have : ¬ t1 = en := fun h9 => c2 (hfar.2.2.2.1 h9)
            omega
        exact ⟨t3, p, rs_lp (t1, t2, t3), rfl, hlp.1, hlp.2, hfar.2.2.2.2⟩
      | succ j => exact h4.2 j (by have hj : j + 1 < (rs_sh K Fm To Rr fi en mo f t1 t2).length + 1 := hj; omega)
    · have h4 := rs_S_end (Fm := Fm) (To := To) h1 h2 h3
      rw [rs_sh_out c]
      exact ⟨by show 0 + _ ≤ _; omega, fun j hj => absurd hj (Nat.not_lt_zero j)⟩
theorem glS_ok {EE : Nat → E5} {P : List Q4} {ne fi en mo : Nat} (hQ : pq_ok ne EE P) (hen : en ≤ P.length) (hmo1 : 10 ≤ mo) (hmo : mo ≤ 40) : ((fi < en ∧ (gl_S EE P fi en mo).length + qS P fi ≤ qS P en) ∨ (¬ fi < en ∧ (gl_S EE P fi en mo).length = 1)) ∧ ∀ j, j < (gl_S EE P fi en mo).length → (∃ a : Nat, a ≤ 40 ∧ ((gl_S EE P fi en mo).getD j (0, 0, 0)).1 = nI a) ∧ ((((gl_S EE P fi en mo).getD j (0, 0, 0)).2.1 = -1 ∧ ((gl_S EE P fi en mo).getD j (0, 0, 0)).2.2 = -1) ∨ ∃ b c : Nat, ((gl_S EE P fi en mo).getD j (0, 0, 0)).2.1 = nI b ∧ ((gl_S EE P fi en mo).getD j (0, 0, 0)).2.2 = nI c ∧ b ≤ c ∧ c < en) := by
  unfold gl_S
  by_cases c : fi < en
  · rw [if_pos c]
    have hz := pz_of hQ hen
    have h1 := rs_sh_ok (K := qK EE P) (Fm := qF P) (To := qT P) (Rr := qR EE P) (fi := fi) hz hmo1 hmo 8000 fi 0 (by omega) (fun h => hz fi h) (fun _ => rfl)
    refine ⟨Or.inl ⟨c, h1.1⟩, fun j hj => ?_⟩
    obtain ⟨a, b, d, e, h2, h3, h4⟩ := h1.2 j hj
    rw [e]
    exact ⟨⟨a, h4, rfl⟩, Or.inr ⟨b, d, rfl, rfl, h2, h3⟩⟩
  · rw [if_neg c]
    refine ⟨Or.inr ⟨c, rfl⟩, fun j hj => ?_⟩
    have hj : j < 1 := hj
    have ej : j = 0 := by omega
    subst ej
    exact ⟨⟨0, by omega, rfl⟩, Or.inl ⟨rfl, rfl⟩⟩
/-- of a group only the first piece may begin, and only the last end, within an element -/
def grp_ok (EE : Nat → E5) (P : List Q4) (n : Nat) : Prop := ∀ gg, (∀ p, rg_first (fun t => (P.getD t d4).2.2.2) gg n 0 < p → p < rg_first (fun t => (P.getD t d4).2.2.2) (gg + 1) n 0 → (P.getD p d4).2.1 = 0) ∧ (∀ p, rg_first (fun t => (P.getD t d4).2.2.2) gg n 0 ≤ p → p + 1 < rg_first (fun t => (P.getD t d4).2.2.2) (gg + 1) n 0 → (P.getD p d4).2.2.1 = eRw (EE (P.getD p d4).1))
abbrev cX9_sheet : ByteArray := prog_1_method_15_code
def yX9_sheet : MethodName := ⟨RX9, "sheet", "(III)I"⟩
theorem k_1001 : (Cond.methodLink RX9 227 yX2_rowsOn) ∈ gT := gT_i 1001 (by decide +kernel) rfl
theorem k_1002 : (Cond.instanceMethod yX2_rowsOn) ∈ gT := gT_i 1002 (by decide +kernel) rfl
theorem k_1003 : (Cond.selects RX2 yX2_rowsOn yX2_rowsOn) ∈ gT := gT_i 1003 (by decide +kernel) rfl
theorem k_1004 : (Cond.code yX2_rowsOn cX2_rowsOn 2 (some .int)) ∈ gT := gT_i 1004 (by decide +kernel) rfl
theorem k_1009 : (Cond.methodLink RX9 230 yX2_piecesOn) ∈ gT := gT_i 1009 (by decide +kernel) rfl
theorem k_1010 : (Cond.instanceMethod yX2_piecesOn) ∈ gT := gT_i 1010 (by decide +kernel) rfl
theorem k_1011 : (Cond.selects RX2 yX2_piecesOn yX2_piecesOn) ∈ gT := gT_i 1011 (by decide +kernel) rfl
theorem k_1012 : (Cond.code yX2_piecesOn cX2_piecesOn 2 (some .int)) ∈ gT := gT_i 1012 (by decide +kernel) rfl
theorem k_1013 : (Cond.methodLink RX9 233 yX2_firstElementOn) ∈ gT := gT_i 1013 (by decide +kernel) rfl
theorem k_1014 : (Cond.instanceMethod yX2_firstElementOn) ∈ gT := gT_i 1014 (by decide +kernel) rfl
theorem k_1015 : (Cond.selects RX2 yX2_firstElementOn yX2_firstElementOn) ∈ gT := gT_i 1015 (by decide +kernel) rfl
theorem k_1016 : (Cond.code yX2_firstElementOn cX2_firstElementOn 2 (some .int)) ∈ gT := gT_i 1016 (by decide +kernel) rfl
theorem k_1017 : (Cond.methodLink RX9 236 yX2_lastElementOn) ∈ gT := gT_i 1017 (by decide +kernel) rfl
theorem k_1018 : (Cond.instanceMethod yX2_lastElementOn) ∈ gT := gT_i 1018 (by decide +kernel) rfl
theorem k_1019 : (Cond.selects RX2 yX2_lastElementOn yX2_lastElementOn) ∈ gT := gT_i 1019 (by decide +kernel) rfl
theorem k_1020 : (Cond.code yX2_lastElementOn cX2_lastElementOn 2 (some .int)) ∈ gT := gT_i 1020 (by decide +kernel) rfl
theorem dX9_sheet_0 : decode cX9_sheet 0 = .ok (.iload_n 3, 1) := by decide +kernel
theorem dX9_sheet_1 : decode cX9_sheet 1 = .ok (.ifCond .lt 8, 3) := by decide +kernel
theorem dX9_sheet_9 : decode cX9_sheet 9 = .ok (.bipush (-2), 2) := by decide +kernel
theorem dX9_sheet_11 : decode cX9_sheet 11 = .ok (.ireturn, 1) := by decide +kernel
theorem dX9_sheet_4 : decode cX9_sheet 4 = .ok (.iload_n 3, 1) := by decide +kernel
theorem dX9_sheet_5 : decode cX9_sheet 5 = .ok (.iconst 3, 1) := by decide +kernel
theorem dX9_sheet_6 : decode cX9_sheet 6 = .ok (.if_icmp .le 6, 3) := by decide +kernel
theorem dX9_sheet_12 : decode cX9_sheet 12 = .ok (.aload_n 0, 1) := by decide +kernel
theorem dX9_sheet_13 : decode cX9_sheet 13 = .ok (.getfield 116, 3) := by decide +kernel
theorem dX9_sheet_16 : decode cX9_sheet 16 = .ok (.ifCond .ne 6, 3) := by decide +kernel
theorem dX9_sheet_22 : decode cX9_sheet 22 = .ok (.iload_n 1, 1) := by decide +kernel
theorem dX9_sheet_23 : decode cX9_sheet 23 = .ok (.iconst 1, 1) := by decide +kernel
theorem dX9_sheet_24 : decode cX9_sheet 24 = .ok (.if_icmp .lt 15, 3) := by decide +kernel
theorem dX9_sheet_27 : decode cX9_sheet 27 = .ok (.iload_n 1, 1) := by decide +kernel
theorem dX9_sheet_28 : decode cX9_sheet 28 = .ok (.aload_n 0, 1) := by decide +kernel
theorem dX9_sheet_29 : decode cX9_sheet 29 = .ok (.getfield 150, 3) := by decide +kernel
theorem dX9_sheet_32 : decode cX9_sheet 32 = .ok (.if_icmp .gt 7, 3) := by decide +kernel
theorem dX9_sheet_35 : decode cX9_sheet 35 = .ok (.iload_n 2, 1) := by decide +kernel
theorem dX9_sheet_36 : decode cX9_sheet 36 = .ok (.ifCond .ge 6, 3) := by decide +kernel
theorem dX9_sheet_42 : decode cX9_sheet 42 = .ok (.aload_n 0, 1) := by decide +kernel
theorem dX9_sheet_43 : decode cX9_sheet 43 = .ok (.getfield 70, 3) := by decide +kernel
theorem dX9_sheet_46 : decode cX9_sheet 46 = .ok (.iload_n 1, 1) := by decide +kernel
theorem dX9_sheet_47 : decode cX9_sheet 47 = .ok (.aload_n 0, 1) := by decide +kernel
theorem dX9_sheet_48 : decode cX9_sheet 48 = .ok (.getfield 81, 3) := by decide +kernel
theorem dX9_sheet_51 : decode cX9_sheet 51 = .ok (.invokevirtual 213, 3) := by decide +kernel
theorem dX9_sheet_54 : decode cX9_sheet 54 = .ok (.iload_n 2, 1) := by decide +kernel
theorem dX9_sheet_55 : decode cX9_sheet 55 = .ok (.aload_n 0, 1) := by decide +kernel
theorem dX9_sheet_56 : decode cX9_sheet 56 = .ok (.getfield 70, 3) := by decide +kernel
theorem dX9_sheet_59 : decode cX9_sheet 59 = .ok (.invokevirtual 217, 3) := by decide +kernel
theorem dX9_sheet_62 : decode cX9_sheet 62 = .ok (.if_icmp .lt 6, 3) := by decide +kernel
theorem dX9_sheet_68 : decode cX9_sheet 68 = .ok (.iload_n 3, 1) := by decide +kernel
theorem dX9_sheet_69 : decode cX9_sheet 69 = .ok (.tableswitch 54 0 2 #[27, 36, 45], 27) := by decide +kernel
theorem dX9_sheet_96 : decode cX9_sheet 96 = .ok (.aload_n 0, 1) := by decide +kernel
theorem dX9_sheet_97 : decode cX9_sheet 97 = .ok (.getfield 70, 3) := by decide +kernel
theorem dX9_sheet_100 : decode cX9_sheet 100 = .ok (.iload_n 2, 1) := by decide +kernel
theorem dX9_sheet_101 : decode cX9_sheet 101 = .ok (.invokevirtual 227, 3) := by decide +kernel
theorem dX9_sheet_104 : decode cX9_sheet 104 = .ok (.ireturn, 1) := by decide +kernel
theorem dX9_sheet_105 : decode cX9_sheet 105 = .ok (.aload_n 0, 1) := by decide +kernel
theorem dX9_sheet_106 : decode cX9_sheet 106 = .ok (.getfield 70, 3) := by decide +kernel
theorem dX9_sheet_109 : decode cX9_sheet 109 = .ok (.iload_n 2, 1) := by decide +kernel
theorem dX9_sheet_110 : decode cX9_sheet 110 = .ok (.invokevirtual 230, 3) := by decide +kernel
theorem dX9_sheet_113 : decode cX9_sheet 113 = .ok (.ireturn, 1) := by decide +kernel
theorem dX9_sheet_114 : decode cX9_sheet 114 = .ok (.aload_n 0, 1) := by decide +kernel
theorem dX9_sheet_115 : decode cX9_sheet 115 = .ok (.getfield 70, 3) := by decide +kernel
theorem dX9_sheet_118 : decode cX9_sheet 118 = .ok (.iload_n 2, 1) := by decide +kernel
theorem dX9_sheet_119 : decode cX9_sheet 119 = .ok (.invokevirtual 233, 3) := by decide +kernel
theorem dX9_sheet_122 : decode cX9_sheet 122 = .ok (.ireturn, 1) := by decide +kernel
theorem dX9_sheet_123 : decode cX9_sheet 123 = .ok (.aload_n 0, 1) := by decide +kernel
theorem dX9_sheet_124 : decode cX9_sheet 124 = .ok (.getfield 70, 3) := by decide +kernel
theorem dX9_sheet_127 : decode cX9_sheet 127 = .ok (.iload_n 2, 1) := by decide +kernel
theorem dX9_sheet_128 : decode cX9_sheet 128 = .ok (.invokevirtual 236, 3) := by decide +kernel
theorem dX9_sheet_131 : decode cX9_sheet 131 = .ok (.ireturn, 1) := by decide +kernel
theorem dX9_sheet_65 : decode cX9_sheet 65 = .ok (.bipush (-2), 2) := by decide +kernel
theorem dX9_sheet_67 : decode cX9_sheet 67 = .ok (.ireturn, 1) := by decide +kernel
theorem dX9_sheet_39 : decode cX9_sheet 39 = .ok (.bipush (-2), 2) := by decide +kernel
theorem dX9_sheet_41 : decode cX9_sheet 41 = .ok (.ireturn, 1) := by decide +kernel
theorem dX9_sheet_19 : decode cX9_sheet 19 = .ok (.bipush (-3), 2) := by decide +kernel
theorem dX9_sheet_21 : decode cX9_sheet 21 = .ok (.ireturn, 1) := by decide +kernel
set_option maxHeartbeats 1000000 in
set_option maxRecDepth 100000 in
theorem d_sheetY (l : Launch) (D : va_G) (z : Nat → Nat) (cB cI_ cO : ClassId) (L0 : List Nat) (g0 : hG) (dk tp rd els reo nob bk sl gs : Nat) (pr pcs spr nwh cp : Nat) (pa : List Nat) (ea : Nat → Nat) (P : List Q4) (ne : Nat) (EE : Nat → E5) (nb nt nf nr gl lf ra fa la : Nat) (v5 v6 v7 v8 v9 x1 x2 x3 x4 x5 x6 : Int32) (M : Nat) (f0 f1 f2 : Nat → Int32) (mo gg fi en B : Nat) (i2 i3 : Int32) (h_dk : ho L0 g0 dk 1 (.inr (10, [.ref tp, .ref rd, .ref els, .ref reo, .ref nob, .ref pr, .ref bk, .ref gl, .ref sl, .int (nI mo), .int 1, .int (nI gs)]))) (h_pr : ho L0 g0 pr 13 (.inr (7, [.ref pcs, .ref spr, .ref nwh]))) (h_pcs : alR cO (z 0) 14 15 L0 g0 pcs cp pa) (h_pc : pcR L0 g0 ea pa P) (h_es : esR cB cI_ L0 g0 ea ne EE) (h_nwh : ho L0 g0 nwh 19 (.inr (6, [.ref nb, .int 0, .int 0, .int 0]))) (h_nob : ho L0 g0 nb 30 (.inr (2, [.int 5, .int (-1), .int 0, .ref nt, .int 0, .int 0, .ref nf, .ref nr, .int 0]))) (h_gl : ho L0 g0 gl 25 (.inr (3, [.ref pr, .ref lf, .ref ra, .ref fa, .ref la, .int v5, .int v6, .int v7, .int v8, .int v9]))) (h_lf : ho L0 g0 lf 20 (.inr (4, [.ref pr, .int x1, .int x2, .int x3, .int x4, .int x5, .int x6]))) (h_ra : ho L0 g0 ra 26 (.inl (cI_, M, .inl f0))) (h_fa : ho L0 g0 fa 27 (.inl (cI_, M, .inl f1))) (h_la : ho L0 g0 la 28 (.inl (cI_, M, .inl f2))) (hpa : pa.length ≤ 20000) (hQ : pq_ok ne EE P) (hSn : qS P pa.length ≤ 8000) (hmo1 : 10 ≤ mo) (hmo : mo ≤ 40) (hgg : gg ≤ 20000) (hG : ∀ t, t < pa.length → (P.getD t d4).2.2.2 ≤ 30000) (efi : fi = rg_first (fun t => (P.getD t d4).2.2.2) gg pa.length 0) (een : en = rg_first (fun t => (P.getD t d4).2.2.2) (gg + 1) pa.length 0) (hgF : ∀ p, fi < p → p < en → (P.getD p d4).2.1 = 0) (hgT : ∀ p, fi ≤ p → p + 1 < en → (P.getD p d4).2.2.1 = eRw (EE (P.getD p d4).1)) (hM1 : 1 ≤ M) (hB9 : B ≤ 30000) (hB2 : B = glx M 0 (gl_S EE P fi en mo)) (hgs : gs ≤ 20000) (hg1 : 1 ≤ gg) (hg2 : gg ≤ gs) : eI l D yX9_sheet cX9_sheet 4 (some .int) 11 327 (3 * (B - M)) (6 * (B - M)) [.ref dk, .int (nI gg), .int i2, .int i3] z cB cI_ cO L0 g0 (fun r L g => ((L = L0 ∧ g = g0) ∨ ∃ (S2 : List I3) (ra2 fa2 la2 M2 : Nat) (k0 k1 k2 : Nat → Int32) (w7 w8 w9 u1 u2 u3 u4 u5 u6 : Int32), True ∧ S2 = gl_S EE P fi en mo ∧ sh_is S2 k0 k1 k2 ∧ (S2.length ≤ M2 ∧ M2 = B ∧ 1 ≤ M2) ∧ fr [20, 25, 26, 27, 28] L0 g0 L g ∧ ho L g gl 25 (.inr (3, [.ref pr, .ref lf, .ref ra2, .ref fa2, .ref la2, .int (nI (S2.length)), .int (nI en), .int w7, .int w8, .int w9])) ∧ ho L g lf 20 (.inr (4, [.ref pr, .int u1, .int u2, .int u3, .int u4, .int u5, .int u6])) ∧ ho L g ra2 26 (.inl (cI_, M2, .inl k0)) ∧ ho L g fa2 27 (.inl (cI_, M2, .inl k1)) ∧ ho L g la2 28 (.inl (cI_, M2, .inl k2)))) := by
  refine o_si (by decide) (Nat.le_of_ble_eq_true rfl) ?_
  intro p e s m below meth c A ls hf hr hlocks hin hK hP hD hS hA hZ hN hl
  obtain ⟨hx, hb, hml, hown, hts⟩ := id hf
  have hl : lv_has ls 4 [(0, .ref dk), (1, .int (nI gg)), (2, .int i2), (3, .int i3)] := hl
  have hfr : fr [20, 25, 26, 27, 28] L0 g0 L0 g0 := fr.rf
  refine lv_iload_n hx hb dX9_sheet_0 rfl (lv_at hl 3 rfl) ?_
  refine lv_if_lt (tgt := 9) hx hb dX9_sheet_1 (by decide) (fun c_1 => ?_) (fun c_1 => ?_)
  · refine lv_bipush (v := (-2)) hx hb dX9_sheet_9 (by decide) ?_
    exact o_ri hf hr rfl hlocks hK hP hD hS (show 0 ≤ 3 * (B - M) by omega) (show 0 ≤ 6 * (B - M) by omega) (Or.inl ⟨rfl, rfl⟩) dX9_sheet_11
  · refine lv_iload_n hx hb dX9_sheet_4 rfl (lv_at hl 3 rfl) ?_
    refine lv_iconst (v := 3) hx hb dX9_sheet_5 (by decide) ?_
    refine lv_icmp_le (tgt := 12) hx hb dX9_sheet_6 (by decide) (fun c_2 => ?_) (fun c_2 => ?_)
    · refine lv_aload_n hx hb dX9_sheet_12 rfl (lv_at hl 0 rfl) ?_
      refine o_get (D := D) (ci := 10) (v := .int 1) (C := RX9) (T := TX9) (N := 12) hx hb hts inX9 hown hK hP h_dk rfl 10 (by decide) (hts _ k_439) (fun _ h9 => h9) rfl dX9_sheet_13 ?_
      refine lv_if_ne (tgt := 22) hx hb dX9_sheet_16 (by decide) (fun _ => ?_) (fun hno => absurd hno (by decide))
      refine lv_iload_n hx hb dX9_sheet_22 rfl (lv_at hl 1 rfl) ?_
      refine lv_iconst (v := 1) hx hb dX9_sheet_23 (by decide) ?_
      refine lv_icmp_lt (tgt := 39) hx hb dX9_sheet_24 (by decide) (fun c_3 => ?_) (fun c_3 => ?_)
      · have c_3 := q_lt (a := gg) (b := 1) (by omega) (by omega) c_3
        exact False.elim (by omega)
      · have c_3 := q_nlt (a := gg) (b := 1) (by omega) (by omega) c_3
        refine lv_iload_n hx hb dX9_sheet_27 rfl (lv_at hl 1 rfl) ?_
        refine lv_aload_n hx hb dX9_sheet_28 rfl (lv_at hl 0 rfl) ?_
        refine o_get (D := D) (ci := 10) (v := .int (nI gs)) (C := RX9) (T := TX9) (N := 12) hx hb hts inX9 hown hK hP h_dk rfl 11 (by decide) (hts _ k_440) (fun _ h9 => h9) rfl dX9_sheet_29 ?_
        refine lv_icmp_gt (tgt := 39) hx hb dX9_sheet_32 (by decide) (fun c_4 => ?_) (fun c_4 => ?_)
        · have c_4 := q_lt (a := gs) (b := gg) (by omega) (by omega) c_4
          exact False.elim (by omega)
        · have c_4 := q_nlt (a := gs) (b := gg) (by omega) (by omega) c_4
          refine lv_iload_n hx hb dX9_sheet_35 rfl (lv_at hl 2 rfl) ?_
          refine lv_if_ge (tgt := 42) hx hb dX9_sheet_36 (by decide) (fun c_5 => ?_) (fun c_5 => ?_)
          · have hplm := h_pc.1
            have heb := rg_first_le (fun t => (P.getD t d4).2.2.2) (gg + 1) pa.length 0
            rw [← een] at heb
            refine lv_aload_n hx hb dX9_sheet_42 rfl (lv_at hl 0 rfl) ?_
            refine o_get (D := D) (ci := 10) (v := .ref gl) (C := RX9) (T := TX9) (N := 12) hx hb hts inX9 hown hK hP h_dk rfl 7 (by decide) (hts _ k_436) (fun _ h9 => h9) rfl dX9_sheet_43 ?_
            refine lv_iload_n hx hb dX9_sheet_46 rfl (lv_at hl 1 rfl) ?_
            refine lv_aload_n hx hb dX9_sheet_47 rfl (lv_at hl 0 rfl) ?_
            refine o_get (D := D) (ci := 10) (v := .int (nI mo)) (C := RX9) (T := TX9) (N := 12) hx hb hts inX9 hown hK hP h_dk rfl 9 (by decide) (hts _ k_438) (fun _ h9 => h9) rfl dX9_sheet_48 ?_
            refine o_cv (k := 0 + (3 * (B - M))) (n := 0 + (6 * (B - M))) hK hP hD hS hA (o_rV (As := [.int (nI gg), .int (nI mo)]) (rest := []) hf (gl_lay _ _ _ _ _ _ _ _ pr pcs spr nwh cp pa ea P ne EE nb gl lf ra fa la v5 v6 v7 v8 v9 x1 x2 x3 x4 x5 x6 M f0 f1 f2 mo gg fi en B h_pr h_pcs h_pc h_es h_nwh h_gl h_lf h_ra h_fa h_la hpa hQ hSn hmo1 hmo hgg hG efi een hgF hgT hM1 hB9 hB2 _) k_949 k_946 k_947 k_948 k_96 (nA := 2) (by decide +kernel) ⟨Nat.le_of_ble_eq_true rfl, Nat.le_of_ble_eq_true rfl⟩ hK hP hD hS hA hZ hN h_gl rfl rfl rfl hl.1 rfl (Nat.le_of_ble_eq_true rfl) dX9_sheet_51 ⟨(show 0 + (3 * (B - M)) ≤ 3 * (B - M) by omega), (show 0 + (6 * (B - M)) ≤ 6 * (B - M) by omega)⟩) (by omega) (by omega) (fun L g H locs hw hP hD hS => ?_)
            obtain ⟨S2, ra2, fa2, la2, M2, k0, k1, k2, w7, w8, w9, u1, u2, u3, u4, u5, u6, eS, hsh, hM3, hf9, h_gl, h_lf, h_ra, h_fa, h_la⟩ := hw
            have h_dk := h_dk.fr hf9 (by decide)
            have h_pr := h_pr.fr hf9 (by decide)
            have h_nwh := h_nwh.fr hf9 (by decide)
            have h_nob := h_nob.fr hf9 (by decide)
            have hfr := hfr.tr hf9
            have h_pcs := h_pcs.frd hf9 (by decide)
            have h_pc := h_pc.frd hf9 (by decide)
            have h_es := h_es.frd hf9 (by decide)
            refine lv_iload_n hx hb dX9_sheet_54 rfl (lv_at hl 2 rfl) ?_
            refine lv_aload_n hx hb dX9_sheet_55 rfl (lv_at hl 0 rfl) ?_
            refine o_get (D := D) (ci := 10) (v := .ref gl) (C := RX9) (T := TX9) (N := 12) hx hb hts inX9 hown hK hP h_dk rfl 7 (by decide) (hts _ k_436) (fun _ h9 => h9) rfl dX9_sheet_56 ?_
            refine o_cis (k := 0 + (3 * (B - M))) (n := 0 + (6 * (B - M))) hK hP hD hS hA (o_rV (As := []) (rest := [.int i2]) hf (gl_sc _ _ _ _ _ _ _ _ pr gl lf ra2 fa2 la2 S2.length (nI en) w7 w8 w9 h_gl _) k_991 k_988 k_989 k_990 k_96 (nA := 0) (by decide +kernel) ⟨Nat.le_of_ble_eq_true rfl, Nat.le_of_ble_eq_true rfl⟩ hK hP hD hS hA hZ hN h_gl rfl rfl rfl hl.1 rfl (Nat.le_of_ble_eq_true rfl) dX9_sheet_59 ⟨(show 0 + (3 * (B - M)) + 0 ≤ 3 * (B - M) by omega), (show 0 + (6 * (B - M)) + 0 ≤ 6 * (B - M) by omega)⟩) (Nat.le_refl _) (Nat.le_refl _) (fun r H locs hw hP hD hS => ?_)
            obtain rfl := hw
            refine lv_icmp_lt (tgt := 68) hx hb dX9_sheet_62 (by decide) (fun c_6 => ?_) (fun c_6 => ?_)
            · obtain ⟨s_, hs_, rfl⟩ := ix_lt (by omega) (q_nlt_le c_5) c_6
              have hl : lv_has ls 4 [(0, .ref dk), (1, .int (nI gg)), (2, .int (nI s_)), (3, .int i3)] := hl
              have hsj := hsh s_ hs_
              have hgo := (glS_ok (EE := EE) (fi := fi) hQ (show en ≤ P.length by omega) hmo1 hmo).2 s_ (by rw [← eS]; exact hs_)
              rw [← eS, ← hsj.2.1, ← hsj.2.2] at hgo
              rcases hgo.2 with ⟨hn1, hn2⟩ | ⟨a_, b_, hn1, hn2, hab_, hb_⟩
              · have hP := hP
                refine lv_iload_n hx hb dX9_sheet_68 rfl (lv_at hl 3 rfl) ?_
                rcases q_sw_0_2 i3 with c_7 | c_7 | c_7 | c_7
                · refine q_seti (y := 0) c_7 ?_
                  refine lv_tableIn (off := 27) (tgt := 96) hx hb dX9_sheet_69 (by decide) (by decide) (by decide) (by decide) ?_
                  refine lv_aload_n hx hb dX9_sheet_96 rfl (lv_at hl 0 rfl) ?_
                  refine o_get (D := D) (ci := 10) (v := .ref gl) (C := RX9) (T := TX9) (N := 12) hx hb hts inX9 hown hK hP h_dk rfl 7 (by decide) (hts _ k_436) (fun _ h9 => h9) rfl dX9_sheet_97 ?_
                  refine lv_iload_n hx hb dX9_sheet_100 rfl (lv_at hl 2 rfl) ?_
                  refine o_cis (k := 0 + (3 * (B - M))) (n := 0 + (6 * (B - M))) hK hP hD hS hA (o_rV (As := [.int (nI s_)]) (rest := []) hf (gl_ron _ _ _ _ _ _ _ _ pr gl lf ra2 fa2 la2 M2 S2.length (nI en) w7 w8 w9 k0 k1 k2 s_ h_gl h_ra (by omega) (by omega) hs_ _) k_1004 k_1001 k_1002 k_1003 k_96 (nA := 1) (by decide +kernel) ⟨Nat.le_of_ble_eq_true rfl, Nat.le_of_ble_eq_true rfl⟩ hK hP hD hS hA hZ hN h_gl rfl rfl rfl hl.1 rfl (Nat.le_of_ble_eq_true rfl) dX9_sheet_101 ⟨(show 0 + (3 * (B - M)) + 0 ≤ 3 * (B - M) by omega), (show 0 + (6 * (B - M)) + 0 ≤ 6 * (B - M) by omega)⟩) (Nat.le_refl _) (Nat.le_refl _) (fun r H locs hw hP hD hS => ?_)
                  obtain rfl := hw
                  exact o_ri hf hr rfl hlocks hK hP hD hS (show 0 + (3 * (B - M)) ≤ 3 * (B - M) by omega) (show 0 + (6 * (B - M)) ≤ 6 * (B - M) by omega) (Or.inr ⟨S2, ra2, fa2, la2, M2, k0, k1, k2, w7, w8, w9, u1, u2, u3, u4, u5, u6, trivial, eS, hsh, hM3, hfr, h_gl, h_lf, h_ra, h_fa, h_la⟩) dX9_sheet_104
                · refine q_seti (y := 1) c_7 ?_
                  refine lv_tableIn (off := 36) (tgt := 105) hx hb dX9_sheet_69 (by decide) (by decide) (by decide) (by decide) ?_
                  refine lv_aload_n hx hb dX9_sheet_105 rfl (lv_at hl 0 rfl) ?_
                  refine o_get (D := D) (ci := 10) (v := .ref gl) (C := RX9) (T := TX9) (N := 12) hx hb hts inX9 hown hK hP h_dk rfl 7 (by decide) (hts _ k_436) (fun _ h9 => h9) rfl dX9_sheet_106 ?_
                  refine lv_iload_n hx hb dX9_sheet_109 rfl (lv_at hl 2 rfl) ?_
                  refine o_cis (k := 0 + (3 * (B - M))) (n := 0 + (6 * (B - M))) hK hP hD hS hA (o_rV (As := [.int (nI s_)]) (rest := []) hf (gl_ponE _ _ _ _ _ _ _ _ pr gl lf ra2 fa2 la2 M2 S2.length (nI en) w7 w8 w9 k0 k1 k2 s_ h_gl h_ra h_fa h_la (by omega) (by omega) hs_ hn1 _) k_1012 k_1009 k_1010 k_1011 k_96 (nA := 1) (by decide +kernel) ⟨Nat.le_of_ble_eq_true rfl, Nat.le_of_ble_eq_true rfl⟩ hK hP hD hS hA hZ hN h_gl rfl rfl rfl hl.1 rfl (Nat.le_of_ble_eq_true rfl) dX9_sheet_110 ⟨(show 0 + (3 * (B - M)) + 0 ≤ 3 * (B - M) by omega), (show 0 + (6 * (B - M)) + 0 ≤ 6 * (B - M) by omega)⟩) (Nat.le_refl _) (Nat.le_refl _) (fun r H locs hw hP hD hS => ?_)
                  obtain rfl := hw
                  exact o_ri hf hr rfl hlocks hK hP hD hS (show 0 + (3 * (B - M)) ≤ 3 * (B - M) by omega) (show 0 + (6 * (B - M)) ≤ 6 * (B - M) by omega) (Or.inr ⟨S2, ra2, fa2, la2, M2, k0, k1, k2, w7, w8, w9, u1, u2, u3, u4, u5, u6, trivial, eS, hsh, hM3, hfr, h_gl, h_lf, h_ra, h_fa, h_la⟩) dX9_sheet_113
                · refine q_seti (y := 2) c_7 ?_
                  refine lv_tableIn (off := 45) (tgt := 114) hx hb dX9_sheet_69 (by decide) (by decide) (by decide) (by decide) ?_
                  refine lv_aload_n hx hb dX9_sheet_114 rfl (lv_at hl 0 rfl) ?_
                  refine o_get (D := D) (ci := 10) (v := .ref gl) (C := RX9) (T := TX9) (N := 12) hx hb hts inX9 hown hK hP h_dk rfl 7 (by decide) (hts _ k_436) (fun _ h9 => h9) rfl dX9_sheet_115 ?_
                  refine lv_iload_n hx hb dX9_sheet_118 rfl (lv_at hl 2 rfl) ?_
                  refine o_cis (k := 0 + (3 * (B - M))) (n := 0 + (6 * (B - M))) hK hP hD hS hA (o_rV (As := [.int (nI s_)]) (rest := []) hf (gl_feE _ _ _ _ _ _ _ _ pr pcs spr nwh cp pa ea P nb nt nf nr gl lf ra2 fa2 la2 M2 S2.length (nI en) w7 w8 w9 k0 k1 k2 s_ h_pr h_pcs h_nwh h_nob h_gl h_ra h_fa (by omega) (by omega) hs_ hn1 _) k_1016 k_1013 k_1014 k_1015 k_96 (nA := 1) (by decide +kernel) ⟨Nat.le_of_ble_eq_true rfl, Nat.le_of_ble_eq_true rfl⟩ hK hP hD hS hA hZ hN h_gl rfl rfl rfl hl.1 rfl (Nat.le_of_ble_eq_true rfl) dX9_sheet_119 ⟨(show 0 + (3 * (B - M)) + 0 ≤ 3 * (B - M) by omega), (show 0 + (6 * (B - M)) + 0 ≤ 6 * (B - M) by omega)⟩) (Nat.le_refl _) (Nat.le_refl _) (fun r H locs hw hP hD hS => ?_)
                  obtain rfl := hw
                  exact o_ri hf hr rfl hlocks hK hP hD hS (show 0 + (3 * (B - M)) ≤ 3 * (B - M) by omega) (show 0 + (6 * (B - M)) ≤ 6 * (B - M) by omega) (Or.inr ⟨S2, ra2, fa2, la2, M2, k0, k1, k2, w7, w8, w9, u1, u2, u3, u4, u5, u6, trivial, eS, hsh, hM3, hfr, h_gl, h_lf, h_ra, h_fa, h_la⟩) dX9_sheet_122
                · refine lv_tableOut (tgt := 123) hx hb dX9_sheet_69 c_7 (by decide) ?_
                  refine lv_aload_n hx hb dX9_sheet_123 rfl (lv_at hl 0 rfl) ?_
                  refine o_get (D := D) (ci := 10) (v := .ref gl) (C := RX9) (T := TX9) (N := 12) hx hb hts inX9 hown hK hP h_dk rfl 7 (by decide) (hts _ k_436) (fun _ h9 => h9) rfl dX9_sheet_124 ?_
                  refine lv_iload_n hx hb dX9_sheet_127 rfl (lv_at hl 2 rfl) ?_
                  refine o_cis (k := 0 + (3 * (B - M))) (n := 0 + (6 * (B - M))) hK hP hD hS hA (o_rV (As := [.int (nI s_)]) (rest := []) hf (gl_leE _ _ _ _ _ _ _ _ pr pcs spr nwh cp pa ea P nb nt nf nr gl lf ra2 fa2 la2 M2 S2.length (nI en) w7 w8 w9 k0 k1 k2 s_ h_pr h_pcs h_nwh h_nob h_gl h_ra h_la (by omega) (by omega) hs_ hn2 _) k_1020 k_1017 k_1018 k_1019 k_96 (nA := 1) (by decide +kernel) ⟨Nat.le_of_ble_eq_true rfl, Nat.le_of_ble_eq_true rfl⟩ hK hP hD hS hA hZ hN h_gl rfl rfl rfl hl.1 rfl (Nat.le_of_ble_eq_true rfl) dX9_sheet_128 ⟨(show 0 + (3 * (B - M)) + 0 ≤ 3 * (B - M) by omega), (show 0 + (6 * (B - M)) + 0 ≤ 6 * (B - M) by omega)⟩) (Nat.le_refl _) (Nat.le_refl _) (fun r H locs hw hP hD hS => ?_)
                  obtain rfl := hw
                  exact o_ri hf hr rfl hlocks hK hP hD hS (show 0 + (3 * (B - M)) ≤ 3 * (B - M) by omega) (show 0 + (6 * (B - M)) ≤ 6 * (B - M) by omega) (Or.inr ⟨S2, ra2, fa2, la2, M2, k0, k1, k2, w7, w8, w9, u1, u2, u3, u4, u5, u6, trivial, eS, hsh, hM3, hfr, h_gl, h_lf, h_ra, h_fa, h_la⟩) dX9_sheet_131
              · have hP := hP
                refine lv_iload_n hx hb dX9_sheet_68 rfl (lv_at hl 3 rfl) ?_
                rcases q_sw_0_2 i3 with c_8 | c_8 | c_8 | c_8
                · refine q_seti (y := 0) c_8 ?_
                  refine lv_tableIn (off := 27) (tgt := 96) hx hb dX9_sheet_69 (by decide) (by decide) (by decide) (by decide) ?_
                  refine lv_aload_n hx hb dX9_sheet_96 rfl (lv_at hl 0 rfl) ?_
                  refine o_get (D := D) (ci := 10) (v := .ref gl) (C := RX9) (T := TX9) (N := 12) hx hb hts inX9 hown hK hP h_dk rfl 7 (by decide) (hts _ k_436) (fun _ h9 => h9) rfl dX9_sheet_97 ?_
                  refine lv_iload_n hx hb dX9_sheet_100 rfl (lv_at hl 2 rfl) ?_
                  refine o_cis (k := 0 + (3 * (B - M))) (n := 0 + (6 * (B - M))) hK hP hD hS hA (o_rV (As := [.int (nI s_)]) (rest := []) hf (gl_ron _ _ _ _ _ _ _ _ pr gl lf ra2 fa2 la2 M2 S2.length (nI en) w7 w8 w9 k0 k1 k2 s_ h_gl h_ra (by omega) (by omega) hs_ _) k_1004 k_1001 k_1002 k_1003 k_96 (nA := 1) (by decide +kernel) ⟨Nat.le_of_ble_eq_true rfl, Nat.le_of_ble_eq_true rfl⟩ hK hP hD hS hA hZ hN h_gl rfl rfl rfl hl.1 rfl (Nat.le_of_ble_eq_true rfl) dX9_sheet_101 ⟨(show 0 + (3 * (B - M)) + 0 ≤ 3 * (B - M) by omega), (show 0 + (6 * (B - M)) + 0 ≤ 6 * (B - M) by omega)⟩) (Nat.le_refl _) (Nat.le_refl _) (fun r H locs hw hP hD hS => ?_)
                  obtain rfl := hw
                  exact o_ri hf hr rfl hlocks hK hP hD hS (show 0 + (3 * (B - M)) ≤ 3 * (B - M) by omega) (show 0 + (6 * (B - M)) ≤ 6 * (B - M) by omega) (Or.inr ⟨S2, ra2, fa2, la2, M2, k0, k1, k2, w7, w8, w9, u1, u2, u3, u4, u5, u6, trivial, eS, hsh, hM3, hfr, h_gl, h_lf, h_ra, h_fa, h_la⟩) dX9_sheet_104
                · refine q_seti (y := 1) c_8 ?_
                  refine lv_tableIn (off := 36) (tgt := 105) hx hb dX9_sheet_69 (by decide) (by decide) (by decide) (by decide) ?_
                  refine lv_aload_n hx hb dX9_sheet_105 rfl (lv_at hl 0 rfl) ?_
                  refine o_get (D := D) (ci := 10) (v := .ref gl) (C := RX9) (T := TX9) (N := 12) hx hb hts inX9 hown hK hP h_dk rfl 7 (by decide) (hts _ k_436) (fun _ h9 => h9) rfl dX9_sheet_106 ?_
                  refine lv_iload_n hx hb dX9_sheet_109 rfl (lv_at hl 2 rfl) ?_
                  refine o_cis (k := 0 + (3 * (B - M))) (n := 0 + (6 * (B - M))) hK hP hD hS hA (o_rV (As := [.int (nI s_)]) (rest := []) hf (gl_pon _ _ _ _ _ _ _ _ pr gl lf ra2 fa2 la2 M2 S2.length (nI en) w7 w8 w9 k0 k1 k2 s_ a_ b_ h_gl h_ra h_fa h_la (by omega) (by omega) hs_ hn1 hn2 (by omega) (by omega) _) k_1012 k_1009 k_1010 k_1011 k_96 (nA := 1) (by decide +kernel) ⟨Nat.le_of_ble_eq_true rfl, Nat.le_of_ble_eq_true rfl⟩ hK hP hD hS hA hZ hN h_gl rfl rfl rfl hl.1 rfl (Nat.le_of_ble_eq_true rfl) dX9_sheet_110 ⟨(show 0 + (3 * (B - M)) + 0 ≤ 3 * (B - M) by omega), (show 0 + (6 * (B - M)) + 0 ≤ 6 * (B - M) by omega)⟩) (Nat.le_refl _) (Nat.le_refl _) (fun r H locs hw hP hD hS => ?_)
                  obtain rfl := hw
                  exact o_ri hf hr rfl hlocks hK hP hD hS (show 0 + (3 * (B - M)) ≤ 3 * (B - M) by omega) (show 0 + (6 * (B - M)) ≤ 6 * (B - M) by omega) (Or.inr ⟨S2, ra2, fa2, la2, M2, k0, k1, k2, w7, w8, w9, u1, u2, u3, u4, u5, u6, trivial, eS, hsh, hM3, hfr, h_gl, h_lf, h_ra, h_fa, h_la⟩) dX9_sheet_113
                · refine q_seti (y := 2) c_8 ?_
                  refine lv_tableIn (off := 45) (tgt := 114) hx hb dX9_sheet_69 (by decide) (by decide) (by decide) (by decide) ?_
                  refine lv_aload_n hx hb dX9_sheet_114 rfl (lv_at hl 0 rfl) ?_
                  refine o_get (D := D) (ci := 10) (v := .ref gl) (C := RX9) (T := TX9) (N := 12) hx hb hts inX9 hown hK hP h_dk rfl 7 (by decide) (hts _ k_436) (fun _ h9 => h9) rfl dX9_sheet_115 ?_
                  refine lv_iload_n hx hb dX9_sheet_118 rfl (lv_at hl 2 rfl) ?_
                  refine o_cis (k := 0 + (3 * (B - M))) (n := 0 + (6 * (B - M))) hK hP hD hS hA (o_rV (As := [.int (nI s_)]) (rest := []) hf (gl_fe _ _ _ _ _ _ _ _ pr pcs spr nwh cp pa ea P ne EE gl lf ra2 fa2 la2 M2 S2.length (nI en) w7 w8 w9 k0 k1 k2 s_ a_ h_pr h_pcs h_pc h_es h_gl h_ra h_fa hpa hQ (by omega) (by omega) hs_ hn1 (by omega) _) k_1016 k_1013 k_1014 k_1015 k_96 (nA := 1) (by decide +kernel) ⟨Nat.le_of_ble_eq_true rfl, Nat.le_of_ble_eq_true rfl⟩ hK hP hD hS hA hZ hN h_gl rfl rfl rfl hl.1 rfl (Nat.le_of_ble_eq_true rfl) dX9_sheet_119 ⟨(show 0 + (3 * (B - M)) + 0 ≤ 3 * (B - M) by omega), (show 0 + (6 * (B - M)) + 0 ≤ 6 * (B - M) by omega)⟩) (Nat.le_refl _) (Nat.le_refl _) (fun r H locs hw hP hD hS => ?_)
                  obtain rfl := hw
                  exact o_ri hf hr rfl hlocks hK hP hD hS (show 0 + (3 * (B - M)) ≤ 3 * (B - M) by omega) (show 0 + (6 * (B - M)) ≤ 6 * (B - M) by omega) (Or.inr ⟨S2, ra2, fa2, la2, M2, k0, k1, k2, w7, w8, w9, u1, u2, u3, u4, u5, u6, trivial, eS, hsh, hM3, hfr, h_gl, h_lf, h_ra, h_fa, h_la⟩) dX9_sheet_122
                · refine lv_tableOut (tgt := 123) hx hb dX9_sheet_69 c_8 (by decide) ?_
                  refine lv_aload_n hx hb dX9_sheet_123 rfl (lv_at hl 0 rfl) ?_
                  refine o_get (D := D) (ci := 10) (v := .ref gl) (C := RX9) (T := TX9) (N := 12) hx hb hts inX9 hown hK hP h_dk rfl 7 (by decide) (hts _ k_436) (fun _ h9 => h9) rfl dX9_sheet_124 ?_
                  refine lv_iload_n hx hb dX9_sheet_127 rfl (lv_at hl 2 rfl) ?_
                  refine o_cis (k := 0 + (3 * (B - M))) (n := 0 + (6 * (B - M))) hK hP hD hS hA (o_rV (As := [.int (nI s_)]) (rest := []) hf (gl_le _ _ _ _ _ _ _ _ pr pcs spr nwh cp pa ea P ne EE gl lf ra2 fa2 la2 M2 S2.length (nI en) w7 w8 w9 k0 k1 k2 s_ b_ h_pr h_pcs h_pc h_es h_gl h_ra h_la hpa hQ (by omega) (by omega) hs_ hn2 (by omega) _) k_1020 k_1017 k_1018 k_1019 k_96 (nA := 1) (by decide +kernel) ⟨Nat.le_of_ble_eq_true rfl, Nat.le_of_ble_eq_true rfl⟩ hK hP hD hS hA hZ hN h_gl rfl rfl rfl hl.1 rfl (Nat.le_of_ble_eq_true rfl) dX9_sheet_128 ⟨(show 0 + (3 * (B - M)) + 0 ≤ 3 * (B - M) by omega), (show 0 + (6 * (B - M)) + 0 ≤ 6 * (B - M) by omega)⟩) (Nat.le_refl _) (Nat.le_refl _) (fun r H locs hw hP hD hS => ?_)
                  obtain rfl := hw
                  exact o_ri hf hr rfl hlocks hK hP hD hS (show 0 + (3 * (B - M)) ≤ 3 * (B - M) by omega) (show 0 + (6 * (B - M)) ≤ 6 * (B - M) by omega) (Or.inr ⟨S2, ra2, fa2, la2, M2, k0, k1, k2, w7, w8, w9, u1, u2, u3, u4, u5, u6, trivial, eS, hsh, hM3, hfr, h_gl, h_lf, h_ra, h_fa, h_la⟩) dX9_sheet_131
            · refine lv_bipush (v := (-2)) hx hb dX9_sheet_65 (by decide) ?_
              exact o_ri hf hr rfl hlocks hK hP hD hS (show 0 + (3 * (B - M)) ≤ 3 * (B - M) by omega) (show 0 + (6 * (B - M)) ≤ 6 * (B - M) by omega) (Or.inr ⟨S2, ra2, fa2, la2, M2, k0, k1, k2, w7, w8, w9, u1, u2, u3, u4, u5, u6, trivial, eS, hsh, hM3, hfr, h_gl, h_lf, h_ra, h_fa, h_la⟩) dX9_sheet_67
          · refine lv_bipush (v := (-2)) hx hb dX9_sheet_39 (by decide) ?_
            exact o_ri hf hr rfl hlocks hK hP hD hS (show 0 ≤ 3 * (B - M) by omega) (show 0 ≤ 6 * (B - M) by omega) (Or.inl ⟨rfl, rfl⟩) dX9_sheet_41
    · refine lv_bipush (v := (-2)) hx hb dX9_sheet_9 (by decide) ?_
      exact o_ri hf hr rfl hlocks hK hP hD hS (show 0 ≤ 3 * (B - M) by omega) (show 0 ≤ 6 * (B - M) by omega) (Or.inl ⟨rfl, rfl⟩) dX9_sheet_11
set_option maxHeartbeats 1000000 in
set_option maxRecDepth 100000 in
theorem d_sheetB (l : Launch) (D : va_G) (z : Nat → Nat) (cB cI_ cO : ClassId) (L0 : List Nat) (g0 : hG) (dk tp rd els reo nob pr bk gl sl mo gs : Nat) (i1 i2 i3 : Int32) (h_dk : ho L0 g0 dk 1 (.inr (10, [.ref tp, .ref rd, .ref els, .ref reo, .ref nob, .ref pr, .ref bk, .ref gl, .ref sl, .int (nI mo), .int 1, .int (nI gs)]))) (hxx : i1 < 1 ∨ nI gs < i1) : eIs l D yX9_sheet cX9_sheet 4 (some .int) 0 0 0 0 [.ref dk, .int i1, .int i2, .int i3] z cB cI_ cO L0 g0 (fun r => True) := by
  refine o_si (by decide) (Nat.le_of_ble_eq_true rfl) ?_
  intro p e s m below meth c A ls hf hr hlocks hin hK hP hD hS hA hZ hN hl
  obtain ⟨hx, hb, hml, hown, hts⟩ := id hf
  have hl : lv_has ls 4 [(0, .ref dk), (1, .int i1), (2, .int i2), (3, .int i3)] := hl
  refine lv_iload_n hx hb dX9_sheet_0 rfl (lv_at hl 3 rfl) ?_
  refine lv_if_lt (tgt := 9) hx hb dX9_sheet_1 (by decide) (fun c_1 => ?_) (fun c_1 => ?_)
  · refine lv_bipush (v := (-2)) hx hb dX9_sheet_9 (by decide) ?_
    exact o_ri hf hr rfl hlocks hK hP hD hS (show 0 ≤ 0 by omega) (show 0 ≤ 0 by omega) ⟨trivial, rfl, rfl⟩ dX9_sheet_11
  · refine lv_iload_n hx hb dX9_sheet_4 rfl (lv_at hl 3 rfl) ?_
    refine lv_iconst (v := 3) hx hb dX9_sheet_5 (by decide) ?_
    refine lv_icmp_le (tgt := 12) hx hb dX9_sheet_6 (by decide) (fun c_2 => ?_) (fun c_2 => ?_)
    · refine lv_aload_n hx hb dX9_sheet_12 rfl (lv_at hl 0 rfl) ?_
      refine o_get (D := D) (ci := 10) (v := .int 1) (C := RX9) (T := TX9) (N := 12) hx hb hts inX9 hown hK hP h_dk rfl 10 (by decide) (hts _ k_439) (fun _ h9 => h9) rfl dX9_sheet_13 ?_
      refine lv_if_ne (tgt := 22) hx hb dX9_sheet_16 (by decide) (fun _ => ?_) (fun hno => absurd hno (by decide))
      refine lv_iload_n hx hb dX9_sheet_22 rfl (lv_at hl 1 rfl) ?_
      refine lv_iconst (v := 1) hx hb dX9_sheet_23 (by decide) ?_
      refine lv_icmp_lt (tgt := 39) hx hb dX9_sheet_24 (by decide) (fun c_3 => ?_) (fun c_3 => ?_)
      · refine lv_bipush (v := (-2)) hx hb dX9_sheet_39 (by decide) ?_
        exact o_ri hf hr rfl hlocks hK hP hD hS (show 0 ≤ 0 by omega) (show 0 ≤ 0 by omega) ⟨trivial, rfl, rfl⟩ dX9_sheet_41
      · refine lv_iload_n hx hb dX9_sheet_27 rfl (lv_at hl 1 rfl) ?_
        refine lv_aload_n hx hb dX9_sheet_28 rfl (lv_at hl 0 rfl) ?_
        refine o_get (D := D) (ci := 10) (v := .int (nI gs)) (C := RX9) (T := TX9) (N := 12) hx hb hts inX9 hown hK hP h_dk rfl 11 (by decide) (hts _ k_440) (fun _ h9 => h9) rfl dX9_sheet_29 ?_
        refine lv_icmp_gt (tgt := 39) hx hb dX9_sheet_32 (by decide) (fun c_4 => ?_) (fun c_4 => ?_)
        · refine lv_bipush (v := (-2)) hx hb dX9_sheet_39 (by decide) ?_
          exact o_ri hf hr rfl hlocks hK hP hD hS (show 0 ≤ 0 by omega) (show 0 ≤ 0 by omega) ⟨trivial, rfl, rfl⟩ dX9_sheet_41
        · refine lv_iload_n hx hb dX9_sheet_35 rfl (lv_at hl 2 rfl) ?_
          refine lv_if_ge (tgt := 42) hx hb dX9_sheet_36 (by decide) (fun c_5 => ?_) (fun c_5 => ?_)
          · exact False.elim (hxx.elim c_3 c_4)
          · refine lv_bipush (v := (-2)) hx hb dX9_sheet_39 (by decide) ?_
            exact o_ri hf hr rfl hlocks hK hP hD hS (show 0 ≤ 0 by omega) (show 0 ≤ 0 by omega) ⟨trivial, rfl, rfl⟩ dX9_sheet_41
    · refine lv_bipush (v := (-2)) hx hb dX9_sheet_9 (by decide) ?_
      exact o_ri hf hr rfl hlocks hK hP hD hS (show 0 ≤ 0 by omega) (show 0 ≤ 0 by omega) ⟨trivial, rfl, rfl⟩ dX9_sheet_11
set_option maxHeartbeats 1000000 in
set_option maxRecDepth 100000 in
theorem d_sheetU (l : Launch) (D : va_G) (z : Nat → Nat) (cB cI_ cO : ClassId) (L0 : List Nat) (g0 : hG) (dk tp rd els reo nob pr bk gl sl mo : Nat) (v11 i1 i2 i3 : Int32) (h_dk : ho L0 g0 dk 1 (.inr (10, [.ref tp, .ref rd, .ref els, .ref reo, .ref nob, .ref pr, .ref bk, .ref gl, .ref sl, .int (nI mo), .int 0, .int v11])))  : eIs l D yX9_sheet cX9_sheet 4 (some .int) 0 0 0 0 [.ref dk, .int i1, .int i2, .int i3] z cB cI_ cO L0 g0 (fun r => True) := by
  refine o_si (by decide) (Nat.le_of_ble_eq_true rfl) ?_
  intro p e s m below meth c A ls hf hr hlocks hin hK hP hD hS hA hZ hN hl
  obtain ⟨hx, hb, hml, hown, hts⟩ := id hf
  have hl : lv_has ls 4 [(0, .ref dk), (1, .int i1), (2, .int i2), (3, .int i3)] := hl
  refine lv_iload_n hx hb dX9_sheet_0 rfl (lv_at hl 3 rfl) ?_
  refine lv_if_lt (tgt := 9) hx hb dX9_sheet_1 (by decide) (fun c_1 => ?_) (fun c_1 => ?_)
  · refine lv_bipush (v := (-2)) hx hb dX9_sheet_9 (by decide) ?_
    exact o_ri hf hr rfl hlocks hK hP hD hS (show 0 ≤ 0 by omega) (show 0 ≤ 0 by omega) ⟨trivial, rfl, rfl⟩ dX9_sheet_11
  · refine lv_iload_n hx hb dX9_sheet_4 rfl (lv_at hl 3 rfl) ?_
    refine lv_iconst (v := 3) hx hb dX9_sheet_5 (by decide) ?_
    refine lv_icmp_le (tgt := 12) hx hb dX9_sheet_6 (by decide) (fun c_2 => ?_) (fun c_2 => ?_)
    · refine lv_aload_n hx hb dX9_sheet_12 rfl (lv_at hl 0 rfl) ?_
      refine o_get (D := D) (ci := 10) (v := .int 0) (C := RX9) (T := TX9) (N := 12) hx hb hts inX9 hown hK hP h_dk rfl 10 (by decide) (hts _ k_439) (fun _ h9 => h9) rfl dX9_sheet_13 ?_
      refine lv_if_ne (tgt := 22) hx hb dX9_sheet_16 (by decide) (fun hno => absurd hno (by decide)) (fun _ => ?_)
      refine lv_bipush (v := (-3)) hx hb dX9_sheet_19 (by decide) ?_
      exact o_ri hf hr rfl hlocks hK hP hD hS (show 0 ≤ 0 by omega) (show 0 ≤ 0 by omega) ⟨trivial, rfl, rfl⟩ dX9_sheet_21
    · refine lv_bipush (v := (-2)) hx hb dX9_sheet_9 (by decide) ?_
      exact o_ri hf hr rfl hlocks hK hP hD hS (show 0 ≤ 0 by omega) (show 0 ≤ 0 by omega) ⟨trivial, rfl, rfl⟩ dX9_sheet_11
