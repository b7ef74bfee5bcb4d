theorem gl_where3 (l : Launch) (D : va_G) (z : Nat → Nat) (cB cI_ cO : ClassId) (L0 : List Nat) (g0 : hG) (pr gl lf ra fa la M sn pp : Nat) (v6 v7 v8 v9 : Int32) (f2 : Nat → Int32) (h_gl : ho L0 g0 gl 25 (.inr (3, [.ref pr, .ref lf, .ref ra, .ref fa, .ref la, .int (nI sn), .int v6, .int v7, .int v8, .int v9]))) (h_la : ho L0 g0 la 28 (.inl (cI_, M, .inl f2))) (hM : M ≤ 30000) (hll : sn ≤ M) (hpp : pp ≤ 20000) (hln : ∀ t, t < sn → ∃ c : Nat, c ≤ 20000 ∧ f2 t = nI c) : eIs l D yX2_sheetWherePieceBegins cX2_sheetWherePieceBegins 3 (some .int) 8 100 0 0 [.ref gl, .int (nI pp)] z cB cI_ cO L0 g0 (fun _ => True) := by
  have hch : ∃ ln : Nat → Nat, ∀ t, t < sn → f2 t = nI (ln t) ∧ ln t ≤ 20000 := by
    refine ⟨fun t => (f2 t).toInt.toNat, fun t ht => ?_⟩
    obtain ⟨c, h1, h2⟩ := hln t ht
    show f2 t = nI (f2 t).toInt.toNat ∧ (f2 t).toInt.toNat ≤ 20000
    rw [h2, nI_toInt (by omega)]
    exact ⟨by rw [Int.toNat_natCast], by rw [Int.toNat_natCast]; exact h1⟩
  obtain ⟨ln, hln⟩ := hch
  exact eI_mo (gl_where l D z cB cI_ cO L0 g0 pr gl lf ra fa la M sn pp v6 v7 v8 v9 f2 ln h_gl h_la hM hll hpp hln) (fun r L g h => ⟨trivial, h.2⟩)
theorem glS_fin {EE : Nat → E5} {P : List Q4} {ne fi en mo : Nat} (hQ : pq_ok ne EE P) (hen : en ≤ P.length) (hmo1 : 10 ≤ mo) (hmo : mo ≤ 40) (hf : fi < en) : ∀ j, j < (gl_S EE P fi en mo).length → ∃ c : Nat, c < en ∧ ((gl_S EE P fi en mo).getD j (0, 0, 0)).2.2 = nI c := by
  unfold gl_S
  rw [if_pos hf]
  have hz := pz_of hQ hen
  have h1 := rs_sh_ok (K := qK EE P) (Fm := qF P) (To := qT P) (Rr := qR EE P) (fi := fi) hz hmo1 hmo 8000 fi 0 (by omega) (fun h => hz fi h) (fun _ => rfl)
  intro j hj
  obtain ⟨a, b, d, e, h2, h3, h4⟩ := h1.2 j hj
  rw [e]
  exact ⟨d, h3, rfl⟩
theorem rg_le {G : Nat → Nat} {g n : Nat} : ∀ k i p, i ≤ p → p < i + k → g ≤ G p → (∀ t, i ≤ t → t < p → G t ≤ G p) → rg_first G g k i ≤ p := by
  intro k
  induction k with
  | zero => intro i p h1 h2; omega
  | succ k ih =>
    intro i p h1 h2 h3 h4
    show (if G i < g then rg_first G g k (i + 1) else i) ≤ p
    by_cases c : G i < g
    · rw [if_pos c]
      by_cases c2 : i = p
      · rw [c2] at c; omega
      · exact ih (i + 1) p (by omega) (by omega) h3 (fun t h5 h6 => h4 t (by omega) h6)
    · rw [if_neg c]; exact h1
theorem rg_gt {G : Nat → Nat} {g : Nat} : ∀ k i p, i ≤ p → p < i + k → (∀ t, i ≤ t → t ≤ p → G t < g) → p < rg_first G g k i := by
  intro k
  induction k with
  | zero => intro i p h1 h2; omega
  | succ k ih =>
    intro i p h1 h2 h3
    show p < (if G i < g then rg_first G g k (i + 1) else i)
    rw [if_pos (h3 i (Nat.le_refl _) h1)]
    by_cases c2 : i = p
    · have := rg_first_le G g k (i + 1)
      omega
    · exact ih (i + 1) p (by omega) (by omega) (fun t h5 h6 => h3 t (by omega) h6)
/-- a piece of the group lies within it -/
theorem rg_lt {P : List Q4} {n pl gg : Nat} (hp : pl < n) (hg : (P.getD pl d4).2.2.2 = gg) (hs : ∀ s t, s ≤ t → t < n → (P.getD s d4).2.2.2 ≤ (P.getD t d4).2.2.2) : rg_first (fun t => (P.getD t d4).2.2.2) gg n 0 < rg_first (fun t => (P.getD t d4).2.2.2) (gg + 1) n 0 := by
  have h1 := rg_le (G := fun t => (P.getD t d4).2.2.2) (g := gg) (n := n) n 0 pl (Nat.zero_le _) (by omega) (by show gg ≤ (P.getD pl d4).2.2.2; omega) (fun t _ h2 => hs t pl (by omega) hp)
  have h2 := rg_gt (G := fun t => (P.getD t d4).2.2.2) (g := gg + 1) n 0 pl (Nat.zero_le _) (by omega) (fun t _ h3 => by show (P.getD t d4).2.2.2 < gg + 1; have := hs t pl h3 hp; omega)
  omega
theorem k_294 : (Cond.fieldLink RX9 205 "ScriptDesk$Piece" "group" "I") ∈ gT := gT_i 294 (by decide +kernel) rfl
theorem k_1025 : (Cond.methodLink RX9 239 yX6_firstPieceOf) ∈ gT := gT_i 1025 (by decide +kernel) rfl
theorem k_1026 : (Cond.instanceMethod yX6_firstPieceOf) ∈ gT := gT_i 1026 (by decide +kernel) rfl
theorem k_1027 : (Cond.selects RX6 yX6_firstPieceOf yX6_firstPieceOf) ∈ gT := gT_i 1027 (by decide +kernel) rfl
theorem k_1028 : (Cond.code yX6_firstPieceOf cX6_firstPieceOf 3 (some .int)) ∈ gT := gT_i 1028 (by decide +kernel) rfl
theorem k_1029 : (Cond.methodLink RX9 242 yX2_sheetWherePieceBegins) ∈ gT := gT_i 1029 (by decide +kernel) rfl
theorem k_1030 : (Cond.instanceMethod yX2_sheetWherePieceBegins) ∈ gT := gT_i 1030 (by decide +kernel) rfl
theorem k_1031 : (Cond.selects RX2 yX2_sheetWherePieceBegins yX2_sheetWherePieceBegins) ∈ gT := gT_i 1031 (by decide +kernel) rfl
theorem k_1032 : (Cond.code yX2_sheetWherePieceBegins cX2_sheetWherePieceBegins 3 (some .int)) ∈ gT := gT_i 1032 (by decide +kernel) rfl
theorem dX9_where_36 : decode cX9_where 36 = .ok (.aload_n 0, 1) := by decide +kernel
theorem dX9_where_37 : decode cX9_where 37 = .ok (.getfield 49, 3) := by decide +kernel
theorem dX9_where_40 : decode cX9_where 40 = .ok (.aload_n 2, 1) := by decide +kernel
theorem dX9_where_41 : decode cX9_where 41 = .ok (.invokevirtual 239, 3) := by decide +kernel
theorem dX9_where_44 : decode cX9_where 44 = .ok (.istore_n 3, 1) := by decide +kernel
theorem dX9_where_45 : decode cX9_where 45 = .ok (.aload_n 0, 1) := by decide +kernel
theorem dX9_where_46 : decode cX9_where 46 = .ok (.getfield 49, 3) := by decide +kernel
theorem dX9_where_49 : decode cX9_where 49 = .ok (.iload_n 3, 1) := by decide +kernel
theorem dX9_where_50 : decode cX9_where 50 = .ok (.invokevirtual 201, 3) := by decide +kernel
theorem dX9_where_53 : decode cX9_where 53 = .ok (.getfield 205, 3) := by decide +kernel
theorem dX9_where_56 : decode cX9_where 56 = .ok (.istore 4, 2) := by decide +kernel
theorem dX9_where_58 : decode cX9_where 58 = .ok (.aload_n 0, 1) := by decide +kernel
theorem dX9_where_59 : decode cX9_where 59 = .ok (.getfield 70, 3) := by decide +kernel
theorem dX9_where_62 : decode cX9_where 62 = .ok (.iload 4, 2) := by decide +kernel
theorem dX9_where_64 : decode cX9_where 64 = .ok (.aload_n 0, 1) := by decide +kernel
theorem dX9_where_65 : decode cX9_where 65 = .ok (.getfield 81, 3) := by decide +kernel
theorem dX9_where_68 : decode cX9_where 68 = .ok (.invokevirtual 213, 3) := by decide +kernel
theorem dX9_where_71 : decode cX9_where 71 = .ok (.iload 4, 2) := by decide +kernel
theorem dX9_where_73 : decode cX9_where 73 = .ok (.bipush 32, 2) := by decide +kernel
theorem dX9_where_75 : decode cX9_where 75 = .ok (.imul, 1) := by decide +kernel
theorem dX9_where_76 : decode cX9_where 76 = .ok (.aload_n 0, 1) := by decide +kernel
theorem dX9_where_77 : decode cX9_where 77 = .ok (.getfield 70, 3) := by decide +kernel
theorem dX9_where_80 : decode cX9_where 80 = .ok (.iload_n 3, 1) := by decide +kernel
theorem dX9_where_81 : decode cX9_where 81 = .ok (.invokevirtual 242, 3) := by decide +kernel
theorem dX9_where_84 : decode cX9_where 84 = .ok (.iadd, 1) := by decide +kernel
theorem dX9_where_85 : decode cX9_where 85 = .ok (.ireturn, 1) := by decide +kernel
set_option maxHeartbeats 1000000 in
set_option maxRecDepth 100000 in
theorem d_whereY (l : Launch) (D : va_G) (z : Nat → Nat) (cB cI_ cO : ClassId) (L0 : List Nat) (g0 : hG) (dk tp rd els reo nob pr pcs spr nwh cp bk sl gs : Nat) (pa : List Nat) (P : List Q4) (cap : Nat) (xs : List Nat) (Es : List E5) (nb gl lf ra fa la : Nat) (v5 v6 v7 v8 v9 x1 x2 x3 x4 x5 x6 : Int32) (M : Nat) (f0 f1 f2 : Nat → Int32) (mo gg fi en B pl j : Nat) (h_dk : ho L0 g0 dk 1 (.inr (10, [.ref tp, .ref rd, .ref els, .ref reo, .ref nob, .ref pr, .ref bk, .ref gl, .ref sl, .int (nI mo), .int 1, .int (nI gs)]))) (h_pr : ho L0 g0 pr 13 (.inr (7, [.ref pcs, .ref spr, .ref nwh]))) (h_pcs : alR cO (z 0) 14 15 L0 g0 pcs cp pa) (h_pc : pcR L0 g0 (fun e => xs.getD e 0) pa P) (h_els : alR cO (z 0) 5 6 L0 g0 els cap xs) (h_es : elsR cB cI_ L0 g0 xs Es) (h_nwh : ho L0 g0 nwh 19 (.inr (6, [.ref nb, .int 0, .int 0, .int 0]))) (h_gl : ho L0 g0 gl 25 (.inr (3, [.ref pr, .ref lf, .ref ra, .ref fa, .ref la, .int v5, .int v6, .int v7, .int v8, .int v9]))) (h_lf : ho L0 g0 lf 20 (.inr (4, [.ref pr, .int x1, .int x2, .int x3, .int x4, .int x5, .int x6]))) (h_ra : ho L0 g0 ra 26 (.inl (cI_, M, .inl f0))) (h_fa : ho L0 g0 fa 27 (.inl (cI_, M, .inl f1))) (h_la : ho L0 g0 la 28 (.inl (cI_, M, .inl f2))) (hpa : pa.length ≤ 20000) (hQ : pq_ok xs.length (fun e => Es.getD e dE) P) (hSn : qS P pa.length ≤ 8000) (hmo1 : 10 ≤ mo) (hmo : mo ≤ 40) (hgg : gg ≤ 20000) (hG : ∀ t, t < pa.length → (P.getD t d4).2.2.2 ≤ 30000) (efi : fi = rg_first (fun t => (P.getD t d4).2.2.2) gg pa.length 0) (een : en = rg_first (fun t => (P.getD t d4).2.2.2) (gg + 1) pa.length 0) (hgF : ∀ p, fi < p → p < en → (P.getD p d4).2.1 = 0) (hgT : ∀ p, fi ≤ p → p + 1 < en → (P.getD p d4).2.2.1 = eRw ((fun e => Es.getD e dE) (P.getD p d4).1)) (hM1 : 1 ≤ M) (hB9 : B ≤ 30000) (hB2 : B = glx M 0 (gl_S (fun e => Es.getD e dE) P fi en mo)) (hxl : xs.length ≤ 60) (hj : j < xs.length) (hst : (Es.getD j dE).2.2.1 = 0) (hpl : pl < pa.length) (hplj : (P.getD pl d4).1 = j) (hfst : ∀ t, t < pl → ¬ (P.getD t d4).1 = j) (hgg0 : (P.getD pl d4).2.2.2 = gg) (hGs : ∀ s t, s ≤ t → t < pa.length → (P.getD s d4).2.2.2 ≤ (P.getD t d4).2.2.2) : eI l D yX9_where cX9_where 5 (some .int) 11 327 (3 * (B - M)) (6 * (B - M)) [.ref dk, .int (nI j)] z cB cI_ cO L0 g0 (fun r L g => ∃ (S2 : List I3) (ra2 fa2 la2 M2 : Nat) (k0 k1 k2 : Nat → Int32) (w7 w8 w9 u1 u2 u3 u4 u5 u6 : Int32), True ∧ S2 = gl_S (fun e => Es.getD e dE) P fi en mo ∧ sh_is S2 k0 k1 k2 ∧ (S2.length ≤ M2 ∧ M2 = B ∧ 1 ≤ M2) ∧ fr [20, 25, 26, 27, 28] L0 g0 L g ∧ ho L g gl 25 (.inr (3, [.ref pr, .ref lf, .ref ra2, .ref fa2, .ref la2, .int (nI (S2.length)), .int (nI en), .int w7, .int w8, .int w9])) ∧ ho L g lf 20 (.inr (4, [.ref pr, .int u1, .int u2, .int u3, .int u4, .int u5, .int u6])) ∧ ho L g ra2 26 (.inl (cI_, M2, .inl k0)) ∧ ho L g fa2 27 (.inl (cI_, M2, .inl k1)) ∧ ho L g la2 28 (.inl (cI_, M2, .inl k2))) := by
  refine o_si (by decide) (Nat.le_of_ble_eq_true rfl) ?_
  intro p e s m below meth c A ls hf hr hlocks hin hK hP hD hS hA hZ hN hl
  obtain ⟨hx, hb, hml, hown, hts⟩ := id hf
  have hl : lv_has ls 5 [(0, .ref dk), (1, .int (nI j))] := hl
  have hfr : fr [20, 25, 26, 27, 28] L0 g0 L0 g0 := fr.rf
  refine lv_aload_n hx hb dX9_where_0 rfl (lv_at hl 0 rfl) ?_
  refine lv_iload_n hx hb dX9_where_1 rfl (lv_at hl 1 rfl) ?_
  refine o_cis (k := 0) (n := 0) hK hP hD hS hA (o_rV (As := [.int (nI j)]) (rest := []) hf (d_isE1 _ _ _ _ _ _ _ _ dk tp rd els reo nob pr bk gl sl mo 1 (nI gs) cap xs Es j h_dk h_els h_es hxl (by omega) _) k_736 k_733 k_735 k_22 k_84 (nA := 1) (by decide +kernel) ⟨Nat.le_of_ble_eq_true rfl, Nat.le_of_ble_eq_true rfl⟩ hK hP hD hS hA hZ hN h_dk rfl rfl rfl hl.1 rfl (Nat.le_of_ble_eq_true rfl) dX9_where_2 ⟨(show 0 + 0 ≤ 3 * (B - M) by omega), (show 0 + 0 ≤ 6 * (B - M) by omega)⟩) (Nat.le_refl _) (Nat.le_refl _) (fun r H locs hw hP hD hS => ?_)
  obtain rfl := hw
  refine lv_if_ne (tgt := 11) hx hb dX9_where_5 (by decide) (fun _ => ?_) (fun hno => absurd hno (by decide))
  refine lv_aload_n hx hb dX9_where_11 rfl (lv_at hl 0 rfl) ?_
  refine o_get (D := D) (ci := 10) (v := .int 1) (C := RX9) (T := TX9) (N := 12) hx hb hts inX9 hown hK hP h_dk rfl 10 (by decide) (hts _ k_439) (fun _ h9 => h9) rfl dX9_where_12 ?_
  refine lv_if_ne (tgt := 21) hx hb dX9_where_15 (by decide) (fun _ => ?_) (fun hno => absurd hno (by decide))
  refine lv_aload_n hx hb dX9_where_21 rfl (lv_at hl 0 rfl) ?_
  refine lv_iload_n hx hb dX9_where_22 rfl (lv_at hl 1 rfl) ?_
  refine o_crs (k := 0) (n := 0) hK hP hD hS hA (o_rV (As := [.int (nI j)]) (rest := []) hf (d_elAt _ _ _ _ _ _ _ _ dk tp rd els reo nob pr bk gl sl mo 1 (nI gs) cap xs Es j h_dk h_els h_es hxl (by omega) _) k_740 k_737 k_739 k_23 k_84 (nA := 1) (by decide +kernel) ⟨Nat.le_of_ble_eq_true rfl, Nat.le_of_ble_eq_true rfl⟩ hK hP hD hS hA hZ hN h_dk rfl rfl rfl hl.1 rfl (Nat.le_of_ble_eq_true rfl) dX9_where_23 ⟨(show 0 + 0 ≤ 3 * (B - M) by omega), (show 0 + 0 ≤ 6 * (B - M) by omega)⟩) (Nat.le_refl _) (Nat.le_refl _) (fun r H locs hw hP hD hS => ?_)
  obtain rfl := hw
  obtain ⟨⟨txg1, rfg1, rtg1, h_eg1⟩, hr_g1⟩ := h_es.o2 (show j < xs.length by omega)
  refine lv_astore_n (lv' := [(2, .ref (xs.getD j 0)), (0, .ref dk), (1, .int (nI j))]) hx hb dX9_where_26 rfl hl (by decide) rfl (fun ls hl => ?_)
  refine lv_aload_n hx hb dX9_where_27 rfl (lv_at hl 0 rfl) ?_
  refine o_get (D := D) (ci := 2) (v := .int ((Es.getD j dE).2.2.1)) (C := RX1) (T := TX1) (N := 9) hx hb hts inX1 hown hK hP h_eg1 rfl 2 (by decide) (hts _ k_235) (fun _ h9 => h9) rfl dX9_where_28 ?_
  refine lv_if_eq (tgt := 36) hx hb dX9_where_31 (by decide) (fun c_2 => ?_) (fun c_2 => ?_)
  · refine lv_aload_n hx hb dX9_where_36 rfl (lv_at hl 1 rfl) ?_
    refine o_get (D := D) (ci := 10) (v := .ref pr) (C := RX9) (T := TX9) (N := 12) hx hb hts inX9 hown hK hP h_dk rfl 5 (by decide) (hts _ k_434) (fun _ h9 => h9) rfl dX9_where_37 ?_
    refine lv_aload_n hx hb dX9_where_40 rfl (lv_at hl 0 rfl) ?_
    refine o_cis (k := 0) (n := 0) hK hP hD hS hA (o_rV (As := [.ref (xs.getD j 0)]) (rest := []) hf (p_first2 _ _ _ _ _ _ _ _ pr pcs spr nwh cp pa (fun e => xs.getD e 0) P (xs.getD j 0) pl h_pr h_pcs h_pc hpa hpl (by show xs.getD (P.getD pl d4).1 0 = _; rw [hplj]) (fun t h9 h8 => hfst t h9 (nd_inj h_es.2.1 (hQ t (by have := h_pc.1; omega)).1 hj h8)) _) k_1028 k_1025 k_1026 k_1027 k_92 (nA := 1) (by decide +kernel) ⟨Nat.le_of_ble_eq_true rfl, Nat.le_of_ble_eq_true rfl⟩ hK hP hD hS hA hZ hN h_pr rfl rfl rfl hl.1 rfl (Nat.le_of_ble_eq_true rfl) dX9_where_41 ⟨(show 0 + 0 ≤ 3 * (B - M) by omega), (show 0 + 0 ≤ 6 * (B - M) by omega)⟩) (Nat.le_refl _) (Nat.le_refl _) (fun r H locs hw hP hD hS => ?_)
    obtain rfl := hw
    refine lv_istore_n (lv' := [(3, .int (nI pl)), (2, .ref (xs.getD j 0)), (0, .ref dk), (1, .int (nI j))]) hx hb dX9_where_44 rfl hl (by decide) rfl (fun ls hl => ?_)
    refine lv_aload_n hx hb dX9_where_45 rfl (lv_at hl 2 rfl) ?_
    refine o_get (D := D) (ci := 10) (v := .ref pr) (C := RX9) (T := TX9) (N := 12) hx hb hts inX9 hown hK hP h_dk rfl 5 (by decide) (hts _ k_434) (fun _ h9 => h9) rfl dX9_where_46 ?_
    refine lv_iload_n hx hb dX9_where_49 rfl (lv_at hl 0 rfl) ?_
    refine o_crs (k := 0) (n := 0) hK hP hD hS hA (o_rV (As := [.int (nI pl)]) (rest := []) hf (p_atI _ _ _ _ _ _ _ _ pr pcs spr nwh cp pa (fun e => xs.getD e 0) P pl h_pr h_pcs h_pc hpa hpl _) k_775 k_945 k_773 k_774 k_92 (nA := 1) (by decide +kernel) ⟨Nat.le_of_ble_eq_true rfl, Nat.le_of_ble_eq_true rfl⟩ hK hP hD hS hA hZ hN h_pr rfl rfl rfl hl.1 rfl (Nat.le_of_ble_eq_true rfl) dX9_where_50 ⟨(show 0 + 0 ≤ 3 * (B - M) by omega), (show 0 + 0 ≤ 6 * (B - M) by omega)⟩) (Nat.le_refl _) (Nat.le_refl _) (fun r H locs hw hP hD hS => ?_)
    obtain rfl := hw
    have h_pp := h_pc.2 pl hpl
    rw [hgg0] at h_pp
    refine o_get (D := D) (ci := 6) (v := .int (nI gg)) (C := RX5) (T := TX5) (N := 4) hx hb hts inX5 hown hK hP h_pp rfl 3 (by decide) (hts _ k_294) (fun _ h9 => h9) rfl dX9_where_53 ?_
    refine lv_istore (lv' := [(4, .int (nI gg)), (3, .int (nI pl)), (2, .ref (xs.getD j 0)), (0, .ref dk), (1, .int (nI j))]) hx hb dX9_where_56 hl (by decide) rfl (fun ls hl => ?_)
    refine lv_aload_n hx hb dX9_where_58 rfl (lv_at hl 3 rfl) ?_
    refine o_get (D := D) (ci := 10) (v := .ref gl) (C := RX9) (T := TX9) (N := 12) hx hb hts inX9 hown hK hP h_dk rfl 7 (by decide) (hts _ k_436) (fun _ h9 => h9) rfl dX9_where_59 ?_
    refine lv_iload hx hb dX9_where_62 (lv_at hl 0 rfl) ?_
    refine lv_aload_n hx hb dX9_where_64 rfl (lv_at hl 3 rfl) ?_
    refine o_get (D := D) (ci := 10) (v := .int (nI mo)) (C := RX9) (T := TX9) (N := 12) hx hb hts inX9 hown hK hP h_dk rfl 9 (by decide) (hts _ k_438) (fun _ h9 => h9) rfl dX9_where_65 ?_
    refine o_cv (k := 0 + (3 * (B - M))) (n := 0 + (6 * (B - M))) hK hP hD hS hA (o_rV (As := [.int (nI gg), .int (nI mo)]) (rest := []) hf (gl_lay _ _ _ _ _ _ _ _ pr pcs spr nwh cp pa (fun e => xs.getD e 0) P xs.length (fun e => Es.getD e dE) nb gl lf ra fa la v5 v6 v7 v8 v9 x1 x2 x3 x4 x5 x6 M f0 f1 f2 mo gg fi en B h_pr h_pcs h_pc h_es.2.2 h_nwh h_gl h_lf h_ra h_fa h_la hpa hQ hSn hmo1 hmo hgg hG efi een hgF hgT hM1 hB9 hB2 _) k_949 k_946 k_947 k_948 k_96 (nA := 2) (by decide +kernel) ⟨Nat.le_of_ble_eq_true rfl, Nat.le_of_ble_eq_true rfl⟩ hK hP hD hS hA hZ hN h_gl rfl rfl rfl hl.1 rfl (Nat.le_of_ble_eq_true rfl) dX9_where_68 ⟨(show 0 + (3 * (B - M)) ≤ 3 * (B - M) by omega), (show 0 + (6 * (B - M)) ≤ 6 * (B - M) by omega)⟩) (by omega) (by omega) (fun L g H locs hw hP hD hS => ?_)
    obtain ⟨S2, ra2, fa2, la2, M2, k0, k1, k2, w7, w8, w9, u1, u2, u3, u4, u5, u6, eS, hsh, hM3, hf9, h_gl, h_lf, h_ra, h_fa, h_la⟩ := hw
    have h_dk := h_dk.fr hf9 (by decide)
    have h_pr := h_pr.fr hf9 (by decide)
    have h_nwh := h_nwh.fr hf9 (by decide)
    have h_eg1 := h_eg1.fr hf9 (by decide)
    have h_pp := h_pp.fr hf9 (by decide)
    have hfr := hfr.tr hf9
    have h_pcs := h_pcs.frd hf9 (by decide)
    have h_pc := h_pc.frd hf9 (by decide)
    have h_els := h_els.frd hf9 (by decide)
    have h_es := h_es.frd hf9 (by decide)
    have hplm := h_pc.1
    have heb := rg_first_le (fun t => (P.getD t d4).2.2.2) (gg + 1) pa.length 0
    rw [← een] at heb
    have hgo := glS_ok (EE := (fun e => Es.getD e dE)) (fi := fi) hQ (show en ≤ P.length by omega) hmo1 hmo
    obtain ⟨fz, hfz⟩ : fi < en ∧ True := ⟨by rw [efi, een]; exact rg_lt hpl hgg0 hGs, trivial⟩
    have hln9 : ∀ t, t < S2.length → ∃ c : Nat, c ≤ 20000 ∧ k2 t = nI c := fun t ht => by
      have h8 := hsh t ht
      have h7 := (glS_fin (EE := (fun e => Es.getD e dE)) (fi := fi) hQ (show en ≤ P.length by omega) hmo1 hmo fz) t (by rw [← eS]; exact ht)
      obtain ⟨c, h5, h6⟩ := h7
      exact ⟨c, by omega, by rw [h8.2.2, eS]; exact h6⟩
    refine lv_iload hx hb dX9_where_71 (lv_at hl 0 rfl) ?_
    refine lv_bipush (v := 32) hx hb dX9_where_73 (by decide) ?_
    refine lv_imul hx hb dX9_where_75 ?_
    refine q_seti (y := nI (32 * gg)) (nI_mulE (a := gg) (b := 32) (by omega)) ?_
    refine lv_aload_n hx hb dX9_where_76 rfl (lv_at hl 3 rfl) ?_
    refine o_get (D := D) (ci := 10) (v := .ref gl) (C := RX9) (T := TX9) (N := 12) hx hb hts inX9 hown hK hP h_dk rfl 7 (by decide) (hts _ k_436) (fun _ h9 => h9) rfl dX9_where_77 ?_
    refine lv_iload_n hx hb dX9_where_80 rfl (lv_at hl 1 rfl) ?_
    refine o_cis (k := 0 + (3 * (B - M))) (n := 0 + (6 * (B - M))) hK hP hD hS hA (o_rV (As := [.int (nI pl)]) (rest := [.int (nI (32 * gg))]) hf (gl_where3 _ _ _ _ _ _ _ _ pr gl lf ra2 fa2 la2 M2 S2.length pl (nI en) w7 w8 w9 k2 h_gl h_la (by omega) (by omega) (by omega) hln9 _) k_1032 k_1029 k_1030 k_1031 k_96 (nA := 1) (by decide +kernel) ⟨Nat.le_of_ble_eq_true rfl, Nat.le_of_ble_eq_true rfl⟩ hK hP hD hS hA hZ hN h_gl rfl rfl rfl hl.1 rfl (Nat.le_of_ble_eq_true rfl) dX9_where_81 ⟨(show 0 + (3 * (B - M)) + 0 ≤ 3 * (B - M) by omega), (show 0 + (6 * (B - M)) + 0 ≤ 6 * (B - M) by omega)⟩) (Nat.le_refl _) (Nat.le_refl _) (fun r H locs hw hP hD hS => ?_)
    obtain _ := hw
    refine lv_iadd hx hb dX9_where_84 ?_
    exact o_ri hf hr rfl hlocks hK hP hD hS (show 0 + (3 * (B - M)) ≤ 3 * (B - M) by omega) (show 0 + (6 * (B - M)) ≤ 6 * (B - M) by omega) ⟨S2, ra2, fa2, la2, M2, k0, k1, k2, w7, w8, w9, u1, u2, u3, u4, u5, u6, trivial, eS, hsh, hM3, hfr, h_gl, h_lf, h_ra, h_fa, h_la⟩ dX9_where_85
  · exact absurd hst c_2
