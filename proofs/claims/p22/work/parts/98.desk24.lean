theorem kd6_in {kd : Int32} (h : kd6 kd) : ¬ (kd < 0 ∨ ¬ kd < 6) := by
  rcases h with h | h | h | h | h | h <;> subst h <;> decide
theorem k_182 : (Cond.methodLink RX9 37 yX1_init) ∈ gT := gT_i 182 (by decide +kernel) rfl
theorem k_936 : (Cond.methodLink RX9 194 yX8_hasWord) ∈ gT := gT_i 936 (by decide +kernel) rfl
theorem k_937 : (Cond.instanceMethod yX8_hasWord) ∈ gT := gT_i 937 (by decide +kernel) rfl
theorem k_938 : (Cond.selects RX8 yX8_hasWord yX8_hasWord) ∈ gT := gT_i 938 (by decide +kernel) rfl
theorem k_939 : (Cond.code yX8_hasWord cX8_hasWord 2 (some .boolean)) ∈ gT := gT_i 939 (by decide +kernel) rfl
theorem k_941 : (Cond.methodLink RX9 197 yX6_lastPieceOf) ∈ gT := gT_i 941 (by decide +kernel) rfl
theorem k_942 : (Cond.instanceMethod yX6_lastPieceOf) ∈ gT := gT_i 942 (by decide +kernel) rfl
theorem k_943 : (Cond.selects RX6 yX6_lastPieceOf yX6_lastPieceOf) ∈ gT := gT_i 943 (by decide +kernel) rfl
theorem k_944 : (Cond.code yX6_lastPieceOf cX6_lastPieceOf 3 (some .int)) ∈ gT := gT_i 944 (by decide +kernel) rfl
theorem dX9_insert_8 : decode cX9_insert 8 = .ok (.iload_n 2, 1) := by decide +kernel
theorem dX9_insert_9 : decode cX9_insert 9 = .ok (.ifCond .lt 9, 3) := by decide +kernel
theorem dX9_insert_12 : decode cX9_insert 12 = .ok (.iload_n 2, 1) := by decide +kernel
theorem dX9_insert_13 : decode cX9_insert 13 = .ok (.bipush 6, 2) := by decide +kernel
theorem dX9_insert_15 : decode cX9_insert 15 = .ok (.if_icmp .lt 6, 3) := by decide +kernel
theorem dX9_insert_21 : decode cX9_insert 21 = .ok (.aload_n 0, 1) := by decide +kernel
theorem dX9_insert_22 : decode cX9_insert 22 = .ok (.iload_n 1, 1) := by decide +kernel
theorem dX9_insert_23 : decode cX9_insert 23 = .ok (.invokevirtual 126, 3) := by decide +kernel
theorem dX9_insert_26 : decode cX9_insert 26 = .ok (.astore_n 3, 1) := by decide +kernel
theorem dX9_insert_27 : decode cX9_insert 27 = .ok (.aload_n 0, 1) := by decide +kernel
theorem dX9_insert_28 : decode cX9_insert 28 = .ok (.getfield 116, 3) := by decide +kernel
theorem dX9_insert_31 : decode cX9_insert 31 = .ok (.ifCond .eq 20, 3) := by decide +kernel
theorem dX9_insert_34 : decode cX9_insert 34 = .ok (.aload_n 3, 1) := by decide +kernel
theorem dX9_insert_35 : decode cX9_insert 35 = .ok (.getfield 139, 3) := by decide +kernel
theorem dX9_insert_38 : decode cX9_insert 38 = .ok (.ifCond .ne 13, 3) := by decide +kernel
theorem dX9_insert_41 : decode cX9_insert 41 = .ok (.aload_n 0, 1) := by decide +kernel
theorem dX9_insert_42 : decode cX9_insert 42 = .ok (.getfield 10, 3) := by decide +kernel
theorem dX9_insert_45 : decode cX9_insert 45 = .ok (.invokevirtual 194, 3) := by decide +kernel
theorem dX9_insert_48 : decode cX9_insert 48 = .ok (.ifCond .ne 6, 3) := by decide +kernel
theorem dX9_insert_54 : decode cX9_insert 54 = .ok (.aload_n 0, 1) := by decide +kernel
theorem dX9_insert_55 : decode cX9_insert 55 = .ok (.getfield 28, 3) := by decide +kernel
theorem dX9_insert_58 : decode cX9_insert 58 = .ok (.invokevirtual 113, 3) := by decide +kernel
theorem dX9_insert_61 : decode cX9_insert 61 = .ok (.bipush 60, 2) := by decide +kernel
theorem dX9_insert_63 : decode cX9_insert 63 = .ok (.if_icmp .lt 6, 3) := by decide +kernel
theorem dX9_insert_69 : decode cX9_insert 69 = .ok (.new 35, 3) := by decide +kernel
theorem dX9_insert_72 : decode cX9_insert 72 = .ok (.dup, 1) := by decide +kernel
theorem dX9_insert_73 : decode cX9_insert 73 = .ok (.aload_n 0, 1) := by decide +kernel
theorem dX9_insert_74 : decode cX9_insert 74 = .ok (.getfield 28, 3) := by decide +kernel
theorem dX9_insert_77 : decode cX9_insert 77 = .ok (.invokevirtual 113, 3) := by decide +kernel
theorem dX9_insert_80 : decode cX9_insert 80 = .ok (.iload_n 2, 1) := by decide +kernel
theorem dX9_insert_81 : decode cX9_insert 81 = .ok (.aload_n 0, 1) := by decide +kernel
theorem dX9_insert_82 : decode cX9_insert 82 = .ok (.getfield 10, 3) := by decide +kernel
theorem dX9_insert_85 : decode cX9_insert 85 = .ok (.iconst 0, 1) := by decide +kernel
theorem dX9_insert_86 : decode cX9_insert 86 = .ok (.aload_n 0, 1) := by decide +kernel
theorem dX9_insert_87 : decode cX9_insert 87 = .ok (.getfield 10, 3) := by decide +kernel
theorem dX9_insert_90 : decode cX9_insert 90 = .ok (.invokevirtual 93, 3) := by decide +kernel
theorem dX9_insert_93 : decode cX9_insert 93 = .ok (.invokespecial 37, 3) := by decide +kernel
theorem dX9_insert_96 : decode cX9_insert 96 = .ok (.astore 4, 2) := by decide +kernel
theorem dX9_insert_98 : decode cX9_insert 98 = .ok (.aload_n 0, 1) := by decide +kernel
theorem dX9_insert_99 : decode cX9_insert 99 = .ok (.getfield 49, 3) := by decide +kernel
theorem dX9_insert_102 : decode cX9_insert 102 = .ok (.aload_n 3, 1) := by decide +kernel
theorem dX9_insert_103 : decode cX9_insert 103 = .ok (.invokevirtual 197, 3) := by decide +kernel
theorem dX9_insert_106 : decode cX9_insert 106 = .ok (.istore 5, 2) := by decide +kernel
theorem dX9_insert_108 : decode cX9_insert 108 = .ok (.aload_n 0, 1) := by decide +kernel
theorem dX9_insert_109 : decode cX9_insert 109 = .ok (.getfield 49, 3) := by decide +kernel
theorem dX9_insert_112 : decode cX9_insert 112 = .ok (.iload 5, 2) := by decide +kernel
theorem dX9_insert_114 : decode cX9_insert 114 = .ok (.invokevirtual 201, 3) := by decide +kernel
theorem dX9_insert_117 : decode cX9_insert 117 = .ok (.getfield 205, 3) := by decide +kernel
theorem dX9_insert_120 : decode cX9_insert 120 = .ok (.istore 6, 2) := by decide +kernel
theorem dX9_insert_122 : decode cX9_insert 122 = .ok (.aload_n 0, 1) := by decide +kernel
theorem dX9_insert_123 : decode cX9_insert 123 = .ok (.getfield 49, 3) := by decide +kernel
theorem dX9_insert_126 : decode cX9_insert 126 = .ok (.iload 5, 2) := by decide +kernel
theorem dX9_insert_128 : decode cX9_insert 128 = .ok (.iconst 1, 1) := by decide +kernel
theorem dX9_insert_129 : decode cX9_insert 129 = .ok (.iadd, 1) := by decide +kernel
theorem dX9_insert_130 : decode cX9_insert 130 = .ok (.aload 4, 2) := by decide +kernel
theorem dX9_insert_132 : decode cX9_insert 132 = .ok (.iconst 0, 1) := by decide +kernel
theorem dX9_insert_133 : decode cX9_insert 133 = .ok (.aload 4, 2) := by decide +kernel
theorem dX9_insert_135 : decode cX9_insert 135 = .ok (.invokevirtual 136, 3) := by decide +kernel
theorem dX9_insert_138 : decode cX9_insert 138 = .ok (.iload 6, 2) := by decide +kernel
theorem dX9_insert_140 : decode cX9_insert 140 = .ok (.invokevirtual 210, 3) := by decide +kernel
theorem dX9_insert_143 : decode cX9_insert 143 = .ok (.aload_n 0, 1) := by decide +kernel
theorem dX9_insert_144 : decode cX9_insert 144 = .ok (.getfield 70, 3) := by decide +kernel
theorem dX9_insert_147 : decode cX9_insert 147 = .ok (.iload 6, 2) := by decide +kernel
theorem dX9_insert_149 : decode cX9_insert 149 = .ok (.aload_n 0, 1) := by decide +kernel
theorem dX9_insert_150 : decode cX9_insert 150 = .ok (.getfield 81, 3) := by decide +kernel
theorem dX9_insert_153 : decode cX9_insert 153 = .ok (.invokevirtual 213, 3) := by decide +kernel
theorem dX9_insert_156 : decode cX9_insert 156 = .ok (.aload_n 0, 1) := by decide +kernel
theorem dX9_insert_157 : decode cX9_insert 157 = .ok (.getfield 70, 3) := by decide +kernel
theorem dX9_insert_160 : decode cX9_insert 160 = .ok (.invokevirtual 217, 3) := by decide +kernel
theorem dX9_insert_163 : decode cX9_insert 163 = .ok (.bipush 27, 2) := by decide +kernel
theorem dX9_insert_165 : decode cX9_insert 165 = .ok (.if_icmp .le 15, 3) := by decide +kernel
theorem dX9_insert_180 : decode cX9_insert 180 = .ok (.aload_n 0, 1) := by decide +kernel
theorem dX9_insert_181 : decode cX9_insert 181 = .ok (.getfield 28, 3) := by decide +kernel
theorem dX9_insert_184 : decode cX9_insert 184 = .ok (.aload 4, 2) := by decide +kernel
theorem dX9_insert_186 : decode cX9_insert 186 = .ok (.invokevirtual 220, 3) := by decide +kernel
theorem dX9_insert_189 : decode cX9_insert 189 = .ok (.pop, 1) := by decide +kernel
theorem dX9_insert_190 : decode cX9_insert 190 = .ok (.aload_n 0, 1) := by decide +kernel
theorem dX9_insert_191 : decode cX9_insert 191 = .ok (.getfield 10, 3) := by decide +kernel
theorem dX9_insert_194 : decode cX9_insert 194 = .ok (.iconst 0, 1) := by decide +kernel
theorem dX9_insert_195 : decode cX9_insert 195 = .ok (.invokevirtual 97, 3) := by decide +kernel
theorem dX9_insert_198 : decode cX9_insert 198 = .ok (.aload 4, 2) := by decide +kernel
theorem dX9_insert_200 : decode cX9_insert 200 = .ok (.getfield 224, 3) := by decide +kernel
theorem dX9_insert_203 : decode cX9_insert 203 = .ok (.ireturn, 1) := by decide +kernel
theorem dX9_insert_168 : decode cX9_insert 168 = .ok (.aload_n 0, 1) := by decide +kernel
theorem dX9_insert_169 : decode cX9_insert 169 = .ok (.getfield 49, 3) := by decide +kernel
theorem dX9_insert_172 : decode cX9_insert 172 = .ok (.aload 4, 2) := by decide +kernel
theorem dX9_insert_174 : decode cX9_insert 174 = .ok (.invokevirtual 191, 3) := by decide +kernel
theorem dX9_insert_177 : decode cX9_insert 177 = .ok (.bipush (-4), 2) := by decide +kernel
theorem dX9_insert_179 : decode cX9_insert 179 = .ok (.ireturn, 1) := by decide +kernel
set_option maxHeartbeats 4000000 in
set_option maxRecDepth 100000 in
theorem d_insY (l : Launch) (D : va_G) (z : Nat → Nat) (cB cI_ cO : ClassId) (L0 : List Nat) (g0 : hG) (dk tp rd els reo nob pr pcs spr nwh cp cs bk sl gs by_ n : Nat) (T : Nat → Int32) (pa sa : List Nat) (P : List Q4) (cap : Nat) (xs : List Nat) (Es : List E5) (nb gl lf ra fa la : Nat) (v5 v6 v7 v8 v9 x1 x2 x3 x4 x5 x6 : Int32) (M : Nat) (f0 f1 f2 : Nat → Int32) (mo gg fi en B Bl SN pl j : Nat) (kd : Int32) (h_dk : ho L0 g0 dk 1 (.inr (10, [.ref tp, .ref rd, .ref els, .ref reo, .ref nob, .ref pr, .ref bk, .ref gl, .ref sl, .int (nI mo), .int 1, .int (nI gs)]))) (h_tp : ho L0 g0 tp 2 (.inr (9, [.ref by_, .int (nI n)]))) (h_by : ho L0 g0 by_ 3 (.inl (cB, 1200, .inl T))) (h_pr : ho L0 g0 pr 13 (.inr (7, [.ref pcs, .ref spr, .ref nwh]))) (h_pcs : alR cO (z 0) 14 15 L0 g0 pcs cp pa) (h_spr : alR cO (z 0) 16 17 L0 g0 spr cs sa) (h_pc : pcR L0 g0 (fun e => xs.getD e 0) pa P) (h_sp : spR L0 g0 sa) (h_els : alR cO (z 0) 5 6 L0 g0 els cap xs) (h_es : elsR cB cI_ L0 g0 xs Es) (h_nwh : ho L0 g0 nwh 19 (.inr (6, [.ref nb, .int 0, .int 0, .int 0]))) (h_gl : ho L0 g0 gl 25 (.inr (3, [.ref pr, .ref lf, .ref ra, .ref fa, .ref la, .int v5, .int v6, .int v7, .int v8, .int v9]))) (h_lf : ho L0 g0 lf 20 (.inr (4, [.ref pr, .int x1, .int x2, .int x3, .int x4, .int x5, .int x6]))) (h_ra : ho L0 g0 ra 26 (.inl (cI_, M, .inl f0))) (h_fa : ho L0 g0 fa 27 (.inl (cI_, M, .inl f1))) (h_la : ho L0 g0 la 28 (.inl (cI_, M, .inl f2))) (hn : n ≤ 1200) (hTb : ∀ i, vp_nar .byte (T i) = T i) (hk6 : kd6 kd) (hxl : xs.length < 60) (hpa : pa.length ≤ 9000) (hQ : pq_ok xs.length (fun e => Es.getD e dE) P) (hQ2 : pq_ok (xs.length + 1) (fun e => (Es ++ [(kd, nI xs.length, (0 : Int32), (tx_sc T n 0 0 0 []).1, (tx_sc T n 0 0 0 []).2)]).getD e dE) (lsJ P (pl + 1) (xs.length, 0, (tx_rows kd (tx_sc T n 0 0 0 []).2).length, gg))) (hSn2 : qS (lsJ P (pl + 1) (xs.length, 0, (tx_rows kd (tx_sc T n 0 0 0 []).2).length, gg)) (pa.length + 1) ≤ 8000) (hmo1 : 10 ≤ mo) (hmo : mo ≤ 40) (hgg : gg ≤ 20000) (hG2 : ∀ t, t < pa.length + 1 → ((lsJ P (pl + 1) (xs.length, 0, (tx_rows kd (tx_sc T n 0 0 0 []).2).length, gg)).getD t d4).2.2.2 ≤ 30000) (efi : fi = rg_first (fun t => ((lsJ P (pl + 1) (xs.length, 0, (tx_rows kd (tx_sc T n 0 0 0 []).2).length, gg)).getD t d4).2.2.2) gg (pa.length + 1) 0) (een : en = rg_first (fun t => ((lsJ P (pl + 1) (xs.length, 0, (tx_rows kd (tx_sc T n 0 0 0 []).2).length, gg)).getD t d4).2.2.2) (gg + 1) (pa.length + 1) 0) (hgF : ∀ p, fi < p → p < en → ((lsJ P (pl + 1) (xs.length, 0, (tx_rows kd (tx_sc T n 0 0 0 []).2).length, gg)).getD p d4).2.1 = 0) (hgT : ∀ p, fi ≤ p → p + 1 < en → ((lsJ P (pl + 1) (xs.length, 0, (tx_rows kd (tx_sc T n 0 0 0 []).2).length, gg)).getD p d4).2.2.1 = eRw ((fun e => (Es ++ [(kd, nI xs.length, (0 : Int32), (tx_sc T n 0 0 0 []).1, (tx_sc T n 0 0 0 []).2)]).getD e dE) ((lsJ P (pl + 1) (xs.length, 0, (tx_rows kd (tx_sc T n 0 0 0 []).2).length, gg)).getD p d4).1)) (hM1 : 1 ≤ M) (hB9 : Bl ≤ 30000) (eBl : Bl = glx M 0 (gl_S (fun e => (Es ++ [(kd, nI xs.length, (0 : Int32), (tx_sc T n 0 0 0 []).1, (tx_sc T n 0 0 0 []).2)]).getD e dE) (lsJ P (pl + 1) (xs.length, 0, (tx_rows kd (tx_sc T n 0 0 0 []).2).length, gg)) fi en mo)) (hj : j < xs.length) (hst : (Es.getD j dE).2.2.1 = 0) (hwd : tx_wd T n n 0) (hpl : pl < pa.length) (hplj : (P.getD pl d4).1 = j) (hlst : ∀ t, pl < t → t < pa.length → ¬ (P.getD t d4).1 = j) (hgg0 : (P.getD pl d4).2.2.2 = gg) (hB : 100 ≤ B) (hB2 : B ≤ 60000) (hSN : SN ≤ 10000) (hcs : cs ≤ B) (hcp : cp ≤ B) (hcap : cap ≤ B) (hBs2 : 3 * SN ≤ 2 * B) (hsn : pa.length + sa.length ≤ SN) (hpSN : pa.length + 1 ≤ SN) (hnd0 : (pa ++ sa).Nodup) : eI l D yX9_insert cX9_insert 7 (some .int) 11 327 (8 + 3 * (Bl - M) + B / 5) (1500 + 6 * (Bl - M) + 8 * B) [.ref dk, .int (nI j), .int kd] z cB cI_ cO L0 g0 (fun r L g => ∃ (ra2 fa2 la2 : Nat) (k0 k1 k2 : Nat → Int32) (w7 w8 w9 u1 u2 u3 u4 u5 u6 : Int32) (p2 s2 : List Nat) (c2 cp2 : Nat), fr [2, 5, 6, 9, 10, 11, 12, 14, 15, 16, 17, 18, 20, 25, 26, 27, 28] L0 g0 L g ∧ (p2 ++ s2).Nodup ∧ (p2.length + s2.length ≤ SN ∧ c2 ≤ B ∧ cp2 ≤ B ∧ 1 ≤ Bl) ∧ ho L g gl 25 (.inr (3, [.ref pr, .ref lf, .ref ra2, .ref fa2, .ref la2, .int (nI ((gl_S (fun e => (Es ++ [(kd, nI xs.length, (0 : Int32), (tx_sc T n 0 0 0 []).1, (tx_sc T n 0 0 0 []).2)]).getD e dE) (lsJ P (pl + 1) (xs.length, 0, (tx_rows kd (tx_sc T n 0 0 0 []).2).length, gg)) fi en mo).length)), .int (nI en), .int w7, .int w8, .int w9])) ∧ ho L g lf 20 (.inr (4, [.ref pr, .int u1, .int u2, .int u3, .int u4, .int u5, .int u6])) ∧ ho L g ra2 26 (.inl (cI_, Bl, .inl k0)) ∧ ho L g fa2 27 (.inl (cI_, Bl, .inl k1)) ∧ ho L g la2 28 (.inl (cI_, Bl, .inl k2)) ∧ alR cO (z 0) 14 15 L g pcs cp2 p2 ∧ alR cO (z 0) 16 17 L g spr c2 s2 ∧ spR L g s2 ∧ ((27 < (gl_S (fun e => (Es ++ [(kd, nI xs.length, (0 : Int32), (tx_sc T n 0 0 0 []).1, (tx_sc T n 0 0 0 []).2)]).getD e dE) (lsJ P (pl + 1) (xs.length, 0, (tx_rows kd (tx_sc T n 0 0 0 []).2).length, gg)) fi en mo).length ∧ r = (-4) ∧ pcR L g (fun e => xs.getD e 0) p2 P ∧ alR cO (z 0) 5 6 L g els cap xs ∧ elsR cB cI_ L g xs Es ∧ ho L g tp 2 (.inr (9, [.ref by_, .int (nI n)])) ∧ ho L g by_ 3 (.inl (cB, 1200, .inl T))) ∨ ((gl_S (fun e => (Es ++ [(kd, nI xs.length, (0 : Int32), (tx_sc T n 0 0 0 []).1, (tx_sc T n 0 0 0 []).2)]).getD e dE) (lsJ P (pl + 1) (xs.length, 0, (tx_rows kd (tx_sc T n 0 0 0 []).2).length, gg)) fi en mo).length ≤ 27 ∧ r = nI xs.length ∧ ∃ (q_el cap2 : Nat), cap2 ≤ B ∧ pcR L g (fun e => (xs ++ [q_el]).getD e 0) p2 (lsJ P (pl + 1) (xs.length, 0, (tx_rows kd (tx_sc T n 0 0 0 []).2).length, gg)) ∧ alR cO (z 0) 5 6 L g els cap2 ((xs ++ [q_el])) ∧ elsR cB cI_ L g ((xs ++ [q_el])) ((Es ++ [(kd, nI xs.length, (0 : Int32), (tx_sc T n 0 0 0 []).1, (tx_sc T n 0 0 0 []).2)])) ∧ ho L g tp 2 (.inr (9, [.ref by_, .int (nI 0)])) ∧ ho L g by_ 3 (.inl (cB, 1200, .inl T))))) := by
  refine o_si (by decide) (Nat.le_of_ble_eq_true rfl) ?_
  intro p e s m below meth c A ls hf hr hlocks hin hK hP hD hS hA hZ hN hl
  obtain ⟨hx, hb, hml, hown, hts⟩ := id hf
  have hl : lv_has ls 7 [(0, .ref dk), (1, .int (nI j)), (2, .int kd)] := hl
  have h_es0 := h_es
  have hpa : pa.length ≤ 20000 := by omega
  have hxl : xs.length ≤ 60 := Nat.le_of_lt hxl
  have hfr : fr [2, 5, 6, 9, 10, 11, 12, 14, 15, 16, 17, 18, 20, 25, 26, 27, 28] L0 g0 L0 g0 := fr.rf
  have hfa : fra [] L0 g0 L0 g0 := fra.rf
  refine lv_aload_n hx hb dX9_insert_0 rfl (lv_at hl 0 rfl) ?_
  refine lv_iload_n hx hb dX9_insert_1 rfl (lv_at hl 1 rfl) ?_
  refine o_cis (k := 0) (n := 0) hK hP hD hS hA (o_rV (As := [.int (nI j)]) (rest := []) hf (d_isE1 _ _ _ _ _ _ _ _ dk tp rd els reo nob pr bk gl sl mo 1 (nI gs) cap xs Es j h_dk h_els h_es hxl (by omega) _) k_736 k_733 k_735 k_22 k_84 (nA := 1) (by decide +kernel) ⟨Nat.le_of_ble_eq_true rfl, Nat.le_of_ble_eq_true rfl⟩ hK hP hD hS hA hZ hN h_dk rfl rfl rfl hl.1 rfl (Nat.le_of_ble_eq_true rfl) dX9_insert_2 ⟨(show 0 + 0 ≤ 8 + 3 * (Bl - M) + B / 5 by omega), (show 0 + 0 ≤ 1500 + 6 * (Bl - M) + 8 * B by omega)⟩) (Nat.le_refl _) (Nat.le_refl _) (fun r H locs hw hP hD hS => ?_)
  obtain rfl := hw
  refine lv_if_eq (tgt := 18) hx hb dX9_insert_5 (by decide) (fun hno => absurd hno (by decide)) (fun _ => ?_)
  refine lv_iload_n hx hb dX9_insert_8 rfl (lv_at hl 2 rfl) ?_
  refine lv_if_lt (tgt := 18) hx hb dX9_insert_9 (by decide) (fun c_1 => ?_) (fun c_1 => ?_)
  · exact False.elim (kd6_in hk6 (Or.inl c_1))
  · refine lv_iload_n hx hb dX9_insert_12 rfl (lv_at hl 2 rfl) ?_
    refine lv_bipush (v := 6) hx hb dX9_insert_13 (by decide) ?_
    refine lv_icmp_lt (tgt := 21) hx hb dX9_insert_15 (by decide) (fun c_2 => ?_) (fun c_2 => ?_)
    · refine lv_aload_n hx hb dX9_insert_21 rfl (lv_at hl 0 rfl) ?_
      refine lv_iload_n hx hb dX9_insert_22 rfl (lv_at hl 1 rfl) ?_
      refine o_crs (k := 0) (n := 0) hK hP hD hS hA (o_rV (As := [.int (nI j)]) (rest := []) hf (d_elAt _ _ _ _ _ _ _ _ dk tp rd els reo nob pr bk gl sl mo 1 (nI gs) cap xs Es j h_dk h_els h_es hxl (by omega) _) k_740 k_737 k_739 k_23 k_84 (nA := 1) (by decide +kernel) ⟨Nat.le_of_ble_eq_true rfl, Nat.le_of_ble_eq_true rfl⟩ hK hP hD hS hA hZ hN h_dk rfl rfl rfl hl.1 rfl (Nat.le_of_ble_eq_true rfl) dX9_insert_23 ⟨(show 0 + 0 ≤ 8 + 3 * (Bl - M) + B / 5 by omega), (show 0 + 0 ≤ 1500 + 6 * (Bl - M) + 8 * B by omega)⟩) (Nat.le_refl _) (Nat.le_refl _) (fun r H locs hw hP hD hS => ?_)
      obtain rfl := hw
      obtain ⟨⟨txg3, rfg3, rtg3, h_eg3⟩, hr_g3⟩ := h_es.o2 (show j < xs.length by omega)
      refine lv_astore_n (lv' := [(3, .ref (xs.getD j 0)), (0, .ref dk), (1, .int (nI j)), (2, .int kd)]) hx hb dX9_insert_26 rfl hl (by decide) rfl (fun ls hl => ?_)
      refine lv_aload_n hx hb dX9_insert_27 rfl (lv_at hl 1 rfl) ?_
      refine o_get (D := D) (ci := 10) (v := .int 1) (C := RX9) (T := TX9) (N := 12) hx hb hts inX9 hown hK hP h_dk rfl 10 (by decide) (hts _ k_439) (fun _ h9 => h9) rfl dX9_insert_28 ?_
      refine lv_if_eq (tgt := 51) hx hb dX9_insert_31 (by decide) (fun hno => absurd hno (by decide)) (fun _ => ?_)
      refine lv_aload_n hx hb dX9_insert_34 rfl (lv_at hl 0 rfl) ?_
      refine o_get (D := D) (ci := 2) (v := .int ((Es.getD j dE).2.2.1)) (C := RX1) (T := TX1) (N := 9) hx hb hts inX1 hown hK hP h_eg3 rfl 2 (by decide) (hts _ k_235) (fun _ h9 => h9) rfl dX9_insert_35 ?_
      refine lv_if_ne (tgt := 51) hx hb dX9_insert_38 (by decide) (fun c_4 => ?_) (fun c_4 => ?_)
      · exact absurd hst c_4
      · refine lv_aload_n hx hb dX9_insert_41 rfl (lv_at hl 1 rfl) ?_
        refine o_get (D := D) (ci := 10) (v := .ref tp) (C := RX9) (T := TX9) (N := 12) hx hb hts inX9 hown hK hP h_dk rfl 0 (by decide) (hts _ k_429) (fun _ h9 => h9) rfl dX9_insert_42 ?_
        refine o_cis (k := 0) (n := 0) hK hP hD hS hA (o_rV (As := []) (rest := []) hf (t_hasWord _ _ _ _ _ _ _ _ tp by_ n T h_tp h_by hn _) k_939 k_936 k_937 k_938 k_85 (nA := 0) (by decide +kernel) ⟨Nat.le_of_ble_eq_true rfl, Nat.le_of_ble_eq_true rfl⟩ hK hP hD hS hA hZ hN h_tp rfl rfl rfl hl.1 rfl (Nat.le_of_ble_eq_true rfl) dX9_insert_45 ⟨(show 0 + 0 ≤ 8 + 3 * (Bl - M) + B / 5 by omega), (show 0 + 0 ≤ 1500 + 6 * (Bl - M) + 8 * B by omega)⟩) (Nat.le_refl _) (Nat.le_refl _) (fun r H locs hw hP hD hS => ?_)
        rcases hw with ⟨c_5, rfl⟩ | ⟨c_5, rfl⟩
        · have hP := hP
          refine lv_if_ne (tgt := 54) hx hb dX9_insert_48 (by decide) (fun _ => ?_) (fun hno => absurd hno (by decide))
          refine lv_aload_n hx hb dX9_insert_54 rfl (lv_at hl 1 rfl) ?_
          refine o_get (D := D) (ci := 10) (v := .ref els) (C := RX9) (T := TX9) (N := 12) hx hb hts inX9 hown hK hP h_dk rfl 2 (by decide) (hts _ k_431) (fun _ h9 => h9) rfl dX9_insert_55 ?_
          obtain ⟨mc9, d9, h_al9⟩ := h_els.al
          refine o_cis (k := 0) (n := 0) hK hP hD hS hA (o_rV (As := []) (rest := []) hf (li_size _ _ _ _ _ _ _ _ els 5 6 cap xs h_els _) k_606 k_686 k_604 k_605 k_89 (nA := 0) (by decide +kernel) ⟨Nat.le_of_ble_eq_true rfl, Nat.le_of_ble_eq_true rfl⟩ hK hP hD hS hA hZ hN h_al9 rfl rfl rfl hl.1 rfl (Nat.le_of_ble_eq_true rfl) dX9_insert_58 ⟨(show 0 + 0 ≤ 8 + 3 * (Bl - M) + B / 5 by omega), (show 0 + 0 ≤ 1500 + 6 * (Bl - M) + 8 * B by omega)⟩) (Nat.le_refl _) (Nat.le_refl _) (fun r H locs hw hP hD hS => ?_)
          obtain rfl := hw
          refine lv_bipush (v := 60) hx hb dX9_insert_61 (by decide) ?_
          refine lv_icmp_lt (tgt := 69) hx hb dX9_insert_63 (by decide) (fun c_6 => ?_) (fun c_6 => ?_)
          · have c_6 := q_lt (a := xs.length) (b := 60) (by omega) (by omega) c_6
            refine o_new (ci := 2) (fs := [.int 0, .int 0, .int 0, .null, .int 0, .int 0, .null, .null, .int 0]) (C := RX1) (T := TX1) (N := 9) hx hb 9 hts inX1 tyX1 tyX1_ok hown (hts _ k_180) (hts _ k_181) (hts _ k_90) hK hP hD hS hA rfl dfX1 (show 0 + 1 ≤ 8 + 3 * (Bl - M) + B / 5 by omega) (show 0 + 9 ≤ 1500 + 6 * (Bl - M) + 8 * B by omega) dX9_insert_69 (fun q_el L g H h_el hnw hP hD hS => ?_)
            have h_dk := h_dk.nw hnw
            have h_tp := h_tp.nw hnw
            have h_by := h_by.nw hnw
            have h_pr := h_pr.nw hnw
            have h_nwh := h_nwh.nw hnw
            have h_gl := h_gl.nw hnw
            have h_lf := h_lf.nw hnw
            have h_ra := h_ra.nw hnw
            have h_fa := h_fa.nw hnw
            have h_la := h_la.nw hnw
            have h_eg3 := h_eg3.nw hnw
            have hfr := hfr.nw hnw
            have hq_q_el := hfa.nin hnw
            have hfa := hfa.nw hnw
            have h_pcs := h_pcs.frd hnw.fr (by decide)
            have h_spr := h_spr.frd hnw.fr (by decide)
            have h_pc := h_pc.frd hnw.fr (by decide)
            have h_sp := h_sp.frd hnw.fr (by decide)
            have h_els := h_els.frd hnw.fr (by decide)
            have h_es := h_es.frd hnw.fr (by decide)
            have hxq := h_es0.nin hnw.1
            refine lv_dup hx hb dX9_insert_72 rfl ?_
            refine lv_aload_n hx hb dX9_insert_73 rfl (lv_at hl 1 rfl) ?_
            refine o_get (D := D) (ci := 10) (v := .ref els) (C := RX9) (T := TX9) (N := 12) hx hb hts inX9 hown hK hP h_dk rfl 2 (by decide) (hts _ k_431) (fun _ h9 => h9) rfl dX9_insert_74 ?_
            obtain ⟨mc9, d9, h_al9⟩ := h_els.al
            refine o_cis (k := 0 + 1) (n := 0 + 9) hK hP hD hS hA (o_rV (As := []) (rest := [.ref q_el, .ref q_el]) hf (li_size _ _ _ _ _ _ _ _ els 5 6 cap xs h_els _) k_606 k_686 k_604 k_605 k_89 (nA := 0) (by decide +kernel) ⟨Nat.le_of_ble_eq_true rfl, Nat.le_of_ble_eq_true rfl⟩ hK hP hD hS hA hZ hN h_al9 rfl rfl rfl hl.1 rfl (Nat.le_of_ble_eq_true rfl) dX9_insert_77 ⟨(show 0 + 1 + 0 ≤ 8 + 3 * (Bl - M) + B / 5 by omega), (show 0 + 9 + 0 ≤ 1500 + 6 * (Bl - M) + 8 * B by omega)⟩) (Nat.le_refl _) (Nat.le_refl _) (fun r H locs hw hP hD hS => ?_)
            obtain rfl := hw
            refine lv_iload_n hx hb dX9_insert_80 rfl (lv_at hl 3 rfl) ?_
            refine lv_aload_n hx hb dX9_insert_81 rfl (lv_at hl 1 rfl) ?_
            refine o_get (D := D) (ci := 10) (v := .ref tp) (C := RX9) (T := TX9) (N := 12) hx hb hts inX9 hown hK hP h_dk rfl 0 (by decide) (hts _ k_429) (fun _ h9 => h9) rfl dX9_insert_82 ?_
            refine lv_iconst (v := 0) hx hb dX9_insert_85 (by decide) ?_
            refine lv_aload_n hx hb dX9_insert_86 rfl (lv_at hl 1 rfl) ?_
            refine o_get (D := D) (ci := 10) (v := .ref tp) (C := RX9) (T := TX9) (N := 12) hx hb hts inX9 hown hK hP h_dk rfl 0 (by decide) (hts _ k_429) (fun _ h9 => h9) rfl dX9_insert_87 ?_
            refine o_cis (k := 0 + 1) (n := 0 + 9) hK hP hD hS hA (o_rV (As := []) (rest := [.int 0, .ref tp, .int kd, .int (nI (xs.length)), .ref q_el, .ref q_el]) hf (t_used _ _ _ _ _ _ _ _ tp by_ n T h_tp _) k_481 k_478 k_479 k_480 k_85 (nA := 0) (by decide +kernel) ⟨Nat.le_of_ble_eq_true rfl, Nat.le_of_ble_eq_true rfl⟩ hK hP hD hS hA hZ hN h_tp rfl rfl rfl hl.1 rfl (Nat.le_of_ble_eq_true rfl) dX9_insert_90 ⟨(show 0 + 1 + 0 ≤ 8 + 3 * (Bl - M) + B / 5 by omega), (show 0 + 9 + 0 ≤ 1500 + 6 * (Bl - M) + 8 * B by omega)⟩) (Nat.le_refl _) (Nat.le_refl _) (fun r H locs hw hP hD hS => ?_)
            obtain rfl := hw
            refine o_cv (k := 0 + 1 + 3) (n := 0 + 9 + ((n - 0) + (4 * ((n - 0) / 20) + 2))) hK hP hD hS hA (o_rI (As := [.int (nI (xs.length)), .int kd, .ref tp, .int 0, .int (nI n)]) (rest := [.ref q_el]) hf (l_init _ _ _ _ _ _ _ _ q_el tp by_ n 0 n kd (nI (xs.length)) T h_el h_tp h_by hn (by omega) (by omega) hTb hk6 _) k_184 k_182 k_183 k_90 rfl (nA := 5) (by decide +kernel) ⟨Nat.le_of_ble_eq_true rfl, Nat.le_of_ble_eq_true rfl⟩ hK hP hD hS hA hZ hN rfl hl.1 rfl (Nat.le_of_ble_eq_true rfl) dX9_insert_93 ⟨(show 0 + 1 + 3 ≤ 8 + 3 * (Bl - M) + B / 5 by omega), (show 0 + 9 + ((n - 0) + (4 * ((n - 0) / 20) + 2)) ≤ 1500 + 6 * (Bl - M) + 8 * B by omega)⟩) (by omega) (by omega) (fun L g H locs hw hP hD hS => ?_)
            obtain ⟨w2, X2, eX, hf9, hfa9, h_ne⟩ := hw
            have h_dk := h_dk.fr hf9 (by decide)
            have h_tp := h_tp.fr hf9 (by decide)
            have h_by := h_by.fr hf9 (by decide)
            have h_pr := h_pr.fr hf9 (by decide)
            have h_nwh := h_nwh.fr hf9 (by decide)
            have h_gl := h_gl.fr hf9 (by decide)
            have h_lf := h_lf.fr hf9 (by decide)
            have h_ra := h_ra.fr hf9 (by decide)
            have h_fa := h_fa.fr hf9 (by decide)
            have h_la := h_la.fr hf9 (by decide)
            have hfr := hfr.tm hf9 (by decide)
            have h_pcs := h_pcs.frd hf9 (by decide)
            have h_spr := h_spr.frd hf9 (by decide)
            have h_pc := h_pc.frd hf9 (by decide)
            have h_sp := h_sp.frd hf9 (by decide)
            have h_els := h_els.frd hf9 (by decide)
            have hfa := hfa.tm hfa9 (fal_s (Or.inr hq_q_el) fal_0)
            have h_es := h_es0.fa0 hfa
            have ew : w2 = (tx_sc T n 0 0 0 []).1 := congrArg Prod.fst eX
            have ex2 : X2 = (tx_sc T n 0 0 0 []).2 := congrArg Prod.snd eX
            subst ew
            subst ex2
            have h_es := h_es.add (E := (kd, nI xs.length, (0 : Int32), (tx_sc T n 0 0 0 []).1, (tx_sc T n 0 0 0 []).2)) hxq h_ne
            obtain ⟨tx9, rf9, rt9, N9, M9, tf9, f19, f29, h_el, hel9⟩ := id h_ne
            have hrw9 : (tx_rows kd (tx_sc T n 0 0 0 []).2).length ≤ 200 := by have := hel9.2.2.2.2.2.1; omega
            have hl2 : (xs ++ [q_el]).length = xs.length + 1 := by rw [List.length_append]; rfl
            have hpl0 := h_pc.1
            have hea : ∀ e, e < xs.length → (xs ++ [q_el]).getD e 0 = xs.getD e 0 := fun e he => getD_app he
            have h_pc := h_pc.ea (eb := (fun e => (xs ++ [q_el]).getD e 0)) (fun i hi => (hea _ (hQ i hi).1).symm)
            refine lv_astore (lv' := [(4, .ref q_el), (3, .ref (xs.getD j 0)), (0, .ref dk), (1, .int (nI j)), (2, .int kd)]) hx hb dX9_insert_96 hl (by decide) rfl (fun ls hl => ?_)
            refine lv_aload_n hx hb dX9_insert_98 rfl (lv_at hl 2 rfl) ?_
            refine o_get (D := D) (ci := 10) (v := .ref pr) (C := RX9) (T := TX9) (N := 12) hx hb hts inX9 hown hK hP h_dk rfl 5 (by decide) (hts _ k_434) (fun _ h9 => h9) rfl dX9_insert_99 ?_
            refine lv_aload_n hx hb dX9_insert_102 rfl (lv_at hl 1 rfl) ?_
            refine o_cis (k := 0 + 1 + 3) (n := 0 + 9 + ((n - 0) + (4 * ((n - 0) / 20) + 2))) hK hP hD hS hA (o_rV (As := [.ref (xs.getD j 0)]) (rest := []) hf (p_last2 _ _ _ _ _ _ _ _ pr pcs spr nwh cp pa (fun e => (xs ++ [q_el]).getD e 0) P (xs.getD j 0) pl h_pr h_pcs h_pc hpa hpl (by show (xs ++ [q_el]).getD (P.getD pl d4).1 0 = _; rw [hplj]; exact hea j hj) (fun t h9 h8 h7 => hlst t h9 h8 (nd_inj h_es.2.1 (by have := (hQ t (by omega)).1; omega) (by omega) (h7.trans (hea j hj).symm))) _) k_944 k_941 k_942 k_943 k_92 (nA := 1) (by decide +kernel) ⟨Nat.le_of_ble_eq_true rfl, Nat.le_of_ble_eq_true rfl⟩ hK hP hD hS hA hZ hN h_pr rfl rfl rfl hl.1 rfl (Nat.le_of_ble_eq_true rfl) dX9_insert_103 ⟨(show 0 + 1 + 3 + 0 ≤ 8 + 3 * (Bl - M) + B / 5 by omega), (show 0 + 9 + ((n - 0) + (4 * ((n - 0) / 20) + 2)) + 0 ≤ 1500 + 6 * (Bl - M) + 8 * B by omega)⟩) (Nat.le_refl _) (Nat.le_refl _) (fun r H locs hw hP hD hS => ?_)
            obtain rfl := hw
            refine lv_istore (lv' := [(5, .int (nI pl)), (4, .ref q_el), (3, .ref (xs.getD j 0)), (0, .ref dk), (1, .int (nI j)), (2, .int kd)]) hx hb dX9_insert_106 hl (by decide) rfl (fun ls hl => ?_)
            refine lv_aload_n hx hb dX9_insert_108 rfl (lv_at hl 3 rfl) ?_
            refine o_get (D := D) (ci := 10) (v := .ref pr) (C := RX9) (T := TX9) (N := 12) hx hb hts inX9 hown hK hP h_dk rfl 5 (by decide) (hts _ k_434) (fun _ h9 => h9) rfl dX9_insert_109 ?_
            refine lv_iload hx hb dX9_insert_112 (lv_at hl 0 rfl) ?_
            refine o_crs (k := 0 + 1 + 3) (n := 0 + 9 + ((n - 0) + (4 * ((n - 0) / 20) + 2))) hK hP hD hS hA (o_rV (As := [.int (nI pl)]) (rest := []) hf (p_atI _ _ _ _ _ _ _ _ pr pcs spr nwh cp pa (fun e => (xs ++ [q_el]).getD e 0) P pl h_pr h_pcs h_pc hpa hpl _) k_775 k_945 k_773 k_774 k_92 (nA := 1) (by decide +kernel) ⟨Nat.le_of_ble_eq_true rfl, Nat.le_of_ble_eq_true rfl⟩ hK hP hD hS hA hZ hN h_pr rfl rfl rfl hl.1 rfl (Nat.le_of_ble_eq_true rfl) dX9_insert_114 ⟨(show 0 + 1 + 3 + 0 ≤ 8 + 3 * (Bl - M) + B / 5 by omega), (show 0 + 9 + ((n - 0) + (4 * ((n - 0) / 20) + 2)) + 0 ≤ 1500 + 6 * (Bl - M) + 8 * B by omega)⟩) (Nat.le_refl _) (Nat.le_refl _) (fun r H locs hw hP hD hS => ?_)
            obtain rfl := hw
            have h_pp := h_pc.2 pl hpl
            rw [hgg0] at h_pp
            refine o_get (D := D) (ci := 6) (v := .int (nI gg)) (C := RX5) (T := TX5) (N := 4) hx hb hts inX5 hown hK hP h_pp rfl 3 (by decide) (hts _ k_294) (fun _ h9 => h9) rfl dX9_insert_117 ?_
            refine lv_istore (lv' := [(6, .int (nI gg)), (5, .int (nI pl)), (4, .ref q_el), (3, .ref (xs.getD j 0)), (0, .ref dk), (1, .int (nI j)), (2, .int kd)]) hx hb dX9_insert_120 hl (by decide) rfl (fun ls hl => ?_)
            have hab := h_pcs.b
            have hnb := ncap_b hab.1 hab.2.2
            have hpw := pnew_c sa
            have hg1_ := gcel_1 pa.length cp
            have hg2_ := gcel_1 xs.length cap
            have hab2 := h_els.b
            have hnb2 := ncap_b hab2.1 hab2.2.2
            refine lv_aload_n hx hb dX9_insert_122 rfl (lv_at hl 4 rfl) ?_
            refine o_get (D := D) (ci := 10) (v := .ref pr) (C := RX9) (T := TX9) (N := 12) hx hb hts inX9 hown hK hP h_dk rfl 5 (by decide) (hts _ k_434) (fun _ h9 => h9) rfl dX9_insert_123 ?_
            refine lv_iload hx hb dX9_insert_126 (lv_at hl 1 rfl) ?_
            refine lv_iconst (v := 1) hx hb dX9_insert_128 (by decide) ?_
            refine lv_iadd hx hb dX9_insert_129 ?_
            refine q_seti (y := nI (pl + 1)) (nI_addE (a := pl) (b := 1) (by omega)) ?_
            refine lv_aload hx hb dX9_insert_130 (lv_at hl 2 rfl) ?_
            refine lv_iconst (v := 0) hx hb dX9_insert_132 (by decide) ?_
            refine lv_aload hx hb dX9_insert_133 (lv_at hl 2 rfl) ?_
            refine o_cis (k := 0 + 1 + 3) (n := 0 + 9 + ((n - 0) + (4 * ((n - 0) / 20) + 2))) hK hP hD hS hA (o_rV (As := []) (rest := [.int 0, .ref q_el, .int (nI (pl + 1)), .ref pr]) hf (l_rows _ _ _ _ _ _ _ _ q_el kd (nI (xs.length)) 0 tx9 ((tx_sc T n 0 0 0 []).2.length) ((tx_sc T n 0 0 0 []).1) rf9 rt9 ((tx_rows kd (tx_sc T n 0 0 0 []).2).length) h_el _) k_695 k_692 k_693 k_694 k_90 (nA := 0) (by decide +kernel) ⟨Nat.le_of_ble_eq_true rfl, Nat.le_of_ble_eq_true rfl⟩ hK hP hD hS hA hZ hN h_el rfl rfl rfl hl.1 rfl (Nat.le_of_ble_eq_true rfl) dX9_insert_135 ⟨(show 0 + 1 + 3 + 0 ≤ 8 + 3 * (Bl - M) + B / 5 by omega), (show 0 + 9 + ((n - 0) + (4 * ((n - 0) / 20) + 2)) + 0 ≤ 1500 + 6 * (Bl - M) + 8 * B by omega)⟩) (Nat.le_refl _) (Nat.le_refl _) (fun r H locs hw hP hD hS => ?_)
            obtain rfl := hw
            refine lv_iload hx hb dX9_insert_138 (lv_at hl 0 rfl) ?_
            refine o_cv (k := 0 + 1 + 3 + (pnew sa + gcel pa.length cp)) (n := 0 + 9 + ((n - 0) + (4 * ((n - 0) / 20) + 2)) + (4 * pnew sa + gslo pa.length cp)) hK hP hD hS hA (o_rV (As := [.int (nI (pl + 1)), .ref q_el, .int 0, .int (nI ((tx_rows kd (tx_sc T n 0 0 0 []).2).length)), .int (nI gg)]) (rest := []) hf (p_put2 _ _ _ _ _ _ _ _ pr pcs spr nwh cp cs pa sa (fun e => (xs ++ [q_el]).getD e 0) P (pl + 1) xs.length 0 (tx_rows kd (tx_sc T n 0 0 0 []).2).length gg q_el h_pr h_pcs h_spr h_pc h_sp hpa (by omega) hnd0 (by omega) (by omega) getD_lst _) k_699 k_696 k_697 k_698 k_92 (nA := 5) (by decide +kernel) ⟨Nat.le_of_ble_eq_true rfl, Nat.le_of_ble_eq_true rfl⟩ hK hP hD hS hA hZ hN h_pr rfl rfl rfl hl.1 rfl (Nat.le_of_ble_eq_true rfl) dX9_insert_140 ⟨(show 0 + 1 + 3 + (pnew sa + gcel pa.length cp) ≤ 8 + 3 * (Bl - M) + B / 5 by omega), (show 0 + 9 + ((n - 0) + (4 * ((n - 0) / 20) + 2)) + (4 * pnew sa + gslo pa.length cp) ≤ 1500 + 6 * (Bl - M) + 8 * B by omega)⟩) (by omega) (by omega) (fun L g H locs hw hP hD hS => ?_)
            obtain ⟨x9, s9, hf9, h_pcs, h_spr, h_pc, h_sp, hnd9, hln9⟩ := hw
            have h_dk := h_dk.fr hf9 (by decide)
            have h_tp := h_tp.fr hf9 (by decide)
            have h_by := h_by.fr hf9 (by decide)
            have h_pr := h_pr.fr hf9 (by decide)
            have h_nwh := h_nwh.fr hf9 (by decide)
            have h_gl := h_gl.fr hf9 (by decide)
            have h_lf := h_lf.fr hf9 (by decide)
            have h_ra := h_ra.fr hf9 (by decide)
            have h_fa := h_fa.fr hf9 (by decide)
            have h_la := h_la.fr hf9 (by decide)
            have h_el := h_el.fr hf9 (by decide)
            have hfr := hfr.tm hf9 (by decide)
            have h_els := h_els.frd hf9 (by decide)
            have h_es := h_es.frd hf9 (by decide)
            have hIl := lsI_len (xs := pa) (x := x9) (show pl + 1 ≤ pa.length by omega)
            have hQ3 : pq_ok (xs ++ [q_el]).length (fun e => (Es ++ [(kd, nI xs.length, (0 : Int32), (tx_sc T n 0 0 0 []).1, (tx_sc T n 0 0 0 []).2)]).getD e dE) (lsJ P (pl + 1) (xs.length, 0, (tx_rows kd (tx_sc T n 0 0 0 []).2).length, gg)) := by rw [hl2]; exact hQ2
            refine lv_aload_n hx hb dX9_insert_143 rfl (lv_at hl 4 rfl) ?_
            refine o_get (D := D) (ci := 10) (v := .ref gl) (C := RX9) (T := TX9) (N := 12) hx hb hts inX9 hown hK hP h_dk rfl 7 (by decide) (hts _ k_436) (fun _ h9 => h9) rfl dX9_insert_144 ?_
            refine lv_iload hx hb dX9_insert_147 (lv_at hl 0 rfl) ?_
            refine lv_aload_n hx hb dX9_insert_149 rfl (lv_at hl 4 rfl) ?_
            refine o_get (D := D) (ci := 10) (v := .int (nI mo)) (C := RX9) (T := TX9) (N := 12) hx hb hts inX9 hown hK hP h_dk rfl 9 (by decide) (hts _ k_438) (fun _ h9 => h9) rfl dX9_insert_150 ?_
            refine o_cv (k := 0 + 1 + 3 + (pnew sa + gcel pa.length cp) + (3 * (Bl - M))) (n := 0 + 9 + ((n - 0) + (4 * ((n - 0) / 20) + 2)) + (4 * pnew sa + gslo pa.length cp) + (6 * (Bl - M))) hK hP hD hS hA (o_rV (As := [.int (nI gg), .int (nI mo)]) (rest := []) hf (gl_lay _ _ _ _ _ _ _ _ pr pcs spr nwh (ncap pa.length cp) (lsI pa (pl + 1) x9) (fun e => (xs ++ [q_el]).getD e 0) (lsJ P (pl + 1) (xs.length, 0, (tx_rows kd (tx_sc T n 0 0 0 []).2).length, gg)) (xs ++ [q_el]).length (fun e => (Es ++ [(kd, nI xs.length, (0 : Int32), (tx_sc T n 0 0 0 []).1, (tx_sc T n 0 0 0 []).2)]).getD e dE) nb gl lf ra fa la v5 v6 v7 v8 v9 x1 x2 x3 x4 x5 x6 M f0 f1 f2 mo gg fi en Bl h_pr h_pcs h_pc h_es.2.2 h_nwh h_gl h_lf h_ra h_fa h_la (by omega) hQ3 (by rw [hIl]; exact hSn2) hmo1 hmo hgg (by rw [hIl]; exact hG2) (by rw [hIl]; exact efi) (by rw [hIl]; exact een) hgF hgT hM1 hB9 eBl _) k_949 k_946 k_947 k_948 k_96 (nA := 2) (by decide +kernel) ⟨Nat.le_of_ble_eq_true rfl, Nat.le_of_ble_eq_true rfl⟩ hK hP hD hS hA hZ hN h_gl rfl rfl rfl hl.1 rfl (Nat.le_of_ble_eq_true rfl) dX9_insert_153 ⟨(show 0 + 1 + 3 + (pnew sa + gcel pa.length cp) + (3 * (Bl - M)) ≤ 8 + 3 * (Bl - M) + B / 5 by omega), (show 0 + 9 + ((n - 0) + (4 * ((n - 0) / 20) + 2)) + (4 * pnew sa + gslo pa.length cp) + (6 * (Bl - M)) ≤ 1500 + 6 * (Bl - M) + 8 * B by omega)⟩) (by omega) (by omega) (fun L g H locs hw hP hD hS => ?_)
            obtain ⟨S2, ra2, fa2, la2, M2, k0, k1, k2, w7, w8, w9, u1, u2, u3, u4, u5, u6, eS, hsh, hM3, hf9, h_gl, h_lf, h_ra, h_fa, h_la⟩ := hw
            have h_dk := h_dk.fr hf9 (by decide)
            have h_tp := h_tp.fr hf9 (by decide)
            have h_by := h_by.fr hf9 (by decide)
            have h_pr := h_pr.fr hf9 (by decide)
            have h_nwh := h_nwh.fr hf9 (by decide)
            have h_el := h_el.fr hf9 (by decide)
            have hfr := hfr.tm hf9 (by decide)
            have h_els := h_els.frd hf9 (by decide)
            have h_es := h_es.frd hf9 (by decide)
            have h_pcs := h_pcs.frd hf9 (by decide)
            have h_spr := h_spr.frd hf9 (by decide)
            have h_pc := h_pc.frd hf9 (by decide)
            have h_sp := h_sp.frd hf9 (by decide)
            refine lv_aload_n hx hb dX9_insert_156 rfl (lv_at hl 4 rfl) ?_
            refine o_get (D := D) (ci := 10) (v := .ref gl) (C := RX9) (T := TX9) (N := 12) hx hb hts inX9 hown hK hP h_dk rfl 7 (by decide) (hts _ k_436) (fun _ h9 => h9) rfl dX9_insert_157 ?_
            refine o_cis (k := 0 + 1 + 3 + (pnew sa + gcel pa.length cp) + (3 * (Bl - M))) (n := 0 + 9 + ((n - 0) + (4 * ((n - 0) / 20) + 2)) + (4 * pnew sa + gslo pa.length cp) + (6 * (Bl - M))) hK hP hD hS hA (o_rV (As := []) (rest := []) hf (gl_sc _ _ _ _ _ _ _ _ pr gl lf ra2 fa2 la2 S2.length (nI en) w7 w8 w9 h_gl _) k_991 k_988 k_989 k_990 k_96 (nA := 0) (by decide +kernel) ⟨Nat.le_of_ble_eq_true rfl, Nat.le_of_ble_eq_true rfl⟩ hK hP hD hS hA hZ hN h_gl rfl rfl rfl hl.1 rfl (Nat.le_of_ble_eq_true rfl) dX9_insert_160 ⟨(show 0 + 1 + 3 + (pnew sa + gcel pa.length cp) + (3 * (Bl - M)) + 0 ≤ 8 + 3 * (Bl - M) + B / 5 by omega), (show 0 + 9 + ((n - 0) + (4 * ((n - 0) / 20) + 2)) + (4 * pnew sa + gslo pa.length cp) + (6 * (Bl - M)) + 0 ≤ 1500 + 6 * (Bl - M) + 8 * B by omega)⟩) (Nat.le_refl _) (Nat.le_refl _) (fun r H locs hw hP hD hS => ?_)
            obtain rfl := hw
            refine lv_bipush (v := 27) hx hb dX9_insert_163 (by decide) ?_
            refine lv_icmp_le (tgt := 180) hx hb dX9_insert_165 (by decide) (fun c_7 => ?_) (fun c_7 => ?_)
            · have c_7 := q_le (a := S2.length) (b := 27) (by omega) (by omega) c_7
              refine lv_aload_n hx hb dX9_insert_180 rfl (lv_at hl 4 rfl) ?_
              refine o_get (D := D) (ci := 10) (v := .ref els) (C := RX9) (T := TX9) (N := 12) hx hb hts inX9 hown hK hP h_dk rfl 2 (by decide) (hts _ k_431) (fun _ h9 => h9) rfl dX9_insert_181 ?_
              refine lv_aload hx hb dX9_insert_184 (lv_at hl 2 rfl) ?_
              obtain ⟨mc9, d9, h_al9⟩ := h_els.al
              refine o_ci (k := 0 + 1 + 3 + (pnew sa + gcel pa.length cp) + (3 * (Bl - M)) + (gcel xs.length cap)) (n := 0 + 9 + ((n - 0) + (4 * ((n - 0) / 20) + 2)) + (4 * pnew sa + gslo pa.length cp) + (6 * (Bl - M)) + (gslo xs.length cap)) hK hP hD hS hA (o_rV (As := [.ref q_el]) (rest := []) hf (li_add _ _ _ _ _ _ _ _ els 5 6 cap xs 9 q_el 2 rxE [.int kd, .int (nI (xs.length)), .int 0, .ref tx9, .int (nI ((tx_sc T n 0 0 0 []).2.length)), .int (nI ((tx_sc T n 0 0 0 []).1)), .ref rf9, .ref rt9, .int (nI ((tx_rows kd (tx_sc T n 0 0 0 []).2).length))] h_els h_el (by decide) (by decide) (by decide) rfl hcaE (fun y9 h9 => h_es.ob y9 (List.mem_append_left _ h9)) (by omega) _) k_611 k_992 k_609 k_610 k_89 (nA := 1) (by decide +kernel) ⟨Nat.le_of_ble_eq_true rfl, Nat.le_of_ble_eq_true rfl⟩ hK hP hD hS hA hZ hN h_al9 rfl rfl rfl hl.1 rfl (Nat.le_of_ble_eq_true rfl) dX9_insert_186 ⟨(show 0 + 1 + 3 + (pnew sa + gcel pa.length cp) + (3 * (Bl - M)) + (gcel xs.length cap) ≤ 8 + 3 * (Bl - M) + B / 5 by omega), (show 0 + 9 + ((n - 0) + (4 * ((n - 0) / 20) + 2)) + (4 * pnew sa + gslo pa.length cp) + (6 * (Bl - M)) + (gslo xs.length cap) ≤ 1500 + 6 * (Bl - M) + 8 * B by omega)⟩) (by omega) (by omega) (fun r L g H locs hw hP hD hS => ?_)
              obtain ⟨rfl, hf9, h_els⟩ := hw
              have h_dk := h_dk.fr hf9 (by decide)
              have h_tp := h_tp.fr hf9 (by decide)
              have h_by := h_by.fr hf9 (by decide)
              have h_pr := h_pr.fr hf9 (by decide)
              have h_nwh := h_nwh.fr hf9 (by decide)
              have h_el := h_el.fr hf9 (by decide)
              have h_gl := h_gl.fr hf9 (by decide)
              have h_lf := h_lf.fr hf9 (by decide)
              have h_ra := h_ra.fr hf9 (by decide)
              have h_fa := h_fa.fr hf9 (by decide)
              have h_la := h_la.fr hf9 (by decide)
              have hfr := hfr.tm hf9 (by decide)
              have h_es := h_es.frd hf9 (by decide)
              have h_pcs := h_pcs.frd hf9 (by decide)
              have h_spr := h_spr.frd hf9 (by decide)
              have h_pc := h_pc.frd hf9 (by decide)
              have h_sp := h_sp.frd hf9 (by decide)
              refine lv_pop hx hb dX9_insert_189 rfl ?_
              refine lv_aload_n hx hb dX9_insert_190 rfl (lv_at hl 4 rfl) ?_
              refine o_get (D := D) (ci := 10) (v := .ref tp) (C := RX9) (T := TX9) (N := 12) hx hb hts inX9 hown hK hP h_dk rfl 0 (by decide) (hts _ k_429) (fun _ h9 => h9) rfl dX9_insert_191 ?_
              refine lv_iconst (v := 0) hx hb dX9_insert_194 (by decide) ?_
              refine o_cv (k := 0 + 1 + 3 + (pnew sa + gcel pa.length cp) + (3 * (Bl - M)) + (gcel xs.length cap)) (n := 0 + 9 + ((n - 0) + (4 * ((n - 0) / 20) + 2)) + (4 * pnew sa + gslo pa.length cp) + (6 * (Bl - M)) + (gslo xs.length cap)) hK hP hD hS hA (o_rV (As := [.int 0]) (rest := []) hf (t_keep _ _ _ _ _ _ _ _ tp by_ n T 0 h_tp hn (by omega) _) k_489 k_486 k_487 k_488 k_85 (nA := 1) (by decide +kernel) ⟨Nat.le_of_ble_eq_true rfl, Nat.le_of_ble_eq_true rfl⟩ hK hP hD hS hA hZ hN h_tp rfl rfl rfl hl.1 rfl (Nat.le_of_ble_eq_true rfl) dX9_insert_195 ⟨(show 0 + 1 + 3 + (pnew sa + gcel pa.length cp) + (3 * (Bl - M)) + (gcel xs.length cap) + 0 ≤ 8 + 3 * (Bl - M) + B / 5 by omega), (show 0 + 9 + ((n - 0) + (4 * ((n - 0) / 20) + 2)) + (4 * pnew sa + gslo pa.length cp) + (6 * (Bl - M)) + (gslo xs.length cap) + 0 ≤ 1500 + 6 * (Bl - M) + 8 * B by omega)⟩) (Nat.le_refl _) (Nat.le_refl _) (fun L g H locs hw hP hD hS => ?_)
              obtain ⟨n1, en1, hf9, h_tp⟩ := hw
              have h_dk := h_dk.fr hf9 (by decide)
              have h_by := h_by.fr hf9 (by decide)
              have h_pr := h_pr.fr hf9 (by decide)
              have h_nwh := h_nwh.fr hf9 (by decide)
              have h_el := h_el.fr hf9 (by decide)
              have h_gl := h_gl.fr hf9 (by decide)
              have h_lf := h_lf.fr hf9 (by decide)
              have h_ra := h_ra.fr hf9 (by decide)
              have h_fa := h_fa.fr hf9 (by decide)
              have h_la := h_la.fr hf9 (by decide)
              have hfr := hfr.tm hf9 (by decide)
              have h_es := h_es.frd hf9 (by decide)
              have h_pcs := h_pcs.frd hf9 (by decide)
              have h_spr := h_spr.frd hf9 (by decide)
              have h_pc := h_pc.frd hf9 (by decide)
              have h_sp := h_sp.frd hf9 (by decide)
              have h_els := h_els.frd hf9 (by decide)
              have en2 : n1 = 0 := by rw [en1]; by_cases h9 : 0 < n; (· rw [if_pos h9]); rw [if_neg h9]; omega
              rw [en2] at h_tp
              refine lv_aload hx hb dX9_insert_198 (lv_at hl 2 rfl) ?_
              refine o_get (D := D) (ci := 2) (v := .int (nI (xs.length))) (C := RX1) (T := TX1) (N := 9) hx hb hts inX1 hown hK hP h_el rfl 1 (by decide) (hts _ k_234) (fun _ h9 => h9) rfl dX9_insert_200 ?_
              have eSl : S2.length = (gl_S (fun e => (Es ++ [(kd, nI xs.length, (0 : Int32), (tx_sc T n 0 0 0 []).1, (tx_sc T n 0 0 0 []).2)]).getD e dE) (lsJ P (pl + 1) (xs.length, 0, (tx_rows kd (tx_sc T n 0 0 0 []).2).length, gg)) fi en mo).length := by rw [eS]
              obtain ⟨hM4, hM5, hM6⟩ := hM3
              rw [hM5] at h_ra h_fa h_la
              rw [eSl] at h_gl
              exact o_ri hf hr rfl hlocks hK hP hD hS (show 0 + 1 + 3 + (pnew sa + gcel pa.length cp) + (3 * (Bl - M)) + (gcel xs.length cap) ≤ 8 + 3 * (Bl - M) + B / 5 by omega) (show 0 + 9 + ((n - 0) + (4 * ((n - 0) / 20) + 2)) + (4 * pnew sa + gslo pa.length cp) + (6 * (Bl - M)) + (gslo xs.length cap) ≤ 1500 + 6 * (Bl - M) + 8 * B by omega) ⟨_, _, _, _, _, _, _, _, _, _, _, _, _, _, _, _, s9, cs, _, hfr, hnd9, ⟨by omega, hcs, by omega, by omega⟩, h_gl, h_lf, h_ra, h_fa, h_la, h_pcs, h_spr, h_sp, Or.inr ⟨by omega, rfl, q_el, _, (by omega), h_pc, h_els, h_es, h_tp, h_by⟩⟩ dX9_insert_203
            · have c_7 := q_nle (a := S2.length) (b := 27) (by omega) (by omega) c_7
              refine lv_aload_n hx hb dX9_insert_168 rfl (lv_at hl 4 rfl) ?_
              refine o_get (D := D) (ci := 10) (v := .ref pr) (C := RX9) (T := TX9) (N := 12) hx hb hts inX9 hown hK hP h_dk rfl 5 (by decide) (hts _ k_434) (fun _ h9 => h9) rfl dX9_insert_169 ?_
              refine lv_aload hx hb dX9_insert_172 (lv_at hl 2 rfl) ?_
              refine o_cv (k := 0 + 1 + 3 + (pnew sa + gcel pa.length cp) + (3 * (Bl - M)) + (B / 5)) (n := 0 + 9 + ((n - 0) + (4 * ((n - 0) / 20) + 2)) + (4 * pnew sa + gslo pa.length cp) + (6 * (Bl - M)) + (4 * B)) hK hP hD hS hA (o_rV (As := [.ref q_el]) (rest := []) hf (p_remove _ _ _ _ _ _ _ _ pr pcs spr nwh (ncap pa.length cp) cs (lsI pa (pl + 1) x9) s9 (fun e => (xs ++ [q_el]).getD e 0) (lsJ P (pl + 1) (xs.length, 0, (tx_rows kd (tx_sc T n 0 0 0 []).2).length, gg)) q_el B h_pr h_pcs h_spr h_pc h_sp (by omega) (by omega) hB2 hcs (by omega) hnd9 _) k_931 k_928 k_929 k_930 k_92 (nA := 1) (by decide +kernel) ⟨Nat.le_of_ble_eq_true rfl, Nat.le_of_ble_eq_true rfl⟩ hK hP hD hS hA hZ hN h_pr rfl rfl rfl hl.1 rfl (Nat.le_of_ble_eq_true rfl) dX9_insert_174 ⟨(show 0 + 1 + 3 + (pnew sa + gcel pa.length cp) + (3 * (Bl - M)) + (B / 5) ≤ 8 + 3 * (Bl - M) + B / 5 by omega), (show 0 + 9 + ((n - 0) + (4 * ((n - 0) / 20) + 2)) + (4 * pnew sa + gslo pa.length cp) + (6 * (Bl - M)) + (4 * B) ≤ 1500 + 6 * (Bl - M) + 8 * B by omega)⟩) (by omega) (by omega) (fun L g H locs hw hP hD hS => ?_)
              obtain ⟨p2, P2, s2, c2, a1, a2, a3, a4, hf9, h_pcs, h_spr, h_pc9, h_sp9⟩ := hw
              have h_dk := h_dk.fr hf9 (by decide)
              have h_tp := h_tp.fr hf9 (by decide)
              have h_by := h_by.fr hf9 (by decide)
              have h_pr := h_pr.fr hf9 (by decide)
              have h_nwh := h_nwh.fr hf9 (by decide)
              have h_el := h_el.fr hf9 (by decide)
              have h_gl := h_gl.fr hf9 (by decide)
              have h_lf := h_lf.fr hf9 (by decide)
              have h_ra := h_ra.fr hf9 (by decide)
              have h_fa := h_fa.fr hf9 (by decide)
              have h_la := h_la.fr hf9 (by decide)
              have hfr := hfr.tm hf9 (by decide)
              have h_els := h_els.frd hf9 (by decide)
              have h_es := h_es.frd hf9 (by decide)
              have h_pc := h_pc.frd hf9 (by decide)
              have h_sp := h_sp.frd hf9 (by decide)
              have hno9 : ∀ t, t < P.length → ¬ (xs ++ [q_el]).getD (P.getD t d4).1 0 = q_el := fun t ht h9 => hxq (by rw [← h9, hea _ (hQ t ht).1]; exact getD_memN (hQ t ht).1)
              rw [hIl, hpl0] at a1
              rw [rmv_ins (ea := (fun e => (xs ++ [q_el]).getD e 0)) (el := q_el) (show pl + 1 ≤ P.length by omega) (show (xs ++ [q_el]).getD xs.length 0 = q_el from getD_lst) hno9 (P.length + 1) (by omega) (Nat.le_refl _)] at a1
              rw [a1] at h_pc9
              have h_pc := h_pc9.ea (eb := (fun e => xs.getD e 0)) (fun i hi => hea _ (hQ i hi).1)
              have h_sp := h_sp9
              have h_es := h_es.ini
              refine lv_bipush (v := (-4)) hx hb dX9_insert_177 (by decide) ?_
              have eSl : S2.length = (gl_S (fun e => (Es ++ [(kd, nI xs.length, (0 : Int32), (tx_sc T n 0 0 0 []).1, (tx_sc T n 0 0 0 []).2)]).getD e dE) (lsJ P (pl + 1) (xs.length, 0, (tx_rows kd (tx_sc T n 0 0 0 []).2).length, gg)) fi en mo).length := by rw [eS]
              obtain ⟨hM4, hM5, hM6⟩ := hM3
              rw [hM5] at h_ra h_fa h_la
              rw [eSl] at h_gl
              exact o_ri hf hr rfl hlocks hK hP hD hS (show 0 + 1 + 3 + (pnew sa + gcel pa.length cp) + (3 * (Bl - M)) + (B / 5) ≤ 8 + 3 * (Bl - M) + B / 5 by omega) (show 0 + 9 + ((n - 0) + (4 * ((n - 0) / 20) + 2)) + (4 * pnew sa + gslo pa.length cp) + (6 * (Bl - M)) + (4 * B) ≤ 1500 + 6 * (Bl - M) + 8 * B by omega) ⟨_, _, _, _, _, _, _, _, _, _, _, _, _, _, _, p2, s2, c2, _, hfr, a2, ⟨by omega, a4, by omega, by omega⟩, h_gl, h_lf, h_ra, h_fa, h_la, h_pcs, h_spr, h_sp, Or.inl ⟨by omega, rfl, h_pc, h_els, h_es, h_tp, h_by⟩⟩ dX9_insert_179
          · have c_6 := q_nlt (a := xs.length) (b := 60) (by omega) (by omega) c_6
            exact False.elim (by omega)
        · have hP := hP
          refine lv_if_ne (tgt := 54) hx hb dX9_insert_48 (by decide) (fun hno => absurd hno (by decide)) (fun _ => ?_)
          exact absurd hwd c_5
    · exact False.elim (kd6_in hk6 (Or.inr c_2))
