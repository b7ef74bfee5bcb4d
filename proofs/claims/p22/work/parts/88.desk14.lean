theorem pg_end {P : List Q4} {n : Nat} {C : Nat → Option Q4} {p r pl : Nat} (hz : ∀ p, p < n → 0 < qT P p - qF P p) (h : pg_at (qF P) (qT P) n C p r) (hl : pl < qS P p + r) : ∃ pe re : Nat, pe < n ∧ re < (P.getD pe d4).2.2.1 - (P.getD pe d4).2.1 ∧ qS P p + r = qS P pe + re + 1 ∧ ((0 < r ∧ pe = p ∧ re + 1 = r) ∨ (r = 0 ∧ pe + 1 = p ∧ re + 1 = (P.getD pe d4).2.2.1 - (P.getD pe d4).2.1)) := by
  by_cases c : r = 0
  · have hp : 0 < p := by
      by_cases c2 : p = 0
      · rw [c, c2] at hl
        have : qS P 0 = 0 := rfl
        omega
      · omega
    have h1 : 0 < (P.getD (p - 1) d4).2.2.1 - (P.getD (p - 1) d4).2.1 := hz (p - 1) (by have := h.1; omega)
    have h2 := qS_s P (p - 1)
    rw [show p - 1 + 1 = p by omega] at h2
    exact ⟨p - 1, (P.getD (p - 1) d4).2.2.1 - (P.getD (p - 1) d4).2.1 - 1, by have := h.1; omega, by omega, by omega, Or.inr ⟨c, by omega, by omega⟩⟩
  · have hp : p < n := by
      have h1 := h.1
      by_cases c2 : p = n
      · exact absurd (h.2.1 c2) c
      · omega
    have h2 : r < (P.getD p d4).2.2.1 - (P.getD p d4).2.1 := (h.2.2 hp).1
    exact ⟨p, r - 1, hp, by omega, by omega, Or.inl ⟨by omega, rfl, by omega⟩⟩
theorem k_875 : (Cond.methodLink RX9 162 yX0_turnTo) ∈ gT := gT_i 875 (by decide +kernel) rfl
theorem k_876 : (Cond.instanceMethod yX0_turnTo) ∈ gT := gT_i 876 (by decide +kernel) rfl
theorem k_877 : (Cond.selects RX0 yX0_turnTo yX0_turnTo) ∈ gT := gT_i 877 (by decide +kernel) rfl
theorem k_878 : (Cond.code yX0_turnTo cX0_turnTo 3 none) ∈ gT := gT_i 878 (by decide +kernel) rfl
theorem k_879 : (Cond.methodLink RX9 165 yX0_rowsOfPage) ∈ gT := gT_i 879 (by decide +kernel) rfl
theorem k_880 : (Cond.instanceMethod yX0_rowsOfPage) ∈ gT := gT_i 880 (by decide +kernel) rfl
theorem k_881 : (Cond.selects RX0 yX0_rowsOfPage yX0_rowsOfPage) ∈ gT := gT_i 881 (by decide +kernel) rfl
theorem k_882 : (Cond.code yX0_rowsOfPage cX0_rowsOfPage 2 (some .int)) ∈ gT := gT_i 882 (by decide +kernel) rfl
theorem k_895 : (Cond.methodLink RX9 168 yX0_firstPiece) ∈ gT := gT_i 895 (by decide +kernel) rfl
theorem k_896 : (Cond.methodLink RX9 171 yX0_firstRow) ∈ gT := gT_i 896 (by decide +kernel) rfl
theorem k_897 : (Cond.methodLink RX9 174 yX0_lastPiece) ∈ gT := gT_i 897 (by decide +kernel) rfl
theorem k_901 : (Cond.methodLink RX9 177 yX0_endRow) ∈ gT := gT_i 901 (by decide +kernel) rfl
theorem k_906 : (Cond.methodLink RX9 180 yX0_beginsWithinSpeech) ∈ gT := gT_i 906 (by decide +kernel) rfl
theorem k_907 : (Cond.instanceMethod yX0_beginsWithinSpeech) ∈ gT := gT_i 907 (by decide +kernel) rfl
theorem k_908 : (Cond.selects RX0 yX0_beginsWithinSpeech yX0_beginsWithinSpeech) ∈ gT := gT_i 908 (by decide +kernel) rfl
theorem k_909 : (Cond.code yX0_beginsWithinSpeech cX0_beginsWithinSpeech 1 (some .boolean)) ∈ gT := gT_i 909 (by decide +kernel) rfl
theorem k_911 : (Cond.methodLink RX9 184 yX0_endsWithinSpeech) ∈ gT := gT_i 911 (by decide +kernel) rfl
theorem k_912 : (Cond.instanceMethod yX0_endsWithinSpeech) ∈ gT := gT_i 912 (by decide +kernel) rfl
theorem k_913 : (Cond.selects RX0 yX0_endsWithinSpeech yX0_endsWithinSpeech) ∈ gT := gT_i 913 (by decide +kernel) rfl
theorem k_914 : (Cond.code yX0_endsWithinSpeech cX0_endsWithinSpeech 1 (some .boolean)) ∈ gT := gT_i 914 (by decide +kernel) rfl
theorem dX9_page_10 : decode cX9_page 10 = .ok (.bipush (-2), 2) := by decide +kernel
theorem dX9_page_12 : decode cX9_page 12 = .ok (.ireturn, 1) := by decide +kernel
theorem dX9_page_23 : decode cX9_page 23 = .ok (.aload_n 0, 1) := by decide +kernel
theorem dX9_page_24 : decode cX9_page 24 = .ok (.getfield 63, 3) := by decide +kernel
theorem dX9_page_27 : decode cX9_page 27 = .ok (.aload_n 0, 1) := by decide +kernel
theorem dX9_page_28 : decode cX9_page 28 = .ok (.getfield 81, 3) := by decide +kernel
theorem dX9_page_31 : decode cX9_page 31 = .ok (.invokevirtual 153, 3) := by decide +kernel
theorem dX9_page_34 : decode cX9_page 34 = .ok (.iload_n 1, 1) := by decide +kernel
theorem dX9_page_35 : decode cX9_page 35 = .ok (.ifCond .lt 14, 3) := by decide +kernel
theorem dX9_page_49 : decode cX9_page 49 = .ok (.bipush (-2), 2) := by decide +kernel
theorem dX9_page_51 : decode cX9_page 51 = .ok (.ireturn, 1) := by decide +kernel
theorem dX9_page_38 : decode cX9_page 38 = .ok (.iload_n 1, 1) := by decide +kernel
theorem dX9_page_39 : decode cX9_page 39 = .ok (.aload_n 0, 1) := by decide +kernel
theorem dX9_page_40 : decode cX9_page 40 = .ok (.getfield 63, 3) := by decide +kernel
theorem dX9_page_43 : decode cX9_page 43 = .ok (.invokevirtual 156, 3) := by decide +kernel
theorem dX9_page_46 : decode cX9_page 46 = .ok (.if_icmp .lt 6, 3) := by decide +kernel
theorem dX9_page_52 : decode cX9_page 52 = .ok (.aload_n 0, 1) := by decide +kernel
theorem dX9_page_53 : decode cX9_page 53 = .ok (.getfield 63, 3) := by decide +kernel
theorem dX9_page_56 : decode cX9_page 56 = .ok (.iload_n 1, 1) := by decide +kernel
theorem dX9_page_57 : decode cX9_page 57 = .ok (.invokevirtual 162, 3) := by decide +kernel
theorem dX9_page_60 : decode cX9_page 60 = .ok (.iload_n 2, 1) := by decide +kernel
theorem dX9_page_61 : decode cX9_page 61 = .ok (.tableswitch 95 0 5 #[39, 47, 55, 63, 71, 79], 39) := by decide +kernel
theorem dX9_page_100 : decode cX9_page 100 = .ok (.aload_n 0, 1) := by decide +kernel
theorem dX9_page_101 : decode cX9_page 101 = .ok (.getfield 63, 3) := by decide +kernel
theorem dX9_page_104 : decode cX9_page 104 = .ok (.invokevirtual 165, 3) := by decide +kernel
theorem dX9_page_107 : decode cX9_page 107 = .ok (.ireturn, 1) := by decide +kernel
theorem dX9_page_108 : decode cX9_page 108 = .ok (.aload_n 0, 1) := by decide +kernel
theorem dX9_page_109 : decode cX9_page 109 = .ok (.getfield 63, 3) := by decide +kernel
theorem dX9_page_112 : decode cX9_page 112 = .ok (.invokevirtual 168, 3) := by decide +kernel
theorem dX9_page_115 : decode cX9_page 115 = .ok (.ireturn, 1) := by decide +kernel
theorem dX9_page_116 : decode cX9_page 116 = .ok (.aload_n 0, 1) := by decide +kernel
theorem dX9_page_117 : decode cX9_page 117 = .ok (.getfield 63, 3) := by decide +kernel
theorem dX9_page_120 : decode cX9_page 120 = .ok (.invokevirtual 171, 3) := by decide +kernel
theorem dX9_page_123 : decode cX9_page 123 = .ok (.ireturn, 1) := by decide +kernel
theorem dX9_page_124 : decode cX9_page 124 = .ok (.aload_n 0, 1) := by decide +kernel
theorem dX9_page_125 : decode cX9_page 125 = .ok (.getfield 63, 3) := by decide +kernel
theorem dX9_page_128 : decode cX9_page 128 = .ok (.invokevirtual 174, 3) := by decide +kernel
theorem dX9_page_131 : decode cX9_page 131 = .ok (.ireturn, 1) := by decide +kernel
theorem dX9_page_132 : decode cX9_page 132 = .ok (.aload_n 0, 1) := by decide +kernel
theorem dX9_page_133 : decode cX9_page 133 = .ok (.getfield 63, 3) := by decide +kernel
theorem dX9_page_136 : decode cX9_page 136 = .ok (.invokevirtual 177, 3) := by decide +kernel
theorem dX9_page_139 : decode cX9_page 139 = .ok (.ireturn, 1) := by decide +kernel
theorem dX9_page_140 : decode cX9_page 140 = .ok (.aload_n 0, 1) := by decide +kernel
theorem dX9_page_141 : decode cX9_page 141 = .ok (.getfield 63, 3) := by decide +kernel
theorem dX9_page_144 : decode cX9_page 144 = .ok (.invokevirtual 180, 3) := by decide +kernel
theorem dX9_page_147 : decode cX9_page 147 = .ok (.ifCond .eq 7, 3) := by decide +kernel
theorem dX9_page_150 : decode cX9_page 150 = .ok (.iconst 1, 1) := by decide +kernel
theorem dX9_page_151 : decode cX9_page 151 = .ok (.goto 4, 3) := by decide +kernel
theorem dX9_page_155 : decode cX9_page 155 = .ok (.ireturn, 1) := by decide +kernel
theorem dX9_page_154 : decode cX9_page 154 = .ok (.iconst 0, 1) := by decide +kernel
theorem dX9_page_156 : decode cX9_page 156 = .ok (.aload_n 0, 1) := by decide +kernel
theorem dX9_page_157 : decode cX9_page 157 = .ok (.getfield 63, 3) := by decide +kernel
theorem dX9_page_160 : decode cX9_page 160 = .ok (.invokevirtual 184, 3) := by decide +kernel
theorem dX9_page_163 : decode cX9_page 163 = .ok (.ifCond .eq 7, 3) := by decide +kernel
theorem dX9_page_166 : decode cX9_page 166 = .ok (.iconst 1, 1) := by decide +kernel
theorem dX9_page_167 : decode cX9_page 167 = .ok (.goto 4, 3) := by decide +kernel
theorem dX9_page_171 : decode cX9_page 171 = .ok (.ireturn, 1) := by decide +kernel
theorem dX9_page_170 : decode cX9_page 170 = .ok (.iconst 0, 1) := by decide +kernel
set_option maxHeartbeats 1000000 in
set_option maxRecDepth 100000 in
theorem d_pageU (l : Launch) (D : va_G) (z : Nat → Nat) (cB cI_ cO : ClassId) (L0 : List Nat) (g0 : hG) (dk tp rd els reo nob bk gl sl mo : Nat) (pr pcs spr nwh cp : Nat) (pa : List Nat) (ea : Nat → Nat) (P : List Q4) (ne : Nat) (EE : Nat → E5) (lf : Nat) (x1 x2 x3 x4 x5 x6 v11 : Int32) (i1 i2 : Int32) (h_dk : ho L0 g0 dk 1 (.inr (10, [.ref tp, .ref rd, .ref els, .ref reo, .ref nob, .ref pr, .ref bk, .ref gl, .ref sl, .int (nI mo), .int 0, .int v11]))) (h_pr : ho L0 g0 pr 13 (.inr (7, [.ref pcs, .ref spr, .ref nwh]))) (h_pcs : alR cO (z 0) 14 15 L0 g0 pcs cp pa) (h_pc : pcR L0 g0 ea pa P) (h_es : esR cB cI_ L0 g0 ea ne EE) (h_lf : ho L0 g0 lf 20 (.inr (4, [.ref pr, .int x1, .int x2, .int x3, .int x4, .int x5, .int x6]))) (h_bs : bkS cI_ L0 g0 pr bk lf EE P pa.length mo) (hpa60 : pa.length ≤ 60) (hpa : pa.length ≤ 20000) (hQ : pq_ok ne EE P) (hU : pu_ok EE P) (hSb : ∀ i, i ≤ pa.length → qS P i ≤ 8000) (hmo1 : 10 ≤ mo) (hmo : mo ≤ 40) : eI l D yX9_page cX9_page 3 (some .int) 11 323 2 (4 * qS P pa.length) [.ref dk, .int i1, .int i2] z cB cI_ cO L0 g0 (fun r L g => ((L = L0 ∧ g = g0) ∨ ∃ (y9 y10 u1 u2 u3 u4 u5 u6 : Int32) (C : Nat → Option Q4) (cn : Nat), fr [20, 21, 22, 23, 24] L0 g0 L g ∧ bkK cI_ L g pr bk lf EE P pa.length mo y9 y10 C cn ∧ ho L g lf 20 (.inr (4, [.ref pr, .int u1, .int u2, .int u3, .int u4, .int u5, .int u6])))) := by
  refine o_si (by decide) (Nat.le_of_ble_eq_true rfl) ?_
  intro p e s m below meth c A ls hf hr hlocks hin hK hP hD hS hA hZ hN hl
  obtain ⟨hx, hb, hml, hown, hts⟩ := id hf
  have hl : lv_has ls 3 [(0, .ref dk), (1, .int i1), (2, .int i2)] := hl
  have hfr : fr [20, 21, 22, 23, 24] L0 g0 L0 g0 := fr.rf
  refine lv_iload_n hx hb dX9_page_0 rfl (lv_at hl 2 rfl) ?_
  refine lv_if_lt (tgt := 10) hx hb dX9_page_1 (by decide) (fun c_1 => ?_) (fun c_1 => ?_)
  · refine lv_bipush (v := (-2)) hx hb dX9_page_10 (by decide) ?_
    exact o_ri hf hr rfl hlocks hK hP hD hS (show 0 ≤ 2 by omega) (show 0 ≤ 4 * qS P pa.length by omega) (Or.inl ⟨rfl, rfl⟩) dX9_page_12
  · refine lv_iload_n hx hb dX9_page_4 rfl (lv_at hl 2 rfl) ?_
    refine lv_bipush (v := 6) hx hb dX9_page_5 (by decide) ?_
    refine lv_icmp_le (tgt := 13) hx hb dX9_page_7 (by decide) (fun c_2 => ?_) (fun c_2 => ?_)
    · refine lv_aload_n hx hb dX9_page_13 rfl (lv_at hl 0 rfl) ?_
      refine o_get (D := D) (ci := 10) (v := .int 0) (C := RX9) (T := TX9) (N := 12) hx hb hts inX9 hown hK hP h_dk rfl 10 (by decide) (hts _ k_439) (fun _ h9 => h9) rfl dX9_page_14 ?_
      refine lv_if_eq (tgt := 23) hx hb dX9_page_17 (by decide) (fun _ => ?_) (fun hno => absurd hno (by decide))
      refine lv_aload_n hx hb dX9_page_23 rfl (lv_at hl 0 rfl) ?_
      refine o_get (D := D) (ci := 10) (v := .ref bk) (C := RX9) (T := TX9) (N := 12) hx hb hts inX9 hown hK hP h_dk rfl 6 (by decide) (hts _ k_435) (fun _ h9 => h9) rfl dX9_page_24 ?_
      refine lv_aload_n hx hb dX9_page_27 rfl (lv_at hl 0 rfl) ?_
      refine o_get (D := D) (ci := 10) (v := .int (nI mo)) (C := RX9) (T := TX9) (N := 12) hx hb hts inX9 hown hK hP h_dk rfl 9 (by decide) (hts _ k_438) (fun _ h9 => h9) rfl dX9_page_28 ?_
      obtain ⟨mc9, d9, h_al9⟩ := h_bs.al
      refine o_cv (k := 0 + 2) (n := 0 + (4 * qS P pa.length)) hK hP hD hS hA (o_rV (As := [.int (nI mo)]) (rest := []) hf (bk_ref _ _ _ _ _ _ _ _ pr pcs spr nwh cp pa ea P ne EE bk lf x1 x2 x3 x4 x5 x6 mo h_pr h_pcs h_pc h_es h_lf h_bs hpa60 hpa hQ hU hSb hmo1 hmo _) k_765 k_762 k_763 k_764 k_95 (nA := 1) (by decide +kernel) ⟨Nat.le_of_ble_eq_true rfl, Nat.le_of_ble_eq_true rfl⟩ hK hP hD hS hA hZ hN h_al9 rfl rfl rfl hl.1 rfl (Nat.le_of_ble_eq_true rfl) dX9_page_31 ⟨(show 0 + 2 ≤ 2 by omega), (show 0 + (4 * qS P pa.length) ≤ 4 * qS P pa.length by omega)⟩) (by omega) (by omega) (fun L g H locs hw hP hD hS => ?_)
      obtain ⟨y9, y10, u1, u2, u3, u4, u5, u6, C, cn, hf9, hbk, h_lf⟩ := hw
      have h_dk := h_dk.fr hf9 (by decide)
      have h_pr := h_pr.fr hf9 (by decide)
      have hfr := hfr.tr hf9
      have h_pcs := h_pcs.frd hf9 (by decide)
      have h_pc := h_pc.frd hf9 (by decide)
      have h_es := h_es.frd hf9 (by decide)
      obtain ⟨bop, cf, nx, M, fb, fc, fn, h_bk, h_bop, h_cf, h_nx, hFb, hMs, hM, eC, ecn, hC, hcl⟩ := id hbk
      have hcn : cn ≤ 8000 := by rw [ecn]; exact bk_pg_le _ _ _
      have hplu := h_pc.1
      have hSn9 := hSb pa.length (Nat.le_refl _)
      refine lv_iload_n hx hb dX9_page_34 rfl (lv_at hl 1 rfl) ?_
      refine lv_if_lt (tgt := 49) hx hb dX9_page_35 (by decide) (fun c_3 => ?_) (fun c_3 => ?_)
      · refine lv_bipush (v := (-2)) hx hb dX9_page_49 (by decide) ?_
        exact o_ri hf hr rfl hlocks hK hP hD hS (show 0 + 2 ≤ 2 by omega) (show 0 + (4 * qS P pa.length) ≤ 4 * qS P pa.length by omega) (Or.inr ⟨_, _, u1, u2, u3, u4, u5, u6, C, cn, hfr, ⟨bop, cf, nx, M, fb, fc, fn, h_bk, h_bop, h_cf, h_nx, hFb, hMs, hM, eC, ecn, hC, hcl⟩, h_lf⟩) dX9_page_51
      · refine lv_iload_n hx hb dX9_page_38 rfl (lv_at hl 1 rfl) ?_
        refine lv_aload_n hx hb dX9_page_39 rfl (lv_at hl 0 rfl) ?_
        refine o_get (D := D) (ci := 10) (v := .ref bk) (C := RX9) (T := TX9) (N := 12) hx hb hts inX9 hown hK hP h_dk rfl 6 (by decide) (hts _ k_435) (fun _ h9 => h9) rfl dX9_page_40 ?_
        refine o_cis (k := 0 + 2) (n := 0 + (4 * qS P pa.length)) hK hP hD hS hA (o_rV (As := []) (rest := [.int i1]) hf (bk_pc _ _ _ _ _ _ _ _ pr bk lf bop cf nx pa.length (qS P pa.length) 1 y9 y10 cn h_bk _) k_862 k_859 k_860 k_861 k_95 (nA := 0) (by decide +kernel) ⟨Nat.le_of_ble_eq_true rfl, Nat.le_of_ble_eq_true rfl⟩ hK hP hD hS hA hZ hN h_bk rfl rfl rfl hl.1 rfl (Nat.le_of_ble_eq_true rfl) dX9_page_43 ⟨(show 0 + 2 + 0 ≤ 2 by omega), (show 0 + (4 * qS P pa.length) + 0 ≤ 4 * qS P pa.length by omega)⟩) (Nat.le_refl _) (Nat.le_refl _) (fun r H locs hw hP hD hS => ?_)
        obtain rfl := hw
        refine lv_icmp_lt (tgt := 52) hx hb dX9_page_46 (by decide) (fun c_4 => ?_) (fun c_4 => ?_)
        · obtain ⟨pg, hpg, rfl⟩ := ix_lt (by omega) c_3 c_4
          have hl : lv_has ls 3 [(0, .ref dk), (1, .int (nI pg)), (2, .int i2)] := hl
          refine lv_aload_n hx hb dX9_page_52 rfl (lv_at hl 0 rfl) ?_
          refine o_get (D := D) (ci := 10) (v := .ref bk) (C := RX9) (T := TX9) (N := 12) hx hb hts inX9 hown hK hP h_dk rfl 6 (by decide) (hts _ k_435) (fun _ h9 => h9) rfl dX9_page_53 ?_
          refine lv_iload_n hx hb dX9_page_56 rfl (lv_at hl 1 rfl) ?_
          refine o_cv (k := 0 + 2) (n := 0 + (4 * qS P pa.length)) hK hP hD hS hA (o_rV (As := [.int (nI pg)]) (rest := []) hf (bk_turn _ _ _ _ _ _ _ _ pr pa P bk lf bop cf nx 1 y9 y10 M fc fn C cn pg h_bk h_nx (rs_hz hQ hplu) hSn9 hMs hM hC hcl ecn (by omega) hcn _) k_878 k_875 k_876 k_877 k_95 (nA := 1) (by decide +kernel) ⟨Nat.le_of_ble_eq_true rfl, Nat.le_of_ble_eq_true rfl⟩ hK hP hD hS hA hZ hN h_bk rfl rfl rfl hl.1 rfl (Nat.le_of_ble_eq_true rfl) dX9_page_57 ⟨(show 0 + 2 + 0 ≤ 2 by omega), (show 0 + (4 * qS P pa.length) + 0 ≤ 4 * qS P pa.length by omega)⟩) (Nat.le_refl _) (Nat.le_refl _) (fun L g H locs hw hP hD hS => ?_)
          obtain ⟨pq, rr, f_, y, hgd, hdrp, hpn, hrr, hyC, hpgat, hlt9, hle9, hf9, h_bk⟩ := hw
          have h_dk := h_dk.fr hf9 (by decide)
          have h_pr := h_pr.fr hf9 (by decide)
          have h_bop := h_bop.fr hf9 (by decide)
          have h_cf := h_cf.fr hf9 (by decide)
          have h_nx := h_nx.fr hf9 (by decide)
          have h_lf := h_lf.fr hf9 (by decide)
          have hfr := hfr.tm hf9 (by decide)
          have h_pcs := h_pcs.frd hf9 (by decide)
          have h_pc := h_pc.frd hf9 (by decide)
          have h_es := h_es.frd hf9 (by decide)
          have hrr : rr < (P.getD pq d4).2.2.1 - (P.getD pq d4).2.1 := hrr
          obtain ⟨pe, re, hpen, hre, eY, hrel⟩ := pg_end (rs_hz hQ hplu) hpgat hlt9
          rw [eY] at h_bk hlt9 hle9
          refine lv_iload_n hx hb dX9_page_60 rfl (lv_at hl 2 rfl) ?_
          rcases q_sw_0_5 i2 with c_5 | c_5 | c_5 | c_5 | c_5 | c_5 | c_5
          · refine q_seti (y := 0) c_5 ?_
            refine lv_tableIn (off := 39) (tgt := 100) hx hb dX9_page_61 (by decide) (by decide) (by decide) (by decide) ?_
            refine lv_aload_n hx hb dX9_page_100 rfl (lv_at hl 0 rfl) ?_
            refine o_get (D := D) (ci := 10) (v := .ref bk) (C := RX9) (T := TX9) (N := 12) hx hb hts inX9 hown hK hP h_dk rfl 6 (by decide) (hts _ k_435) (fun _ h9 => h9) rfl dX9_page_101 ?_
            refine o_ci (k := 0 + 2) (n := 0 + (4 * qS P pa.length)) hK hP hD hS hA (o_rV (As := []) (rest := []) hf (bk_rows _ _ _ _ _ _ _ _ pr pcs spr nwh cp pa ea P ne EE bk lf bop cf nx 1 (nI cn) fb pq rr pe re u1 u2 u3 u4 u5 u6 h_pr h_pcs h_pc h_es h_bk h_bop h_lf hpa60 hpa hQ hU hFb hSb hpn hrr hpen hre (by omega) _) k_882 k_879 k_880 k_881 k_95 (nA := 0) (by decide +kernel) ⟨Nat.le_of_ble_eq_true rfl, Nat.le_of_ble_eq_true rfl⟩ hK hP hD hS hA hZ hN h_bk rfl rfl rfl hl.1 rfl (Nat.le_of_ble_eq_true rfl) dX9_page_104 ⟨(show 0 + 2 + 0 ≤ 2 by omega), (show 0 + (4 * qS P pa.length) + 0 ≤ 4 * qS P pa.length by omega)⟩) (Nat.le_refl _) (Nat.le_refl _) (fun r L g H locs hw hP hD hS => ?_)
            obtain ⟨rfl, u1, u2, u3, u4, u5, u6, hf9, h_lf⟩ := hw
            have h_dk := h_dk.fr hf9 (by decide)
            have h_pr := h_pr.fr hf9 (by decide)
            have h_bop := h_bop.fr hf9 (by decide)
            have h_cf := h_cf.fr hf9 (by decide)
            have h_nx := h_nx.fr hf9 (by decide)
            have h_bk := h_bk.fr hf9 (by decide)
            have hfr := hfr.tm hf9 (by decide)
            have h_pcs := h_pcs.frd hf9 (by decide)
            have h_pc := h_pc.frd hf9 (by decide)
            have h_es := h_es.frd hf9 (by decide)
            exact o_ri hf hr rfl hlocks hK hP hD hS (show 0 + 2 ≤ 2 by omega) (show 0 + (4 * qS P pa.length) ≤ 4 * qS P pa.length by omega) (Or.inr ⟨_, _, u1, u2, u3, u4, u5, u6, C, cn, hfr, ⟨bop, cf, nx, M, fb, fc, fn, h_bk, h_bop, h_cf, h_nx, hFb, hMs, hM, eC, ecn, hC, hcl⟩, h_lf⟩) dX9_page_107
          · refine q_seti (y := 1) c_5 ?_
            refine lv_tableIn (off := 47) (tgt := 108) hx hb dX9_page_61 (by decide) (by decide) (by decide) (by decide) ?_
            refine lv_aload_n hx hb dX9_page_108 rfl (lv_at hl 0 rfl) ?_
            refine o_get (D := D) (ci := 10) (v := .ref bk) (C := RX9) (T := TX9) (N := 12) hx hb hts inX9 hown hK hP h_dk rfl 6 (by decide) (hts _ k_435) (fun _ h9 => h9) rfl dX9_page_109 ?_
            refine o_cis (k := 0 + 2) (n := 0 + (4 * qS P pa.length)) hK hP hD hS hA (o_rV (As := []) (rest := []) hf (bk_fp _ _ _ _ _ _ _ _ pr pa P bk lf bop cf nx 1 (nI cn) fb pq rr pe re h_bk h_bop hpa60 hFb hSb (by omega) (by omega) (by omega) (by omega) _) k_886 k_895 k_884 k_885 k_95 (nA := 0) (by decide +kernel) ⟨Nat.le_of_ble_eq_true rfl, Nat.le_of_ble_eq_true rfl⟩ hK hP hD hS hA hZ hN h_bk rfl rfl rfl hl.1 rfl (Nat.le_of_ble_eq_true rfl) dX9_page_112 ⟨(show 0 + 2 + 0 ≤ 2 by omega), (show 0 + (4 * qS P pa.length) + 0 ≤ 4 * qS P pa.length by omega)⟩) (Nat.le_refl _) (Nat.le_refl _) (fun r H locs hw hP hD hS => ?_)
            obtain rfl := hw
            exact o_ri hf hr rfl hlocks hK hP hD hS (show 0 + 2 ≤ 2 by omega) (show 0 + (4 * qS P pa.length) ≤ 4 * qS P pa.length by omega) (Or.inr ⟨_, _, u1, u2, u3, u4, u5, u6, C, cn, hfr, ⟨bop, cf, nx, M, fb, fc, fn, h_bk, h_bop, h_cf, h_nx, hFb, hMs, hM, eC, ecn, hC, hcl⟩, h_lf⟩) dX9_page_115
          · refine q_seti (y := 2) c_5 ?_
            refine lv_tableIn (off := 55) (tgt := 116) hx hb dX9_page_61 (by decide) (by decide) (by decide) (by decide) ?_
            refine lv_aload_n hx hb dX9_page_116 rfl (lv_at hl 0 rfl) ?_
            refine o_get (D := D) (ci := 10) (v := .ref bk) (C := RX9) (T := TX9) (N := 12) hx hb hts inX9 hown hK hP h_dk rfl 6 (by decide) (hts _ k_435) (fun _ h9 => h9) rfl dX9_page_117 ?_
            refine o_cis (k := 0 + 2) (n := 0 + (4 * qS P pa.length)) hK hP hD hS hA (o_rV (As := []) (rest := []) hf (bk_fr _ _ _ _ _ _ _ _ pr pa P bk lf bop cf nx 1 (nI cn) fb pq rr pe re h_bk h_bop hpa60 hFb hSb (by omega) (by omega) (by omega) (by omega) _) k_894 k_896 k_892 k_893 k_95 (nA := 0) (by decide +kernel) ⟨Nat.le_of_ble_eq_true rfl, Nat.le_of_ble_eq_true rfl⟩ hK hP hD hS hA hZ hN h_bk rfl rfl rfl hl.1 rfl (Nat.le_of_ble_eq_true rfl) dX9_page_120 ⟨(show 0 + 2 + 0 ≤ 2 by omega), (show 0 + (4 * qS P pa.length) + 0 ≤ 4 * qS P pa.length by omega)⟩) (Nat.le_refl _) (Nat.le_refl _) (fun r H locs hw hP hD hS => ?_)
            obtain rfl := hw
            exact o_ri hf hr rfl hlocks hK hP hD hS (show 0 + 2 ≤ 2 by omega) (show 0 + (4 * qS P pa.length) ≤ 4 * qS P pa.length by omega) (Or.inr ⟨_, _, u1, u2, u3, u4, u5, u6, C, cn, hfr, ⟨bop, cf, nx, M, fb, fc, fn, h_bk, h_bop, h_cf, h_nx, hFb, hMs, hM, eC, ecn, hC, hcl⟩, h_lf⟩) dX9_page_123
          · refine q_seti (y := 3) c_5 ?_
            refine lv_tableIn (off := 63) (tgt := 124) hx hb dX9_page_61 (by decide) (by decide) (by decide) (by decide) ?_
            refine lv_aload_n hx hb dX9_page_124 rfl (lv_at hl 0 rfl) ?_
            refine o_get (D := D) (ci := 10) (v := .ref bk) (C := RX9) (T := TX9) (N := 12) hx hb hts inX9 hown hK hP h_dk rfl 6 (by decide) (hts _ k_435) (fun _ h9 => h9) rfl dX9_page_125 ?_
            refine o_cis (k := 0 + 2) (n := 0 + (4 * qS P pa.length)) hK hP hD hS hA (o_rV (As := []) (rest := []) hf (bk_lp _ _ _ _ _ _ _ _ pr pa P bk lf bop cf nx 1 (nI cn) fb pq rr pe re h_bk h_bop hpa60 hFb hSb (by omega) (by omega) (by omega) (by omega) _) k_900 k_897 k_898 k_899 k_95 (nA := 0) (by decide +kernel) ⟨Nat.le_of_ble_eq_true rfl, Nat.le_of_ble_eq_true rfl⟩ hK hP hD hS hA hZ hN h_bk rfl rfl rfl hl.1 rfl (Nat.le_of_ble_eq_true rfl) dX9_page_128 ⟨(show 0 + 2 + 0 ≤ 2 by omega), (show 0 + (4 * qS P pa.length) + 0 ≤ 4 * qS P pa.length by omega)⟩) (Nat.le_refl _) (Nat.le_refl _) (fun r H locs hw hP hD hS => ?_)
            obtain rfl := hw
            exact o_ri hf hr rfl hlocks hK hP hD hS (show 0 + 2 ≤ 2 by omega) (show 0 + (4 * qS P pa.length) ≤ 4 * qS P pa.length by omega) (Or.inr ⟨_, _, u1, u2, u3, u4, u5, u6, C, cn, hfr, ⟨bop, cf, nx, M, fb, fc, fn, h_bk, h_bop, h_cf, h_nx, hFb, hMs, hM, eC, ecn, hC, hcl⟩, h_lf⟩) dX9_page_131
          · refine q_seti (y := 4) c_5 ?_
            refine lv_tableIn (off := 71) (tgt := 132) hx hb dX9_page_61 (by decide) (by decide) (by decide) (by decide) ?_
            refine lv_aload_n hx hb dX9_page_132 rfl (lv_at hl 0 rfl) ?_
            refine o_get (D := D) (ci := 10) (v := .ref bk) (C := RX9) (T := TX9) (N := 12) hx hb hts inX9 hown hK hP h_dk rfl 6 (by decide) (hts _ k_435) (fun _ h9 => h9) rfl dX9_page_133 ?_
            refine o_cis (k := 0 + 2) (n := 0 + (4 * qS P pa.length)) hK hP hD hS hA (o_rV (As := []) (rest := []) hf (bk_er _ _ _ _ _ _ _ _ pr pa P bk lf bop cf nx 1 (nI cn) fb pq rr pe re h_bk h_bop hpa60 hFb hSb (by omega) (by omega) (by omega) (by omega) _) k_904 k_901 k_902 k_903 k_95 (nA := 0) (by decide +kernel) ⟨Nat.le_of_ble_eq_true rfl, Nat.le_of_ble_eq_true rfl⟩ hK hP hD hS hA hZ hN h_bk rfl rfl rfl hl.1 rfl (Nat.le_of_ble_eq_true rfl) dX9_page_136 ⟨(show 0 + 2 + 0 ≤ 2 by omega), (show 0 + (4 * qS P pa.length) + 0 ≤ 4 * qS P pa.length by omega)⟩) (Nat.le_refl _) (Nat.le_refl _) (fun r H locs hw hP hD hS => ?_)
            obtain rfl := hw
            exact o_ri hf hr rfl hlocks hK hP hD hS (show 0 + 2 ≤ 2 by omega) (show 0 + (4 * qS P pa.length) ≤ 4 * qS P pa.length by omega) (Or.inr ⟨_, _, u1, u2, u3, u4, u5, u6, C, cn, hfr, ⟨bop, cf, nx, M, fb, fc, fn, h_bk, h_bop, h_cf, h_nx, hFb, hMs, hM, eC, ecn, hC, hcl⟩, h_lf⟩) dX9_page_139
          · refine q_seti (y := 5) c_5 ?_
            refine lv_tableIn (off := 79) (tgt := 140) hx hb dX9_page_61 (by decide) (by decide) (by decide) (by decide) ?_
            refine lv_aload_n hx hb dX9_page_140 rfl (lv_at hl 0 rfl) ?_
            refine o_get (D := D) (ci := 10) (v := .ref bk) (C := RX9) (T := TX9) (N := 12) hx hb hts inX9 hown hK hP h_dk rfl 6 (by decide) (hts _ k_435) (fun _ h9 => h9) rfl dX9_page_141 ?_
            refine o_cis (k := 0 + 2) (n := 0 + (4 * qS P pa.length)) hK hP hD hS hA (o_rV (As := []) (rest := []) hf (bk_bws _ _ _ _ _ _ _ _ pr pcs spr nwh cp pa ea P ne EE bk lf bop cf nx 1 (nI cn) fb pq rr pe re h_pr h_pcs h_pc h_es h_bk h_bop hpa hQ hpa60 hFb hSb hpn hrr hpen hre _) k_909 k_906 k_907 k_908 k_95 (nA := 0) (by decide +kernel) ⟨Nat.le_of_ble_eq_true rfl, Nat.le_of_ble_eq_true rfl⟩ hK hP hD hS hA hZ hN h_bk rfl rfl rfl hl.1 rfl (Nat.le_of_ble_eq_true rfl) dX9_page_144 ⟨(show 0 + 2 + 0 ≤ 2 by omega), (show 0 + (4 * qS P pa.length) + 0 ≤ 4 * qS P pa.length by omega)⟩) (Nat.le_refl _) (Nat.le_refl _) (fun r H locs hw hP hD hS => ?_)
            rcases hw with ⟨c_6, rfl⟩ | ⟨c_6, rfl⟩
            · have hP := hP
              refine lv_if_eq (tgt := 154) hx hb dX9_page_147 (by decide) (fun hno => absurd hno (by decide)) (fun _ => ?_)
              refine lv_iconst (v := 1) hx hb dX9_page_150 (by decide) ?_
              refine lv_goto (tgt := 155) hx hb dX9_page_151 (by decide) ?_
              exact o_ri hf hr rfl hlocks hK hP hD hS (show 0 + 2 ≤ 2 by omega) (show 0 + (4 * qS P pa.length) ≤ 4 * qS P pa.length by omega) (Or.inr ⟨_, _, u1, u2, u3, u4, u5, u6, C, cn, hfr, ⟨bop, cf, nx, M, fb, fc, fn, h_bk, h_bop, h_cf, h_nx, hFb, hMs, hM, eC, ecn, hC, hcl⟩, h_lf⟩) dX9_page_155
            · have hP := hP
              refine lv_if_eq (tgt := 154) hx hb dX9_page_147 (by decide) (fun _ => ?_) (fun hno => absurd hno (by decide))
              refine lv_iconst (v := 0) hx hb dX9_page_154 (by decide) ?_
              exact o_ri hf hr rfl hlocks hK hP hD hS (show 0 + 2 ≤ 2 by omega) (show 0 + (4 * qS P pa.length) ≤ 4 * qS P pa.length by omega) (Or.inr ⟨_, _, u1, u2, u3, u4, u5, u6, C, cn, hfr, ⟨bop, cf, nx, M, fb, fc, fn, h_bk, h_bop, h_cf, h_nx, hFb, hMs, hM, eC, ecn, hC, hcl⟩, h_lf⟩) dX9_page_155
          · refine lv_tableOut (tgt := 156) hx hb dX9_page_61 c_5 (by decide) ?_
            refine lv_aload_n hx hb dX9_page_156 rfl (lv_at hl 0 rfl) ?_
            refine o_get (D := D) (ci := 10) (v := .ref bk) (C := RX9) (T := TX9) (N := 12) hx hb hts inX9 hown hK hP h_dk rfl 6 (by decide) (hts _ k_435) (fun _ h9 => h9) rfl dX9_page_157 ?_
            refine o_cis (k := 0 + 2) (n := 0 + (4 * qS P pa.length)) hK hP hD hS hA (o_rV (As := []) (rest := []) hf (bk_ews _ _ _ _ _ _ _ _ pr pcs spr nwh cp pa ea P ne EE bk lf bop cf nx 1 (nI cn) fb pq rr pe re h_pr h_pcs h_pc h_es h_bk h_bop hpa hQ hpa60 hFb hSb hpn hrr hpen hre _) k_914 k_911 k_912 k_913 k_95 (nA := 0) (by decide +kernel) ⟨Nat.le_of_ble_eq_true rfl, Nat.le_of_ble_eq_true rfl⟩ hK hP hD hS hA hZ hN h_bk rfl rfl rfl hl.1 rfl (Nat.le_of_ble_eq_true rfl) dX9_page_160 ⟨(show 0 + 2 + 0 ≤ 2 by omega), (show 0 + (4 * qS P pa.length) + 0 ≤ 4 * qS P pa.length by omega)⟩) (Nat.le_refl _) (Nat.le_refl _) (fun r H locs hw hP hD hS => ?_)
            rcases hw with ⟨c_7, rfl⟩ | ⟨c_7, rfl⟩
            · have hP := hP
              refine lv_if_eq (tgt := 170) hx hb dX9_page_163 (by decide) (fun hno => absurd hno (by decide)) (fun _ => ?_)
              refine lv_iconst (v := 1) hx hb dX9_page_166 (by decide) ?_
              refine lv_goto (tgt := 171) hx hb dX9_page_167 (by decide) ?_
              exact o_ri hf hr rfl hlocks hK hP hD hS (show 0 + 2 ≤ 2 by omega) (show 0 + (4 * qS P pa.length) ≤ 4 * qS P pa.length by omega) (Or.inr ⟨_, _, u1, u2, u3, u4, u5, u6, C, cn, hfr, ⟨bop, cf, nx, M, fb, fc, fn, h_bk, h_bop, h_cf, h_nx, hFb, hMs, hM, eC, ecn, hC, hcl⟩, h_lf⟩) dX9_page_171
            · have hP := hP
              refine lv_if_eq (tgt := 170) hx hb dX9_page_163 (by decide) (fun _ => ?_) (fun hno => absurd hno (by decide))
              refine lv_iconst (v := 0) hx hb dX9_page_170 (by decide) ?_
              exact o_ri hf hr rfl hlocks hK hP hD hS (show 0 + 2 ≤ 2 by omega) (show 0 + (4 * qS P pa.length) ≤ 4 * qS P pa.length by omega) (Or.inr ⟨_, _, u1, u2, u3, u4, u5, u6, C, cn, hfr, ⟨bop, cf, nx, M, fb, fc, fn, h_bk, h_bop, h_cf, h_nx, hFb, hMs, hM, eC, ecn, hC, hcl⟩, h_lf⟩) dX9_page_171
        · refine lv_bipush (v := (-2)) hx hb dX9_page_49 (by decide) ?_
          exact o_ri hf hr rfl hlocks hK hP hD hS (show 0 + 2 ≤ 2 by omega) (show 0 + (4 * qS P pa.length) ≤ 4 * qS P pa.length by omega) (Or.inr ⟨_, _, u1, u2, u3, u4, u5, u6, C, cn, hfr, ⟨bop, cf, nx, M, fb, fc, fn, h_bk, h_bop, h_cf, h_nx, hFb, hMs, hM, eC, ecn, hC, hcl⟩, h_lf⟩) dX9_page_51
    · refine lv_bipush (v := (-2)) hx hb dX9_page_10 (by decide) ?_
      exact o_ri hf hr rfl hlocks hK hP hD hS (show 0 ≤ 2 by omega) (show 0 ≤ 4 * qS P pa.length by omega) (Or.inl ⟨rfl, rfl⟩) dX9_page_12
set_option maxHeartbeats 1000000 in
set_option maxRecDepth 100000 in
theorem d_pageL (l : Launch) (D : va_G) (z : Nat → Nat) (cB cI_ cO : ClassId) (L0 : List Nat) (g0 : hG) (dk tp rd els reo nob pr bk gl sl mo : Nat) (v11 x1 x2 : Int32) (h_dk : ho L0 g0 dk 1 (.inr (10, [.ref tp, .ref rd, .ref els, .ref reo, .ref nob, .ref pr, .ref bk, .ref gl, .ref sl, .int (nI mo), .int 1, .int v11])))  : eIs l D yX9_page cX9_page 3 (some .int) 0 0 0 0 [.ref dk, .int x1, .int x2] z cB cI_ cO L0 g0 (fun r => True) := by
  refine o_si (by decide) (Nat.le_of_ble_eq_true rfl) ?_
  intro p e s m below meth c A ls hf hr hlocks hin hK hP hD hS hA hZ hN hl
  obtain ⟨hx, hb, hml, hown, hts⟩ := id hf
  have hl : lv_has ls 3 [(0, .ref dk), (1, .int x1), (2, .int x2)] := hl
  refine lv_iload_n hx hb dX9_page_0 rfl (lv_at hl 2 rfl) ?_
  refine lv_if_lt (tgt := 10) hx hb dX9_page_1 (by decide) (fun c_1 => ?_) (fun c_1 => ?_)
  · refine lv_bipush (v := (-2)) hx hb dX9_page_10 (by decide) ?_
    exact o_ri hf hr rfl hlocks hK hP hD hS (show 0 ≤ 0 by omega) (show 0 ≤ 0 by omega) ⟨trivial, rfl, rfl⟩ dX9_page_12
  · refine lv_iload_n hx hb dX9_page_4 rfl (lv_at hl 2 rfl) ?_
    refine lv_bipush (v := 6) hx hb dX9_page_5 (by decide) ?_
    refine lv_icmp_le (tgt := 13) hx hb dX9_page_7 (by decide) (fun c_2 => ?_) (fun c_2 => ?_)
    · refine lv_aload_n hx hb dX9_page_13 rfl (lv_at hl 0 rfl) ?_
      refine o_get (D := D) (ci := 10) (v := .int 1) (C := RX9) (T := TX9) (N := 12) hx hb hts inX9 hown hK hP h_dk rfl 10 (by decide) (hts _ k_439) (fun _ h9 => h9) rfl dX9_page_14 ?_
      refine lv_if_eq (tgt := 23) hx hb dX9_page_17 (by decide) (fun hno => absurd hno (by decide)) (fun _ => ?_)
      refine lv_bipush (v := (-3)) hx hb dX9_page_20 (by decide) ?_
      exact o_ri hf hr rfl hlocks hK hP hD hS (show 0 ≤ 0 by omega) (show 0 ≤ 0 by omega) ⟨trivial, rfl, rfl⟩ dX9_page_22
    · refine lv_bipush (v := (-2)) hx hb dX9_page_10 (by decide) ?_
      exact o_ri hf hr rfl hlocks hK hP hD hS (show 0 ≤ 0 by omega) (show 0 ≤ 0 by omega) ⟨trivial, rfl, rfl⟩ dX9_page_12
