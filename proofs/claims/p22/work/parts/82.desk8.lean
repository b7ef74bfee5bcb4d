theorem bk_pg_le {Fm To : Nat → Nat} {pn : Nat} {C : Nat → Option Q4} : ∀ f p r, (bk_pg Fm To pn C f p r).length ≤ f := by
  intro f
  induction f with
  | zero => intro p r; exact Nat.le_refl _
  | succ f ih =>
    intro p r
    by_cases hp : p < pn
    · cases hc : C (rs_S Fm To p + r) with
      | none => rw [bk_pg_n hc]; exact Nat.zero_le _
      | some y =>
        rw [bk_pg_in hp hc, List.length_cons]
        have := ih y.2.1 y.2.2.1
        omega
    · rw [bk_pg_out hp]; exact Nat.zero_le _
theorem lc_eq {P : List Q4} {n cn : Nat} {C : Nat → Option Q4} {fc fn : Nat → Int32} {r : Int32} (hz : ∀ p, p < n → 0 < qT P p - qF P p) (ecn : cn = (bk_pg (qF P) (qT P) n C 8000 0 0).length) (hC : cf_tab P n C 0 fc fn) (h : (cn = 0 ∧ r = -1) ∨ (0 < cn ∧ r = fc 0)) : r = bk_least n C := by
  by_cases h0 : n = 0
  · rw [bk_pg_out (show ¬ 0 < n by omega)] at ecn
    have ecn : cn = 0 := ecn
    rcases h with h | h
    · rw [h.2, bk_least_0 h0]
    · omega
  · have hp : 0 < n := by omega
    have h1 := qS_in P hp
    have h2 : 0 < (P.getD 0 d4).2.2.1 - (P.getD 0 d4).2.1 := hz 0 hp
    have h3 := (hC.1 0 (Nat.le_refl _) (by omega)).1
    cases hc : C 0 with
    | none =>
      rw [bk_pg_n (show C (rs_S (qF P) (qT P) 0 + 0) = none from hc)] at ecn
      have ecn : cn = 0 := ecn
      rcases h with h | h
      · rw [h.2, bk_least_n hc]
      · omega
    | some y =>
      rw [bk_pg_in (f := 7999) hp (show C (rs_S (qF P) (qT P) 0 + 0) = some y from hc), List.length_cons] at ecn
      rcases h with h | h
      · omega
      · rw [h.2, bk_least_s h0 hc]; exact (cf_some h3 hc).1
abbrev cX9_scenes : ByteArray := prog_1_method_18_code
def yX9_scenes : MethodName := ⟨RX9, "scenes", "()I"⟩
theorem k_437 : (Cond.fieldLink RX9 77 "ScriptDesk" "sceneList" "LScriptDesk$SceneList;") ∈ gT := gT_i 437 (by decide +kernel) rfl
theorem k_867 : (Cond.methodLink RX9 159 yX0_leastCost) ∈ gT := gT_i 867 (by decide +kernel) rfl
theorem k_868 : (Cond.instanceMethod yX0_leastCost) ∈ gT := gT_i 868 (by decide +kernel) rfl
theorem k_869 : (Cond.selects RX0 yX0_leastCost yX0_leastCost) ∈ gT := gT_i 869 (by decide +kernel) rfl
theorem k_870 : (Cond.code yX0_leastCost cX0_leastCost 1 (some .int)) ∈ gT := gT_i 870 (by decide +kernel) rfl
theorem k_1042 : (Cond.methodLink RX9 256 yX7_sceneCount) ∈ gT := gT_i 1042 (by decide +kernel) rfl
theorem k_1043 : (Cond.instanceMethod yX7_sceneCount) ∈ gT := gT_i 1043 (by decide +kernel) rfl
theorem k_1044 : (Cond.selects RX7 yX7_sceneCount yX7_sceneCount) ∈ gT := gT_i 1044 (by decide +kernel) rfl
theorem k_1045 : (Cond.code yX7_sceneCount cX7_sceneCount 3 (some .int)) ∈ gT := gT_i 1045 (by decide +kernel) rfl
theorem dX9_cost_9 : decode cX9_cost 9 = .ok (.aload_n 0, 1) := by decide +kernel
theorem dX9_cost_10 : decode cX9_cost 10 = .ok (.getfield 63, 3) := by decide +kernel
theorem dX9_cost_13 : decode cX9_cost 13 = .ok (.aload_n 0, 1) := by decide +kernel
theorem dX9_cost_14 : decode cX9_cost 14 = .ok (.getfield 81, 3) := by decide +kernel
theorem dX9_cost_17 : decode cX9_cost 17 = .ok (.invokevirtual 153, 3) := by decide +kernel
theorem dX9_cost_20 : decode cX9_cost 20 = .ok (.aload_n 0, 1) := by decide +kernel
theorem dX9_cost_21 : decode cX9_cost 21 = .ok (.getfield 63, 3) := by decide +kernel
theorem dX9_cost_24 : decode cX9_cost 24 = .ok (.invokevirtual 159, 3) := by decide +kernel
theorem dX9_cost_27 : decode cX9_cost 27 = .ok (.ireturn, 1) := by decide +kernel
theorem dX9_scenes_0 : decode cX9_scenes 0 = .ok (.aload_n 0, 1) := by decide +kernel
theorem dX9_scenes_1 : decode cX9_scenes 1 = .ok (.getfield 77, 3) := by decide +kernel
theorem dX9_scenes_4 : decode cX9_scenes 4 = .ok (.invokevirtual 256, 3) := by decide +kernel
theorem dX9_scenes_7 : decode cX9_scenes 7 = .ok (.ireturn, 1) := by decide +kernel
set_option maxHeartbeats 1000000 in
set_option maxRecDepth 100000 in
theorem bk_lc (l : Launch) (D : va_G) (z : Nat → Nat) (cB cI_ cO : ClassId) (L0 : List Nat) (g0 : hG) (pr bk lf bop cf nx bn bs : Nat) (y7 y9 y10 : Int32) (cn M : Nat) (fc : Nat → Int32) (h_bk : ho L0 g0 bk 21 (.inr (1, [.ref pr, .ref lf, .ref bop, .int (nI bn), .int (nI bs), .ref cf, .ref nx, .int y7, .int (nI cn), .int y9, .int y10]))) (h_cf : ho L0 g0 cf 23 (.inl (cI_, M, .inl fc))) (hcn2 : cn ≤ 8000) (hM : 0 < M) (hM2 : M ≤ 60000) : eIs l D yX0_leastCost cX0_leastCost 1 (some .int) 0 0 0 0 [.ref bk] z cB cI_ cO L0 g0 (fun r => ((cn = 0 ∧ r = -1) ∨ (0 < cn ∧ r = fc 0)) ∧ True) := by
  refine o_si (by decide) (Nat.le_of_ble_eq_true rfl) ?_
  intro p e s m below meth c A ls hf hr hlocks hin hK hP hD hS hA hZ hN hl
  obtain ⟨hx, hb, hml, hown, hts⟩ := id hf
  have hl : lv_has ls 1 [(0, .ref bk)] := hl
  refine lv_aload_n hx hb dX0_leastCost_0 rfl (lv_at hl 0 rfl) ?_
  refine o_get (D := D) (ci := 1) (v := .int (nI cn)) (C := RX0) (T := TX0) (N := 11) hx hb hts inX0 hown hK hP h_bk rfl 8 (by decide) (hts _ k_356) (fun _ h9 => h9) rfl dX0_leastCost_1 ?_
  refine lv_if_ne (tgt := 11) hx hb dX0_leastCost_4 (by decide) (fun c_1 => ?_) (fun c_1 => ?_)
  · have c_1 := q_nen (a := cn) (b := 0) (by omega) (by omega) c_1
    refine lv_aload_n hx hb dX0_leastCost_11 rfl (lv_at hl 0 rfl) ?_
    refine o_get (D := D) (ci := 1) (v := .ref cf) (C := RX0) (T := TX0) (N := 11) hx hb hts inX0 hown hK hP h_bk rfl 5 (by decide) (hts _ k_353) (fun _ h9 => h9) rfl dX0_leastCost_12 ?_
    refine lv_iconst (v := 0) hx hb dX0_leastCost_15 (by decide) ?_
    refine o_ild (X := 0) hx hb hK hP h_cf (by omega) (by omega) dX0_leastCost_16 ?_
    exact o_ri hf hr rfl hlocks hK hP hD hS (show 0 ≤ 0 by omega) (show 0 ≤ 0 by omega) ⟨⟨Or.inr ⟨by omega, rfl⟩, trivial⟩, rfl, rfl⟩ dX0_leastCost_17
  · have c_1 := q_eqn (a := cn) (b := 0) (by omega) (by omega) c_1
    refine lv_iconst (v := (-1)) hx hb dX0_leastCost_7 (by decide) ?_
    refine lv_goto (tgt := 17) hx hb dX0_leastCost_8 (by decide) ?_
    exact o_ri hf hr rfl hlocks hK hP hD hS (show 0 ≤ 0 by omega) (show 0 ≤ 0 by omega) ⟨⟨Or.inl ⟨by omega, rfl⟩, trivial⟩, rfl, rfl⟩ dX0_leastCost_17
set_option maxHeartbeats 1000000 in
set_option maxRecDepth 100000 in
theorem d_costU (l : Launch) (D : va_G) (z : Nat → Nat) (cB cI_ cO : ClassId) (L0 : List Nat) (g0 : hG) (dk tp rd els reo nob bk gl sl mo : Nat) (pr pcs spr nwh cp : Nat) (pa : List Nat) (ea : Nat → Nat) (P : List Q4) (ne : Nat) (EE : Nat → E5) (lf : Nat) (x1 x2 x3 x4 x5 x6 v11 : Int32) (h_dk : ho L0 g0 dk 1 (.inr (10, [.ref tp, .ref rd, .ref els, .ref reo, .ref nob, .ref pr, .ref bk, .ref gl, .ref sl, .int (nI mo), .int 0, .int v11]))) (h_pr : ho L0 g0 pr 13 (.inr (7, [.ref pcs, .ref spr, .ref nwh]))) (h_pcs : alR cO (z 0) 14 15 L0 g0 pcs cp pa) (h_pc : pcR L0 g0 ea pa P) (h_es : esR cB cI_ L0 g0 ea ne EE) (h_lf : ho L0 g0 lf 20 (.inr (4, [.ref pr, .int x1, .int x2, .int x3, .int x4, .int x5, .int x6]))) (h_bs : bkS cI_ L0 g0 pr bk lf EE P pa.length mo) (hpa60 : pa.length ≤ 60) (hpa : pa.length ≤ 20000) (hQ : pq_ok ne EE P) (hU : pu_ok EE P) (hSb : ∀ i, i ≤ pa.length → qS P i ≤ 8000) (hmo1 : 10 ≤ mo) (hmo : mo ≤ 40) : eI l D yX9_cost cX9_cost 1 (some .int) 11 323 2 (4 * qS P pa.length) [.ref dk] z cB cI_ cO L0 g0 (fun r L g => r = bk_least pa.length (bk_all (qK EE P) (qF P) (qT P) (qR EE P) pa.length mo pa.length (fun _ => none)) ∧ ∃ (y9 y10 u1 u2 u3 u4 u5 u6 : Int32) (C : Nat → Option Q4) (cn : Nat), fr [20, 21, 22, 23, 24] L0 g0 L g ∧ bkK cI_ L g pr bk lf EE P pa.length mo y9 y10 C cn ∧ ho L g lf 20 (.inr (4, [.ref pr, .int u1, .int u2, .int u3, .int u4, .int u5, .int u6]))) := by
  refine o_si (by decide) (Nat.le_of_ble_eq_true rfl) ?_
  intro p e s m below meth c A ls hf hr hlocks hin hK hP hD hS hA hZ hN hl
  obtain ⟨hx, hb, hml, hown, hts⟩ := id hf
  have hl : lv_has ls 1 [(0, .ref dk)] := hl
  have hfr : fr [20, 21, 22, 23, 24] L0 g0 L0 g0 := fr.rf
  refine lv_aload_n hx hb dX9_cost_0 rfl (lv_at hl 0 rfl) ?_
  refine o_get (D := D) (ci := 10) (v := .int 0) (C := RX9) (T := TX9) (N := 12) hx hb hts inX9 hown hK hP h_dk rfl 10 (by decide) (hts _ k_439) (fun _ h9 => h9) rfl dX9_cost_1 ?_
  refine lv_if_eq (tgt := 9) hx hb dX9_cost_4 (by decide) (fun _ => ?_) (fun hno => absurd hno (by decide))
  refine lv_aload_n hx hb dX9_cost_9 rfl (lv_at hl 0 rfl) ?_
  refine o_get (D := D) (ci := 10) (v := .ref bk) (C := RX9) (T := TX9) (N := 12) hx hb hts inX9 hown hK hP h_dk rfl 6 (by decide) (hts _ k_435) (fun _ h9 => h9) rfl dX9_cost_10 ?_
  refine lv_aload_n hx hb dX9_cost_13 rfl (lv_at hl 0 rfl) ?_
  refine o_get (D := D) (ci := 10) (v := .int (nI mo)) (C := RX9) (T := TX9) (N := 12) hx hb hts inX9 hown hK hP h_dk rfl 9 (by decide) (hts _ k_438) (fun _ h9 => h9) rfl dX9_cost_14 ?_
  obtain ⟨mc9, d9, h_al9⟩ := h_bs.al
  refine o_cv (k := 0 + 2) (n := 0 + (4 * qS P pa.length)) hK hP hD hS hA (o_rV (As := [.int (nI mo)]) (rest := []) hf (bk_ref _ _ _ _ _ _ _ _ pr pcs spr nwh cp pa ea P ne EE bk lf x1 x2 x3 x4 x5 x6 mo h_pr h_pcs h_pc h_es h_lf h_bs hpa60 hpa hQ hU hSb hmo1 hmo _) k_765 k_762 k_763 k_764 k_95 (nA := 1) (by decide +kernel) ⟨Nat.le_of_ble_eq_true rfl, Nat.le_of_ble_eq_true rfl⟩ hK hP hD hS hA hZ hN h_al9 rfl rfl rfl hl.1 rfl (Nat.le_of_ble_eq_true rfl) dX9_cost_17 ⟨(show 0 + 2 ≤ 2 by omega), (show 0 + (4 * qS P pa.length) ≤ 4 * qS P pa.length by omega)⟩) (by omega) (by omega) (fun L g H locs hw hP hD hS => ?_)
  obtain ⟨y9, y10, u1, u2, u3, u4, u5, u6, C, cn, hf9, hbk, h_lf⟩ := hw
  have h_dk := h_dk.fr hf9 (by decide)
  have h_pr := h_pr.fr hf9 (by decide)
  have hfr := hfr.tr hf9
  have h_pcs := h_pcs.frd hf9 (by decide)
  have h_pc := h_pc.frd hf9 (by decide)
  have h_es := h_es.frd hf9 (by decide)
  obtain ⟨bop, cf, nx, M, fb, fc, fn, h_bk, h_bop, h_cf, h_nx, hFb, hMs, hM, eC, ecn, hC, hcl⟩ := id hbk
  refine lv_aload_n hx hb dX9_cost_20 rfl (lv_at hl 0 rfl) ?_
  refine o_get (D := D) (ci := 10) (v := .ref bk) (C := RX9) (T := TX9) (N := 12) hx hb hts inX9 hown hK hP h_dk rfl 6 (by decide) (hts _ k_435) (fun _ h9 => h9) rfl dX9_cost_21 ?_
  refine o_cis (k := 0 + 2) (n := 0 + (4 * qS P pa.length)) hK hP hD hS hA (o_rV (As := []) (rest := []) hf (bk_lc _ _ _ _ _ _ _ _ pr bk lf bop cf nx pa.length (qS P pa.length) 1 y9 y10 cn M fc h_bk h_cf (by rw [ecn]; exact bk_pg_le _ _ _) (by omega) hM _) k_870 k_867 k_868 k_869 k_95 (nA := 0) (by decide +kernel) ⟨Nat.le_of_ble_eq_true rfl, Nat.le_of_ble_eq_true rfl⟩ hK hP hD hS hA hZ hN h_bk rfl rfl rfl hl.1 rfl (Nat.le_of_ble_eq_true rfl) dX9_cost_24 ⟨(show 0 + 2 + 0 ≤ 2 by omega), (show 0 + (4 * qS P pa.length) + 0 ≤ 4 * qS P pa.length by omega)⟩) (Nat.le_refl _) (Nat.le_refl _) (fun r H locs hw hP hD hS => ?_)
  obtain ⟨hlc, _⟩ := hw
  have hlc := lc_eq (rs_hz hQ h_pc.1) ecn hC hlc
  exact o_ri hf hr rfl hlocks hK hP hD hS (show 0 + 2 ≤ 2 by omega) (show 0 + (4 * qS P pa.length) ≤ 4 * qS P pa.length by omega) ⟨hlc.trans (by rw [eC]), y9, y10, u1, u2, u3, u4, u5, u6, C, cn, hfr, hbk, h_lf⟩ dX9_cost_27
set_option maxHeartbeats 1000000 in
set_option maxRecDepth 100000 in
theorem d_scenes (l : Launch) (D : va_G) (z : Nat → Nat) (cB cI_ cO : ClassId) (L0 : List Nat) (g0 : hG) (dk tp rd els reo nob bk gl mo lk gs : Nat) (pr pcs spr nwh cp : Nat) (pa : List Nat) (ea : Nat → Nat) (P : List Q4) (ne : Nat) (EE : Nat → E5) (sl : Nat) (h_dk : ho L0 g0 dk 1 (.inr (10, [.ref tp, .ref rd, .ref els, .ref reo, .ref nob, .ref pr, .ref bk, .ref gl, .ref sl, .int (nI mo), .int (nI lk), .int (nI gs)]))) (h_pr : ho L0 g0 pr 13 (.inr (7, [.ref pcs, .ref spr, .ref nwh]))) (h_pcs : alR cO (z 0) 14 15 L0 g0 pcs cp pa) (h_pc : pcR L0 g0 ea pa P) (h_es : esR cB cI_ L0 g0 ea ne EE) (h_sl : ho L0 g0 sl 29 (.inr (8, [.ref pr]))) (hpa : pa.length ≤ 20000) (hQ : pq_ok ne EE P) : eIs l D yX9_scenes cX9_scenes 1 (some .int) 9 222 0 0 [.ref dk] z cB cI_ cO L0 g0 (fun r => r = nI (pcnt (bgq EE P 0) pa.length)) := by
  refine o_si (by decide) (Nat.le_of_ble_eq_true rfl) ?_
  intro p e s m below meth c A ls hf hr hlocks hin hK hP hD hS hA hZ hN hl
  obtain ⟨hx, hb, hml, hown, hts⟩ := id hf
  have hl : lv_has ls 1 [(0, .ref dk)] := hl
  refine lv_aload_n hx hb dX9_scenes_0 rfl (lv_at hl 0 rfl) ?_
  refine o_get (D := D) (ci := 10) (v := .ref sl) (C := RX9) (T := TX9) (N := 12) hx hb hts inX9 hown hK hP h_dk rfl 8 (by decide) (hts _ k_437) (fun _ h9 => h9) rfl dX9_scenes_1 ?_
  refine o_cis (k := 0) (n := 0) hK hP hD hS hA (o_rV (As := []) (rest := []) hf (sl_count _ _ _ _ _ _ _ _ pr pcs spr nwh cp pa ea P ne EE sl h_pr h_pcs h_pc h_es h_sl hpa hQ _) k_1045 k_1042 k_1043 k_1044 k_97 (nA := 0) (by decide +kernel) ⟨Nat.le_of_ble_eq_true rfl, Nat.le_of_ble_eq_true rfl⟩ hK hP hD hS hA hZ hN h_sl rfl rfl rfl hl.1 rfl (Nat.le_of_ble_eq_true rfl) dX9_scenes_4 ⟨(show 0 + 0 ≤ 0 by omega), (show 0 + 0 ≤ 0 by omega)⟩) (Nat.le_refl _) (Nat.le_refl _) (fun r H locs hw hP hD hS => ?_)
  obtain rfl := hw
  exact o_ri hf hr rfl hlocks hK hP hD hS (show 0 ≤ 0 by omega) (show 0 ≤ 0 by omega) ⟨rfl, rfl, rfl⟩ dX9_scenes_7
