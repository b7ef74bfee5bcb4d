theorem dX9_lock_10 : decode cX9_lock 10 = .ok (.aload_n 0, 1) := by decide +kernel
theorem dX9_lock_11 : decode cX9_lock 11 = .ok (.getfield 63, 3) := by decide +kernel
theorem dX9_lock_14 : decode cX9_lock 14 = .ok (.aload_n 0, 1) := by decide +kernel
theorem dX9_lock_15 : decode cX9_lock 15 = .ok (.getfield 81, 3) := by decide +kernel
theorem dX9_lock_18 : decode cX9_lock 18 = .ok (.invokevirtual 153, 3) := by decide +kernel
theorem dX9_lock_21 : decode cX9_lock 21 = .ok (.aload_n 0, 1) := by decide +kernel
theorem dX9_lock_22 : decode cX9_lock 22 = .ok (.getfield 63, 3) := by decide +kernel
theorem dX9_lock_25 : decode cX9_lock 25 = .ok (.invokevirtual 156, 3) := by decide +kernel
theorem dX9_lock_28 : decode cX9_lock 28 = .ok (.ifCond .ne 6, 3) := by decide +kernel
theorem dX9_lock_34 : decode cX9_lock 34 = .ok (.aload_n 0, 1) := by decide +kernel
theorem dX9_lock_35 : decode cX9_lock 35 = .ok (.getfield 49, 3) := by decide +kernel
theorem dX9_lock_38 : decode cX9_lock 38 = .ok (.invokevirtual 187, 3) := by decide +kernel
theorem dX9_lock_41 : decode cX9_lock 41 = .ok (.iconst 0, 1) := by decide +kernel
theorem dX9_lock_42 : decode cX9_lock 42 = .ok (.istore_n 1, 1) := by decide +kernel
theorem dX9_lock_75 : decode cX9_lock 75 = .ok (.aload_n 0, 1) := by decide +kernel
theorem dX9_lock_76 : decode cX9_lock 76 = .ok (.aload_n 0, 1) := by decide +kernel
theorem dX9_lock_77 : decode cX9_lock 77 = .ok (.getfield 63, 3) := by decide +kernel
theorem dX9_lock_80 : decode cX9_lock 80 = .ok (.invokevirtual 156, 3) := by decide +kernel
theorem dX9_lock_83 : decode cX9_lock 83 = .ok (.putfield 150, 3) := by decide +kernel
theorem dX9_lock_86 : decode cX9_lock 86 = .ok (.aload_n 0, 1) := by decide +kernel
theorem dX9_lock_87 : decode cX9_lock 87 = .ok (.iconst 1, 1) := by decide +kernel
theorem dX9_lock_88 : decode cX9_lock 88 = .ok (.putfield 116, 3) := by decide +kernel
theorem dX9_lock_91 : decode cX9_lock 91 = .ok (.aload_n 0, 1) := by decide +kernel
theorem dX9_lock_92 : decode cX9_lock 92 = .ok (.getfield 150, 3) := by decide +kernel
theorem dX9_lock_95 : decode cX9_lock 95 = .ok (.ireturn, 1) := by decide +kernel
theorem dX9_lock_31 : decode cX9_lock 31 = .ok (.bipush (-3), 2) := by decide +kernel
theorem dX9_lock_33 : decode cX9_lock 33 = .ok (.ireturn, 1) := by decide +kernel
set_option maxHeartbeats 4000000 in
set_option maxRecDepth 100000 in
theorem d_lockU (l : Launch) (D : va_G) (z : Nat → Nat) (cB cI_ cO : ClassId) (L0 : List Nat) (g0 : hG) (dk tp rd els reo nob pr bk gl sl mo pcs spr nwh cp cs cap lf B SN : Nat) (x1 x2 x3 x4 x5 x6 v11 : Int32) (pa sa xs : List Nat) (P : List Q4) (Es : List E5) (h_dk : ho L0 g0 dk 1 (.inr (10, [.ref tp, .ref rd, .ref els, .ref reo, .ref nob, .ref pr, .ref bk, .ref gl, .ref sl, .int (nI mo), .int 0, .int v11]))) (h_pr : ho L0 g0 pr 13 (.inr (7, [.ref pcs, .ref spr, .ref nwh]))) (h_pcs : alR cO (z 0) 14 15 L0 g0 pcs cp pa) (h_spr : alR cO (z 0) 16 17 L0 g0 spr cs sa) (h_pc : pcR L0 g0 (fun e => xs.getD e 0) pa P) (h_sp : spR L0 g0 sa) (h_els : alR cO (z 0) 5 6 L0 g0 els cap xs) (h_es : elsR cB cI_ L0 g0 xs Es) (h_lf : ho L0 g0 lf 20 (.inr (4, [.ref pr, .int x1, .int x2, .int x3, .int x4, .int x5, .int x6]))) (h_bs : bkS cI_ L0 g0 pr bk lf (fun e => Es.getD e dE) P pa.length mo) (hxl : xs.length ≤ 60) (hplx : pa.length = xs.length) (hQ : pq_ok xs.length (fun e => Es.getD e dE) P) (hU : pu_ok (fun e => Es.getD e dE) P) (hPU : ∀ i, i < pa.length → (P.getD i d4).2.1 = 0 ∧ (P.getD i d4).2.2.1 = eRw (Es.getD i dE)) (hSb : ∀ i, i ≤ pa.length → qS P i ≤ 8000) (hmo1 : 10 ≤ mo) (hmo : mo ≤ 40) (hB : 100 ≤ B) (hB2 : B ≤ 60000) (hSN : SN ≤ 10000) (hcs : cs ≤ B) (hcp : cp ≤ B) (hBs2 : 3 * SN ≤ 2 * B) (hsn : pa.length + sa.length ≤ SN) (hnd0 : (pa ++ sa).Nodup) (hSNq : qS P pa.length ≤ SN) : eI l D yX9_lock cX9_lock 2 (some .int) 11 323 (2 + B / 5 + (SN + (B - cp) / 5)) (4 * qS P pa.length + 4 * B + (4 * SN + 4 * (B - cp))) [.ref dk] z cB cI_ cO L0 g0 (fun r L g => (((pgl (fun e => Es.getD e dE) P pa.length mo).length = 0 ∧ r = (-3) ∧ ∃ (y9 y10 u1 u2 u3 u4 u5 u6 : Int32) (C : Nat → Option Q4) (cn : Nat), fr [1, 14, 15, 16, 17, 18, 20, 21, 22, 23, 24] L0 g0 L g ∧ bkK cI_ L g pr bk lf (fun e => Es.getD e dE) P pa.length mo y9 y10 C cn ∧ ho L g lf 20 (.inr (4, [.ref pr, .int u1, .int u2, .int u3, .int u4, .int u5, .int u6])) ∧ ho L g dk 1 (.inr (10, [.ref tp, .ref rd, .ref els, .ref reo, .ref nob, .ref pr, .ref bk, .ref gl, .ref sl, .int (nI mo), .int 0, .int v11])) ∧ alR cO (z 0) 14 15 L g pcs cp pa ∧ alR cO (z 0) 16 17 L g spr cs sa ∧ pcR L g (fun e => xs.getD e 0) pa P ∧ spR L g sa) ∨ (0 < (pgl (fun e => Es.getD e dE) P pa.length mo).length ∧ r = nI (pgl (fun e => Es.getD e dE) P pa.length mo).length ∧ ∃ (qa2 sa2 : List Nat) (cp2 cs2 : Nat) (u1 u2 u3 u4 u5 u6 : Int32), (qa2 ++ sa2).Nodup ∧ (qa2.length + sa2.length ≤ SN ∧ cp2 ≤ B ∧ cs2 ≤ B ∧ qa2.length ≤ qS P pa.length) ∧ fr [1, 14, 15, 16, 17, 18, 20, 21, 22, 23, 24] L0 g0 L g ∧ ho L g dk 1 (.inr (10, [.ref tp, .ref rd, .ref els, .ref reo, .ref nob, .ref pr, .ref bk, .ref gl, .ref sl, .int (nI mo), .int 1, .int (nI ((pgl (fun e => Es.getD e dE) P pa.length mo).length))])) ∧ alR cO (z 0) 14 15 L g pcs cp2 qa2 ∧ alR cO (z 0) 16 17 L g spr cs2 sa2 ∧ pcR L g (fun e => xs.getD e 0) qa2 (lk_cls (qF P) (qT P) (pg_B pa.length (pgl (fun e => Es.getD e dE) P pa.length mo)) (pg_R pa.length (pgl (fun e => Es.getD e dE) P pa.length mo)) (pgl (fun e => Es.getD e dE) P pa.length mo).length) ∧ spR L g sa2 ∧ ho L g lf 20 (.inr (4, [.ref pr, .int u1, .int u2, .int u3, .int u4, .int u5, .int u6])) ∧ bkZ cI_ L g pr bk lf))) := by
  refine o_si (by decide) (Nat.le_of_ble_eq_true rfl) ?_
  intro p e s m below meth c A ls hf hr hlocks hin hK hP hD hS hA hZ hN hl
  obtain ⟨hx, hb, hml, hown, hts⟩ := id hf
  have hl : lv_has ls 2 [(0, .ref dk)] := hl
  have hpa60 : pa.length ≤ 60 := by omega
  have hpa : pa.length ≤ 20000 := by omega
  have hfr : fr [1, 14, 15, 16, 17, 18, 20, 21, 22, 23, 24] L0 g0 L0 g0 := fr.rf
  refine lv_aload_n hx hb dX9_lock_0 rfl (lv_at hl 0 rfl) ?_
  refine o_get (D := D) (ci := 10) (v := .int 0) (C := RX9) (T := TX9) (N := 12) hx hb hts inX9 hown hK hP h_dk rfl 10 (by decide) (hts _ k_439) (fun _ h9 => h9) rfl dX9_lock_1 ?_
  refine lv_if_eq (tgt := 10) hx hb dX9_lock_4 (by decide) (fun _ => ?_) (fun hno => absurd hno (by decide))
  refine lv_aload_n hx hb dX9_lock_10 rfl (lv_at hl 0 rfl) ?_
  refine o_get (D := D) (ci := 10) (v := .ref bk) (C := RX9) (T := TX9) (N := 12) hx hb hts inX9 hown hK hP h_dk rfl 6 (by decide) (hts _ k_435) (fun _ h9 => h9) rfl dX9_lock_11 ?_
  refine lv_aload_n hx hb dX9_lock_14 rfl (lv_at hl 0 rfl) ?_
  refine o_get (D := D) (ci := 10) (v := .int (nI mo)) (C := RX9) (T := TX9) (N := 12) hx hb hts inX9 hown hK hP h_dk rfl 9 (by decide) (hts _ k_438) (fun _ h9 => h9) rfl dX9_lock_15 ?_
  obtain ⟨mc9, d9, h_al9⟩ := h_bs.al
  refine o_cv (k := 0 + 2) (n := 0 + (4 * qS P pa.length)) hK hP hD hS hA (o_rV (As := [.int (nI mo)]) (rest := []) hf (bk_ref _ _ _ _ _ _ _ _ pr pcs spr nwh cp pa (fun e => xs.getD e 0) P xs.length (fun e => Es.getD e dE) bk lf x1 x2 x3 x4 x5 x6 mo h_pr h_pcs h_pc h_es.2.2 h_lf h_bs hpa60 hpa hQ hU hSb hmo1 hmo _) k_765 k_762 k_763 k_764 k_95 (nA := 1) (by decide +kernel) ⟨Nat.le_of_ble_eq_true rfl, Nat.le_of_ble_eq_true rfl⟩ hK hP hD hS hA hZ hN h_al9 rfl rfl rfl hl.1 rfl (Nat.le_of_ble_eq_true rfl) dX9_lock_18 ⟨(show 0 + 2 ≤ 2 + B / 5 + (SN + (B - cp) / 5) by omega), (show 0 + (4 * qS P pa.length) ≤ 4 * qS P pa.length + 4 * B + (4 * SN + 4 * (B - cp)) by omega)⟩) (by omega) (by omega) (fun L g H locs hw hP hD hS => ?_)
  obtain ⟨y9, y10, u1, u2, u3, u4, u5, u6, C, cn, hf9, hbk, h_lf⟩ := hw
  have h_dk := h_dk.fr hf9 (by decide)
  have h_pr := h_pr.fr hf9 (by decide)
  have hfr := hfr.tm hf9 (by decide)
  have h_pcs := h_pcs.frd hf9 (by decide)
  have h_spr := h_spr.frd hf9 (by decide)
  have h_pc := h_pc.frd hf9 (by decide)
  have h_sp := h_sp.frd hf9 (by decide)
  have h_els := h_els.frd hf9 (by decide)
  have h_es := h_es.frd hf9 (by decide)
  obtain ⟨bop, cf, nx, M, fb, fc, fn, h_bk, h_bop, h_cf, h_nx, hFb, hMs, hM, eC, ecn, hC, hcl⟩ := id hbk
  have hcn : cn ≤ 8000 := by rw [ecn]; exact bk_pg_le _ _ _
  have hplu := h_pc.1
  have hSn9 := hSb pa.length (Nat.le_refl _)
  have epg : pgl (fun e => Es.getD e dE) P pa.length mo = (bk_pg (qF P) (qT P) pa.length C 8000 0 0) := by unfold pgl; rw [eC]
  refine lv_aload_n hx hb dX9_lock_21 rfl (lv_at hl 0 rfl) ?_
  refine o_get (D := D) (ci := 10) (v := .ref bk) (C := RX9) (T := TX9) (N := 12) hx hb hts inX9 hown hK hP h_dk rfl 6 (by decide) (hts _ k_435) (fun _ h9 => h9) rfl dX9_lock_22 ?_
  refine o_cis (k := 0 + 2) (n := 0 + (4 * qS P pa.length)) hK hP hD hS hA (o_rV (As := []) (rest := []) hf (bk_pc _ _ _ _ _ _ _ _ pr bk lf bop cf nx pa.length (qS P pa.length) 1 y9 y10 cn h_bk _) k_862 k_859 k_860 k_861 k_95 (nA := 0) (by decide +kernel) ⟨Nat.le_of_ble_eq_true rfl, Nat.le_of_ble_eq_true rfl⟩ hK hP hD hS hA hZ hN h_bk rfl rfl rfl hl.1 rfl (Nat.le_of_ble_eq_true rfl) dX9_lock_25 ⟨(show 0 + 2 + 0 ≤ 2 + B / 5 + (SN + (B - cp) / 5) by omega), (show 0 + (4 * qS P pa.length) + 0 ≤ 4 * qS P pa.length + 4 * B + (4 * SN + 4 * (B - cp)) by omega)⟩) (Nat.le_refl _) (Nat.le_refl _) (fun r H locs hw hP hD hS => ?_)
  obtain rfl := hw
  refine lv_if_ne (tgt := 34) hx hb dX9_lock_28 (by decide) (fun c_1 => ?_) (fun c_1 => ?_)
  · have c_1 := q_nen (a := cn) (b := 0) (by omega) (by omega) c_1
    refine lv_aload_n hx hb dX9_lock_34 rfl (lv_at hl 0 rfl) ?_
    refine o_get (D := D) (ci := 10) (v := .ref pr) (C := RX9) (T := TX9) (N := 12) hx hb hts inX9 hown hK hP h_dk rfl 5 (by decide) (hts _ k_434) (fun _ h9 => h9) rfl dX9_lock_35 ?_
    refine o_cv (k := 0 + 2 + (B / 5)) (n := 0 + (4 * qS P pa.length) + (4 * B)) hK hP hD hS hA (o_rV (As := []) (rest := []) hf (p_clear _ _ _ _ _ _ _ _ pr pcs spr nwh cp cs pa sa (fun e => xs.getD e 0) P B h_pr h_pcs h_spr h_pc h_sp hpa (by omega) hB2 hcs (by omega) _) k_670 k_667 k_668 k_669 k_92 (nA := 0) (by decide +kernel) ⟨Nat.le_of_ble_eq_true rfl, Nat.le_of_ble_eq_true rfl⟩ hK hP hD hS hA hZ hN h_pr rfl rfl rfl hl.1 rfl (Nat.le_of_ble_eq_true rfl) dX9_lock_38 ⟨(show 0 + 2 + (B / 5) ≤ 2 + B / 5 + (SN + (B - cp) / 5) by omega), (show 0 + (4 * qS P pa.length) + (4 * B) ≤ 4 * qS P pa.length + 4 * B + (4 * SN + 4 * (B - cp)) by omega)⟩) (by omega) (by omega) (fun L g H locs hw hP hD hS => ?_)
    obtain ⟨s2, c2, es2, hc2, hf9, h_pcs, h_spr, h_sp9⟩ := hw
    have h_dk := h_dk.fr hf9 (by decide)
    have h_pr := h_pr.fr hf9 (by decide)
    have h_bk := h_bk.fr hf9 (by decide)
    have h_bop := h_bop.fr hf9 (by decide)
    have h_cf := h_cf.fr hf9 (by decide)
    have h_nx := h_nx.fr hf9 (by decide)
    have h_lf := h_lf.fr hf9 (by decide)
    have hfr := hfr.tm hf9 (by decide)
    have h_pc := h_pc.frd hf9 (by decide)
    have h_sp := h_sp.frd hf9 (by decide)
    have h_els := h_els.frd hf9 (by decide)
    have h_es := h_es.frd hf9 (by decide)
    have h_sp := h_sp9
    have h_pc : pcR L g (fun e => xs.getD e 0) [] [] := ⟨rfl, fun i9 h9 => absurd h9 (Nat.not_lt_zero i9)⟩
    refine lv_iconst (v := 0) hx hb dX9_lock_41 (by decide) ?_
    refine lv_istore_n (lv' := [(1, .int 0), (0, .ref dk)]) hx hb dX9_lock_42 rfl hl (by decide) rfl (fun ls hl => ?_)
    have hz9 := rs_hz hQ hplu
    have hne0 : (bk_pg (qF P) (qT P) pa.length C 8000 0 0) ≠ [] := fun z9 => by have h9 := congrArg List.length z9; rw [← ecn] at h9; have h9 : cn = 0 := h9; omega
    obtain ⟨f8, y8, ef8, hp8, hy8, _⟩ := bk_pg_c hne0
    have hat0 : pg_at (qF P) (qT P) pa.length C 0 0 := ⟨Nat.zero_le _, fun _ => rfl, fun h9 => ⟨hz9 0 h9, y8, hy8⟩⟩
    have hnext : ∀ pg pq rr t y, pg < cn → (bk_pg (qF P) (qT P) pa.length C 8000 0 0).getD pg (0, 0, 0) = (pq, rr, t) → C (qS P pq + rr) = some y → (pg_B pa.length (bk_pg (qF P) (qT P) pa.length C 8000 0 0)) pg = pq ∧ (pg_R pa.length (bk_pg (qF P) (qT P) pa.length C 8000 0 0)) pg = rr ∧ (pg_B pa.length (bk_pg (qF P) (qT P) pa.length C 8000 0 0)) (pg + 1) = y.2.1 ∧ (pg_R pa.length (bk_pg (qF P) (qT P) pa.length C 8000 0 0)) (pg + 1) = y.2.2.1 := fun pg pq rr t y h1 h2 h3 => pg_next hz9 (cf_bk hC) hcl 8000 0 0 pg hat0 (by show qS P pa.length ≤ qS P 0 + 0 + 8000; omega) (by rw [← ecn]; exact h1) pq rr t y h2 h3
    have hnd1 : ([] ++ s2).Nodup := by rw [es2]; exact nodup_cm hnd0
    have hs2 : s2.length = sa.length + pa.length := by rw [es2, List.length_append]
    refine lk_loop (L0 := _) (g0 := _) (B := B) (SN := SN) (C := C) (Bp := (pg_B pa.length (bk_pg (qF P) (qT P) pa.length C 8000 0 0))) (Br := (pg_R pa.length (bk_pg (qF P) (qT P) pa.length C 8000 0 0))) (M := M) (fc := fc) (cE := 2 + B / 5 + (SN + (B - cp) / 5)) (sE := 4 * qS P pa.length + 4 * B + (4 * SN + 4 * (B - cp))) hxl hplx (by omega) hplu hQ hFb hSb hPU hz9 hSN hB hB2 hBs2 hSNq hMs hM hC hcl ecn hcn hnext (Nat.le_refl _) (Nat.le_refl _) (Nat.le_of_ble_eq_true rfl) (Nat.le_of_ble_eq_true rfl) hA hf hK hZ hN cn 0 [] s2 [] cp _ _ _ _ _ _ _ _ ls (by omega) rfl hnd1 (by show 0 + s2.length ≤ SN; omega) hcp (fun _ => Nat.zero_le _) (Nat.zero_le _) (by show 0 + 2 + B / 5 + ((SN - (0 + s2.length)) + (B - cp) / 5) ≤ _; omega) (by show 0 + 4 * qS P pa.length + 4 * B + (4 * (SN - (0 + s2.length)) + 4 * (B - cp)) ≤ _; omega) h_dk h_pr h_pcs h_spr h_pc h_sp h_els h_es h_bk h_bop h_nx fr.rf hP hD hS (lv_sub hl (l' := [(1, .int 0), (0, .ref dk)]) [0, 1] rfl) (fun qa2 sa2 QP2 cp2 y9 y10 L g H locs ls b1 b2 b3 h_dk h_pr h_pcs h_spr h_pc h_sp h_els h_es h_bk h_bop h_nx hf9 hP hD hS hl => ?_)
    have h_lf := h_lf.fr hf9 (by decide)
    have h_cf := h_cf.fr hf9 (by decide)
    have hfr := hfr.tm hf9 (by decide)
    refine lv_aload_n hx hb dX9_lock_75 rfl (lv_at hl 0 rfl) ?_
    refine lv_aload_n hx hb dX9_lock_76 rfl (lv_at hl 0 rfl) ?_
    refine o_get (D := D) (ci := 10) (v := .ref bk) (C := RX9) (T := TX9) (N := 12) hx hb hts inX9 hown hK hP h_dk rfl 6 (by decide) (hts _ k_435) (fun _ h9 => h9) rfl dX9_lock_77 ?_
    refine o_cis (k := 2 + B / 5 + (SN + (B - cp) / 5)) (n := 4 * qS P pa.length + 4 * B + (4 * SN + 4 * (B - cp))) hK hP hD hS hA (o_rV (As := []) (rest := [.ref dk]) hf (bk_pc _ _ _ _ _ _ _ _ pr bk lf bop cf nx pa.length (qS P pa.length) 1 y9 y10 cn h_bk _) k_862 k_859 k_860 k_861 k_95 (nA := 0) (by decide +kernel) ⟨Nat.le_of_ble_eq_true rfl, Nat.le_of_ble_eq_true rfl⟩ hK hP hD hS hA hZ hN h_bk rfl rfl rfl hl.1 rfl (Nat.le_of_ble_eq_true rfl) dX9_lock_80 ⟨(show 2 + B / 5 + (SN + (B - cp) / 5) + 0 ≤ 2 + B / 5 + (SN + (B - cp) / 5) by omega), (show 4 * qS P pa.length + 4 * B + (4 * SN + 4 * (B - cp)) + 0 ≤ 4 * qS P pa.length + 4 * B + (4 * SN + 4 * (B - cp)) by omega)⟩) (Nat.le_refl _) (Nat.le_refl _) (fun r H locs hw hP hD hS => ?_)
    obtain rfl := hw
    refine o_put (D := D) (ci := 10) (v := .int (nI cn)) (ty := .int) (C := RX9) (T := TX9) (N := 12) (fs1 := [.ref tp, .ref rd, .ref els, .ref reo, .ref nob, .ref pr, .ref bk, .ref gl, .ref sl, .int (nI mo), .int 0, .int (nI cn)]) hx hb hts inX9 tyX9 tyX9_ok nmX9 hown hK hP hD hS h_dk rfl 11 (by decide) (hts _ k_440) (fun _ h9 => h9) rfl (by decide +kernel) rfl rfl (Nat.le_of_ble_eq_true rfl) rfl dX9_lock_83 (fun g H locs h_dk hu hP hD hS => ?_)
    have h_pr := h_pr.up hu (by decide)
    have h_bk := h_bk.up hu (by decide)
    have h_bop := h_bop.up hu (by decide)
    have h_cf := h_cf.up hu (by decide)
    have h_nx := h_nx.up hu (by decide)
    have h_lf := h_lf.up hu (by decide)
    have hfr := hfr.up hu (by decide)
    have h_pc := h_pc.frd hu.fr (by decide)
    have h_sp := h_sp.frd hu.fr (by decide)
    have h_els := h_els.frd hu.fr (by decide)
    have h_es := h_es.frd hu.fr (by decide)
    have h_pcs := h_pcs.frd hu.fr (by decide)
    have h_spr := h_spr.frd hu.fr (by decide)
    refine lv_aload_n hx hb dX9_lock_86 rfl (lv_at hl 0 rfl) ?_
    refine lv_iconst (v := 1) hx hb dX9_lock_87 (by decide) ?_
    refine o_put (D := D) (ci := 10) (v := .int 1) (ty := .boolean) (C := RX9) (T := TX9) (N := 12) (fs1 := [.ref tp, .ref rd, .ref els, .ref reo, .ref nob, .ref pr, .ref bk, .ref gl, .ref sl, .int (nI mo), .int 1, .int (nI cn)]) hx hb hts inX9 tyX9 tyX9_ok nmX9 hown hK hP hD hS h_dk rfl 10 (by decide) (hts _ k_439) (fun _ h9 => h9) rfl (by decide +kernel) rfl rfl (Nat.le_of_ble_eq_true rfl) rfl dX9_lock_88 (fun g H locs h_dk hu hP hD hS => ?_)
    have h_pr := h_pr.up hu (by decide)
    have h_bk := h_bk.up hu (by decide)
    have h_bop := h_bop.up hu (by decide)
    have h_cf := h_cf.up hu (by decide)
    have h_nx := h_nx.up hu (by decide)
    have h_lf := h_lf.up hu (by decide)
    have hfr := hfr.up hu (by decide)
    have h_pc := h_pc.frd hu.fr (by decide)
    have h_sp := h_sp.frd hu.fr (by decide)
    have h_els := h_els.frd hu.fr (by decide)
    have h_es := h_es.frd hu.fr (by decide)
    have h_pcs := h_pcs.frd hu.fr (by decide)
    have h_spr := h_spr.frd hu.fr (by decide)
    refine lv_aload_n hx hb dX9_lock_91 rfl (lv_at hl 0 rfl) ?_
    refine o_get (D := D) (ci := 10) (v := .int (nI cn)) (C := RX9) (T := TX9) (N := 12) hx hb hts inX9 hown hK hP h_dk rfl 11 (by decide) (hts _ k_440) (fun _ h9 => h9) rfl dX9_lock_92 ?_
    rw [b1, ecn, ← epg] at h_pc
    have ecn2 : cn = (pgl (fun e => Es.getD e dE) P pa.length mo).length := by rw [epg]; exact ecn
    exact o_ri hf hr rfl hlocks hK hP hD hS (show 2 + B / 5 + (SN + (B - cp) / 5) ≤ 2 + B / 5 + (SN + (B - cp) / 5) by omega) (show 4 * qS P pa.length + 4 * B + (4 * SN + 4 * (B - cp)) ≤ 4 * qS P pa.length + 4 * B + (4 * SN + 4 * (B - cp)) by omega) (Or.inr ⟨by omega, congrArg nI ecn2, qa2, sa2, cp2, c2, u1, u2, u3, u4, u5, u6, b2, ⟨b3.1, b3.2.1, hc2, b3.2.2⟩, hfr, (by rw [← ecn2]; exact h_dk), h_pcs, h_spr, h_pc, h_sp, h_lf, ⟨bop, cf, nx, _, _, M, _, _, _, _, fb, fc, fn, h_bk, h_bop, h_cf, h_nx, by omega, hM⟩⟩) dX9_lock_95
  · have c_1 := q_eqn (a := cn) (b := 0) (by omega) (by omega) c_1
    refine lv_bipush (v := (-3)) hx hb dX9_lock_31 (by decide) ?_
    exact o_ri hf hr rfl hlocks hK hP hD hS (show 0 + 2 ≤ 2 + B / 5 + (SN + (B - cp) / 5) by omega) (show 0 + (4 * qS P pa.length) ≤ 4 * qS P pa.length + 4 * B + (4 * SN + 4 * (B - cp)) by omega) (Or.inl ⟨by rw [epg, ← ecn]; omega, rfl, y9, y10, u1, u2, u3, u4, u5, u6, C, cn, hfr, hbk, h_lf, h_dk, h_pcs, h_spr, h_pc, h_sp⟩) dX9_lock_33
