theorem k_440 : (Cond.fieldLink RX9 150 "ScriptDesk" "groups" "I") ∈ gT := gT_i 440 (by decide +kernel) rfl
theorem k_667 : (Cond.methodLink RX9 187 yX6_clear) ∈ gT := gT_i 667 (by decide +kernel) rfl
theorem k_668 : (Cond.instanceMethod yX6_clear) ∈ gT := gT_i 668 (by decide +kernel) rfl
theorem k_669 : (Cond.selects RX6 yX6_clear yX6_clear) ∈ gT := gT_i 669 (by decide +kernel) rfl
theorem k_670 : (Cond.code yX6_clear cX6_clear 2 none) ∈ gT := gT_i 670 (by decide +kernel) rfl
theorem dX9_standUnlocked_0 : decode cX9_standUnlocked 0 = .ok (.aload_n 0, 1) := by decide +kernel
theorem dX9_standUnlocked_1 : decode cX9_standUnlocked 1 = .ok (.iconst 0, 1) := by decide +kernel
theorem dX9_standUnlocked_2 : decode cX9_standUnlocked 2 = .ok (.putfield 116, 3) := by decide +kernel
theorem dX9_standUnlocked_5 : decode cX9_standUnlocked 5 = .ok (.aload_n 0, 1) := by decide +kernel
theorem dX9_standUnlocked_6 : decode cX9_standUnlocked 6 = .ok (.iconst 0, 1) := by decide +kernel
theorem dX9_standUnlocked_7 : decode cX9_standUnlocked 7 = .ok (.putfield 150, 3) := by decide +kernel
theorem dX9_standUnlocked_10 : decode cX9_standUnlocked 10 = .ok (.aload_n 0, 1) := by decide +kernel
theorem dX9_standUnlocked_11 : decode cX9_standUnlocked 11 = .ok (.getfield 49, 3) := by decide +kernel
theorem dX9_standUnlocked_14 : decode cX9_standUnlocked 14 = .ok (.invokevirtual 187, 3) := by decide +kernel
theorem dX9_standUnlocked_17 : decode cX9_standUnlocked 17 = .ok (.iconst 0, 1) := by decide +kernel
theorem dX9_standUnlocked_18 : decode cX9_standUnlocked 18 = .ok (.istore_n 1, 1) := by decide +kernel
theorem dX9_standUnlocked_69 : decode cX9_standUnlocked 69 = .ok (.aload_n 0, 1) := by decide +kernel
theorem dX9_standUnlocked_70 : decode cX9_standUnlocked 70 = .ok (.getfield 63, 3) := by decide +kernel
theorem dX9_standUnlocked_73 : decode cX9_standUnlocked 73 = .ok (.invokevirtual 120, 3) := by decide +kernel
theorem dX9_standUnlocked_76 : decode cX9_standUnlocked 76 = .ok (.return_, 1) := by decide +kernel
set_option maxHeartbeats 1000000 in
set_option maxRecDepth 100000 in
theorem d_stand (l : Launch) (D : va_G) (z : Nat → Nat) (cB cI_ cO : ClassId) (L0 : List Nat) (g0 : hG) (dk tp rd els reo nob pr bk gl sl mo : Nat) (lf bop cf nx bn bs pcs spr nwh cp cs cap B SN : Nat) (y7 y8 y9 y10 v10 v11 : Int32) (pa sa xs : List Nat) (ea : Nat → Nat) (P : List Q4) (Es : List E5) (h_dk : ho L0 g0 dk 1 (.inr (10, [.ref tp, .ref rd, .ref els, .ref reo, .ref nob, .ref pr, .ref bk, .ref gl, .ref sl, .int (nI mo), .int v10, .int v11]))) (h_pr : ho L0 g0 pr 13 (.inr (7, [.ref pcs, .ref spr, .ref nwh]))) (h_pcs : alR cO (z 0) 14 15 L0 g0 pcs cp pa) (h_spr : alR cO (z 0) 16 17 L0 g0 spr cs sa) (h_pc : pcR L0 g0 ea pa P) (h_sp : spR L0 g0 sa) (h_els : alR cO (z 0) 5 6 L0 g0 els cap xs) (h_es : elsR cB cI_ L0 g0 xs Es) (h_bk : ho L0 g0 bk 21 (.inr (1, [.ref pr, .ref lf, .ref bop, .int (nI bn), .int (nI bs), .ref cf, .ref nx, .int y7, .int y8, .int y9, .int y10]))) (hpa : pa.length ≤ 20000) (hxl : xs.length ≤ 60) (hB : 100 ≤ B) (hB2 : B ≤ 60000) (hSN : SN ≤ 10000) (hSN1 : 60 ≤ SN) (hcs : cs ≤ B) (hcp : cp ≤ B) (hBs2 : 3 * SN ≤ 2 * B) (hsn : pa.length + sa.length ≤ SN) (hnd0 : (pa ++ sa).Nodup) : eV l D yX9_standUnlocked cX9_standUnlocked 3 none 9 221 (B / 5 + (60 + (B - cp) / 5)) (4 * B + (240 + 4 * (B - cp))) [.ref dk] z cB cI_ cO L0 g0 (fun L g => ∃ (pa2 sa2 : List Nat) (cp2 cs2 : Nat), (pa2 ++ sa2).Nodup ∧ (pa2.length = xs.length ∧ pa2.length + sa2.length ≤ SN ∧ cp2 ≤ B) ∧ cs2 ≤ B ∧ fr [1, 14, 15, 16, 17, 18, 21] L0 g0 L g ∧ ho L g dk 1 (.inr (10, [.ref tp, .ref rd, .ref els, .ref reo, .ref nob, .ref pr, .ref bk, .ref gl, .ref sl, .int (nI mo), .int 0, .int 0])) ∧ alR cO (z 0) 14 15 L g pcs cp2 pa2 ∧ alR cO (z 0) 16 17 L g spr cs2 sa2 ∧ pcR L g (fun e => xs.getD e 0) pa2 (upP Es xs.length) ∧ spR L g sa2 ∧ ho L g bk 21 (.inr (1, [.ref pr, .ref lf, .ref bop, .int (nI bn), .int (nI bs), .ref cf, .ref nx, .int 0, .int y8, .int y9, .int y10]))) := by
  refine o_sv (by decide) (Nat.le_of_ble_eq_true rfl) ?_
  intro p e s m below meth c A ls hf hr hlocks hin hK hP hD hS hA hZ hN hl
  obtain ⟨hx, hb, hml, hown, hts⟩ := id hf
  have hl : lv_has ls 3 [(0, .ref dk)] := hl
  have hfr : fr [1, 14, 15, 16, 17, 18, 21] L0 g0 L0 g0 := fr.rf
  refine lv_aload_n hx hb dX9_standUnlocked_0 rfl (lv_at hl 0 rfl) ?_
  refine lv_iconst (v := 0) hx hb dX9_standUnlocked_1 (by decide) ?_
  refine o_put (D := D) (ci := 10) (v := .int 0) (ty := .boolean) (C := RX9) (T := TX9) (N := 12) (fs1 := [.ref tp, .ref rd, .ref els, .ref reo, .ref nob, .ref pr, .ref bk, .ref gl, .ref sl, .int (nI mo), .int 0, .int v11]) hx hb hts inX9 tyX9 tyX9_ok nmX9 hown hK hP hD hS h_dk rfl 10 (by decide) (hts _ k_439) (fun _ h9 => h9) rfl (by decide +kernel) rfl rfl (Nat.le_of_ble_eq_true rfl) rfl dX9_standUnlocked_2 (fun g H locs h_dk hu hP hD hS => ?_)
  have h_pr := h_pr.up hu (by decide)
  have h_bk := h_bk.up hu (by decide)
  have hfr := hfr.up hu (by decide)
  have h_pcs := h_pcs.frd hu.fr (by decide)
  have h_spr := h_spr.frd hu.fr (by decide)
  have h_pc := h_pc.frd hu.fr (by decide)
  have h_sp := h_sp.frd hu.fr (by decide)
  have h_els := h_els.frd hu.fr (by decide)
  have h_es := h_es.frd hu.fr (by decide)
  refine lv_aload_n hx hb dX9_standUnlocked_5 rfl (lv_at hl 0 rfl) ?_
  refine lv_iconst (v := 0) hx hb dX9_standUnlocked_6 (by decide) ?_
  refine o_put (D := D) (ci := 10) (v := .int 0) (ty := .int) (C := RX9) (T := TX9) (N := 12) (fs1 := [.ref tp, .ref rd, .ref els, .ref reo, .ref nob, .ref pr, .ref bk, .ref gl, .ref sl, .int (nI mo), .int 0, .int 0]) hx hb hts inX9 tyX9 tyX9_ok nmX9 hown hK hP hD hS h_dk rfl 11 (by decide) (hts _ k_440) (fun _ h9 => h9) rfl (by decide +kernel) rfl rfl (Nat.le_of_ble_eq_true rfl) rfl dX9_standUnlocked_7 (fun g H locs h_dk hu hP hD hS => ?_)
  have h_pr := h_pr.up hu (by decide)
  have h_bk := h_bk.up hu (by decide)
  have hfr := hfr.up hu (by decide)
  have h_pcs := h_pcs.frd hu.fr (by decide)
  have h_spr := h_spr.frd hu.fr (by decide)
  have h_pc := h_pc.frd hu.fr (by decide)
  have h_sp := h_sp.frd hu.fr (by decide)
  have h_els := h_els.frd hu.fr (by decide)
  have h_es := h_es.frd hu.fr (by decide)
  refine lv_aload_n hx hb dX9_standUnlocked_10 rfl (lv_at hl 0 rfl) ?_
  refine o_get (D := D) (ci := 10) (v := .ref pr) (C := RX9) (T := TX9) (N := 12) hx hb hts inX9 hown hK hP h_dk rfl 5 (by decide) (hts _ k_434) (fun _ h9 => h9) rfl dX9_standUnlocked_11 ?_
  refine o_cv (k := 0 + (B / 5)) (n := 0 + (4 * B)) hK hP hD hS hA (o_rV (As := []) (rest := []) hf (p_clear _ _ _ _ _ _ _ _ pr pcs spr nwh cp cs pa sa ea P B h_pr h_pcs h_spr h_pc h_sp hpa (by omega) hB2 hcs (by omega) _) k_670 k_667 k_668 k_669 k_92 (nA := 0) (by decide +kernel) ⟨Nat.le_of_ble_eq_true rfl, Nat.le_of_ble_eq_true rfl⟩ hK hP hD hS hA hZ hN h_pr rfl rfl rfl hl.1 rfl (Nat.le_of_ble_eq_true rfl) dX9_standUnlocked_14 ⟨(show 0 + (B / 5) ≤ B / 5 + (60 + (B - cp) / 5) by omega), (show 0 + (4 * B) ≤ 4 * B + (240 + 4 * (B - cp)) by omega)⟩) (by omega) (by omega) (fun L g H locs hw hP hD hS => ?_)
  obtain ⟨s2, c2, es2, hc2, hf9, h_pcs, h_spr, h_sp9⟩ := hw
  have h_dk := h_dk.fr hf9 (by decide)
  have h_pr := h_pr.fr hf9 (by decide)
  have h_bk := h_bk.fr hf9 (by decide)
  have hfr := hfr.tm hf9 (by decide)
  have h_pc := h_pc.frd hf9 (by decide)
  have h_sp := h_sp.frd hf9 (by decide)
  have h_els := h_els.frd hf9 (by decide)
  have h_es := h_es.frd hf9 (by decide)
  have h_sp := h_sp9
  have h_pc : pcR L g (fun e => xs.getD e 0) [] [] := ⟨rfl, fun i9 h9 => absurd h9 (Nat.not_lt_zero i9)⟩
  refine lv_iconst (v := 0) hx hb dX9_standUnlocked_17 (by decide) ?_
  refine lv_istore_n (lv' := [(1, .int 0), (0, .ref dk)]) hx hb dX9_standUnlocked_18 rfl hl (by decide) rfl (fun ls hl => ?_)
  have hnd : ([] ++ s2).Nodup := by rw [es2]; exact nodup_cm hnd0
  have hs2 : s2.length = sa.length + pa.length := by rw [es2, List.length_append]
  refine su_loop (L0 := _) (g0 := _) (cE := B / 5 + (60 + (B - cp) / 5)) (sE := 4 * B + (240 + 4 * (B - cp))) (B := B) (SN := SN) hxl hB hB2 hSN hSN1 (Nat.le_refl _) (Nat.le_refl _) (Nat.le_of_ble_eq_true rfl) (Nat.le_of_ble_eq_true rfl) hA hf hK hZ hN xs.length 0 [] s2 cp _ _ _ _ _ _ ls (by omega) rfl hnd (by show 0 + s2.length ≤ SN; omega) hcp (show 0 + B / 5 + ((60 - 0) + (B - cp) / 5) ≤ _ by omega) (show 0 + 4 * B + (4 * (60 - 0) + 4 * (B - cp)) ≤ _ by omega) h_dk h_pr h_pcs h_spr h_pc h_sp h_els h_es fr.rf hP hD hS (lv_sub hl (l' := [(1, .int 0), (0, .ref dk)]) [0, 1] rfl) (fun pa2 sa2 cp2 L g H locs ls b1 b2 h_dk h_pr h_pcs h_spr h_pc h_sp h_els h_es hf9 hP hD hS hl => ?_)
  have h_bk := h_bk.fr hf9 (by decide)
  have hfr := hfr.tm hf9 (by decide)
  refine lv_aload_n hx hb dX9_standUnlocked_69 rfl (lv_at hl 0 rfl) ?_
  refine o_get (D := D) (ci := 10) (v := .ref bk) (C := RX9) (T := TX9) (N := 12) hx hb hts inX9 hown hK hP h_dk rfl 6 (by decide) (hts _ k_435) (fun _ h9 => h9) rfl dX9_standUnlocked_70 ?_
  refine o_cv (k := B / 5 + (60 + (B - cp) / 5)) (n := 4 * B + (240 + 4 * (B - cp))) hK hP hD hS hA (o_rV (As := []) (rest := []) hf (bk_forget _ _ _ _ _ _ _ _ pr bk lf bop cf nx bn bs y7 y8 y9 y10 h_bk _) k_724 k_721 k_722 k_723 k_95 (nA := 0) (by decide +kernel) ⟨Nat.le_of_ble_eq_true rfl, Nat.le_of_ble_eq_true rfl⟩ hK hP hD hS hA hZ hN h_bk rfl rfl rfl hl.1 rfl (Nat.le_of_ble_eq_true rfl) dX9_standUnlocked_73 ⟨(show B / 5 + (60 + (B - cp) / 5) + 0 ≤ B / 5 + (60 + (B - cp) / 5) by omega), (show 4 * B + (240 + 4 * (B - cp)) + 0 ≤ 4 * B + (240 + 4 * (B - cp)) by omega)⟩) (Nat.le_refl _) (Nat.le_refl _) (fun L g H locs hw hP hD hS => ?_)
  obtain ⟨hf9, h_bk⟩ := hw
  have h_dk := h_dk.fr hf9 (by decide)
  have h_pr := h_pr.fr hf9 (by decide)
  have hfr := hfr.tm hf9 (by decide)
  have h_pc := h_pc.frd hf9 (by decide)
  have h_sp := h_sp.frd hf9 (by decide)
  have h_els := h_els.frd hf9 (by decide)
  have h_es := h_es.frd hf9 (by decide)
  have h_pcs := h_pcs.frd hf9 (by decide)
  have h_spr := h_spr.frd hf9 (by decide)
  exact o_rv hf hr hlocks hK hP hD hS (show B / 5 + (60 + (B - cp) / 5) ≤ B / 5 + (60 + (B - cp) / 5) by omega) (show 4 * B + (240 + 4 * (B - cp)) ≤ 4 * B + (240 + 4 * (B - cp)) by omega) ⟨pa2, sa2, cp2, c2, b1, b2, hc2, hfr, h_dk, h_pcs, h_spr, h_pc, h_sp, h_bk⟩ dX9_standUnlocked_76
