theorem getD_map {f : Nat → Nat} {l : List Nat} {i : Nat} (h : i < l.length) : (l.map f).getD i 0 = f (l.getD i 0) := by
  rw [List.getD_eq_getElem?_getD, List.getElem?_map, List.getElem?_eq_getElem h, List.getD_eq_getElem?_getD, List.getElem?_eq_getElem h]
  rfl
theorem getD_mapE {f : Nat → E5} {l : List Nat} {i : Nat} (h : i < l.length) : (l.map f).getD i dE = f (l.getD i 0) := by
  rw [List.getD_eq_getElem?_getD, List.getElem?_map, List.getElem?_eq_getElem h, List.getD_eq_getElem?_getD, List.getElem?_eq_getElem h]
  rfl
theorem getD_memN {l : List Nat} {i : Nat} (h : i < l.length) : l.getD i 0 ∈ l := by
  rw [List.getD_eq_getElem?_getD, List.getElem?_eq_getElem h]
  exact List.getElem_mem h
theorem nd_map {xs l : List Nat} (h : xs.Nodup) (hl : l.Nodup) (hb : ∀ e, e ∈ l → e < xs.length) : (l.map (fun e => xs.getD e 0)).Nodup := by
  induction l with
  | nil => exact List.nodup_nil
  | cons a t ih =>
    have h1 := List.nodup_cons.mp hl
    rw [List.map_cons]
    refine List.nodup_cons.mpr ⟨fun hm => ?_, ih h1.2 (fun e he => hb e (List.mem_cons_of_mem _ he))⟩
    obtain ⟨b, hb1, hb2⟩ := List.mem_map.mp hm
    have h2 := nd_inj h (hb b (List.mem_cons_of_mem _ hb1)) (hb a List.mem_cons_self) hb2
    rw [h2] at hb1
    exact h1.1 hb1
/-- elements in another order -/
theorem elsR.pick {cB cI_ : ClassId} {L : List Nat} {g : hG} {xs : List Nat} {Es : List E5} (h : elsR cB cI_ L g xs Es) {l : List Nat} (hl : l.Nodup) (hb : ∀ e, e ∈ l → e < xs.length) : elsR cB cI_ L g (l.map (fun e => xs.getD e 0)) (l.map (fun e => Es.getD e dE)) := by
  refine ⟨by rw [List.length_map, List.length_map], nd_map h.2.1 hl hb, fun e he => ?_⟩
  rw [List.length_map] at he
  rw [getD_map (f := fun e => xs.getD e 0) he, getD_mapE (f := fun e => Es.getD e dE) he]
  exact h.2.2 _ (hb _ (getD_memN he))
theorem dX9_merge_10 : decode cX9_merge 10 = .ok (.aload_n 0, 1) := by decide +kernel
theorem dX9_merge_11 : decode cX9_merge 11 = .ok (.getfield 32, 3) := by decide +kernel
theorem dX9_merge_14 : decode cX9_merge 14 = .ok (.invokevirtual 103, 3) := by decide +kernel
theorem dX9_merge_17 : decode cX9_merge 17 = .ok (.iconst 0, 1) := by decide +kernel
theorem dX9_merge_18 : decode cX9_merge 18 = .ok (.istore_n 1, 1) := by decide +kernel
theorem dX9_merge_69 : decode cX9_merge 69 = .ok (.aload_n 0, 1) := by decide +kernel
theorem dX9_merge_70 : decode cX9_merge 70 = .ok (.getfield 28, 3) := by decide +kernel
theorem dX9_merge_73 : decode cX9_merge 73 = .ok (.invokevirtual 103, 3) := by decide +kernel
theorem dX9_merge_76 : decode cX9_merge 76 = .ok (.iconst 0, 1) := by decide +kernel
theorem dX9_merge_77 : decode cX9_merge 77 = .ok (.istore_n 1, 1) := by decide +kernel
theorem dX9_merge_121 : decode cX9_merge 121 = .ok (.aload_n 0, 1) := by decide +kernel
theorem dX9_merge_122 : decode cX9_merge 122 = .ok (.getfield 32, 3) := by decide +kernel
theorem dX9_merge_125 : decode cX9_merge 125 = .ok (.invokevirtual 103, 3) := by decide +kernel
theorem dX9_merge_128 : decode cX9_merge 128 = .ok (.aload_n 0, 1) := by decide +kernel
theorem dX9_merge_129 : decode cX9_merge 129 = .ok (.invokevirtual 110, 3) := by decide +kernel
theorem dX9_merge_132 : decode cX9_merge 132 = .ok (.aload_n 0, 1) := by decide +kernel
theorem dX9_merge_133 : decode cX9_merge 133 = .ok (.getfield 28, 3) := by decide +kernel
theorem dX9_merge_136 : decode cX9_merge 136 = .ok (.invokevirtual 113, 3) := by decide +kernel
theorem dX9_merge_139 : decode cX9_merge 139 = .ok (.ireturn, 1) := by decide +kernel
set_option maxHeartbeats 1000000 in
set_option maxRecDepth 100000 in
theorem d_mergeL (l : Launch) (D : va_G) (z : Nat → Nat) (cB cI_ cO : ClassId) (L0 : List Nat) (g0 : hG) (dk tp rd els reo nob pr bk gl sl mo pcs spr nwh cp cs cap c7 lf bop cf nx bn bs B SN : Nat) (y7 y8 y9 y10 v11 : Int32) (pa sa xs : List Nat) (P : List Q4) (Es : List E5) (h_dk : ho L0 g0 dk 1 (.inr (10, [.ref tp, .ref rd, .ref els, .ref reo, .ref nob, .ref pr, .ref bk, .ref gl, .ref sl, .int (nI mo), .int 1, .int v11]))) (h_pr : ho L0 g0 pr 13 (.inr (7, [.ref pcs, .ref spr, .ref nwh]))) (h_pcs : alR cO (z 0) 14 15 L0 g0 pcs cp pa) (h_spr : alR cO (z 0) 16 17 L0 g0 spr cs sa) (h_pc : pcR L0 g0 (fun e => xs.getD e 0) pa P) (h_sp : spR L0 g0 sa) (h_els : alR cO (z 0) 5 6 L0 g0 els cap xs) (h_es : elsR cB cI_ L0 g0 xs Es) (h_reo : alR cO (z 0) 7 8 L0 g0 reo c7 ([])) (h_bk : ho L0 g0 bk 21 (.inr (1, [.ref pr, .ref lf, .ref bop, .int (nI bn), .int (nI bs), .ref cf, .ref nx, .int y7, .int y8, .int y9, .int y10]))) (hxl : xs.length ≤ 60) (hpa : pa.length ≤ 20000) (hQ : pq_ok xs.length (fun e => Es.getD e dE) P) (hB : 100 ≤ B) (hB2 : B ≤ 60000) (hSN : SN ≤ 10000) (hSN1 : 60 ≤ SN) (hcs : cs ≤ B) (hcp : cp ≤ B) (hcap : cap ≤ B) (hc7 : c7 ≤ B) (hBs2 : 3 * SN ≤ 2 * B) (hsn : pa.length + sa.length ≤ SN) (hnd0 : (pa ++ sa).Nodup) (hmN : (mgI P pa.length).Nodup) (hmL : (mgI P pa.length).length ≤ 60) : eI l D yX9_merge cX9_merge 3 (some .int) 10 243 ((B - c7) / 5 + (B - cap) / 5 + (B / 5 + (60 + (B - cp) / 5))) (4 * (B - c7) + 4 * (B - cap) + (4 * B + (240 + 4 * (B - cp)))) [.ref dk] z cB cI_ cO L0 g0 (fun r L g => ∃ (pa2 sa2 ys : List Nat) (Ms2 : List E5) (cp2 cs2 cap2 c72 : Nat), r = nI ys.length ∧ ys = ((mgI P pa.length).map (fun e => xs.getD e 0)) ∧ Ms2 = rnm ((mgI P pa.length).map (fun e => Es.getD e dE)) ys.length ∧ cap2 ≤ B ∧ c72 ≤ B ∧ (pa2 ++ sa2).Nodup ∧ (pa2.length = ys.length ∧ pa2.length + sa2.length ≤ SN ∧ cp2 ≤ B) ∧ cs2 ≤ B ∧ fr [1, 5, 6, 7, 8, 9, 14, 15, 16, 17, 18, 21] L0 g0 L g ∧ ho L g dk 1 (.inr (10, [.ref tp, .ref rd, .ref els, .ref reo, .ref nob, .ref pr, .ref bk, .ref gl, .ref sl, .int (nI mo), .int 0, .int 0])) ∧ alR cO (z 0) 14 15 L g pcs cp2 pa2 ∧ alR cO (z 0) 16 17 L g spr cs2 sa2 ∧ pcR L g (fun e => ys.getD e 0) pa2 (upP Ms2 ys.length) ∧ spR L g sa2 ∧ ho L g bk 21 (.inr (1, [.ref pr, .ref lf, .ref bop, .int (nI bn), .int (nI bs), .ref cf, .ref nx, .int 0, .int y8, .int y9, .int y10])) ∧ alR cO (z 0) 5 6 L g els cap2 ys ∧ elsR cB cI_ L g ys Ms2 ∧ alR cO (z 0) 7 8 L g reo c72 ([])) := by
  refine o_si (by decide) (Nat.le_of_ble_eq_true rfl) ?_
  intro p e s m below meth c A ls hf hr hlocks hin hK hP hD hS hA hZ hN hl
  obtain ⟨hx, hb, hml, hown, hts⟩ := id hf
  have hl : lv_has ls 3 [(0, .ref dk)] := hl
  have hfr : fr [1, 5, 6, 7, 8, 9, 14, 15, 16, 17, 18, 21] L0 g0 L0 g0 := fr.rf
  refine lv_aload_n hx hb dX9_merge_0 rfl (lv_at hl 0 rfl) ?_
  refine o_get (D := D) (ci := 10) (v := .int 1) (C := RX9) (T := TX9) (N := 12) hx hb hts inX9 hown hK hP h_dk rfl 10 (by decide) (hts _ k_439) (fun _ h9 => h9) rfl dX9_merge_1 ?_
  refine lv_if_ne (tgt := 10) hx hb dX9_merge_4 (by decide) (fun _ => ?_) (fun hno => absurd hno (by decide))
  refine lv_aload_n hx hb dX9_merge_10 rfl (lv_at hl 0 rfl) ?_
  refine o_get (D := D) (ci := 10) (v := .ref reo) (C := RX9) (T := TX9) (N := 12) hx hb hts inX9 hown hK hP h_dk rfl 3 (by decide) (hts _ k_432) (fun _ h9 => h9) rfl dX9_merge_11 ?_
  obtain ⟨mc9, d9, h_al9⟩ := h_reo.al
  refine o_cv (k := 0) (n := 0) hK hP hD hS hA (o_rV (As := []) (rest := []) hf (li_clr _ _ _ _ _ _ _ _ reo 7 8 c7 ([]) h_reo (by decide) _) k_593 k_590 k_591 k_592 k_89 (nA := 0) (by decide +kernel) ⟨Nat.le_of_ble_eq_true rfl, Nat.le_of_ble_eq_true rfl⟩ hK hP hD hS hA hZ hN h_al9 rfl rfl rfl hl.1 rfl (Nat.le_of_ble_eq_true rfl) dX9_merge_14 ⟨(show 0 + 0 ≤ (B - c7) / 5 + (B - cap) / 5 + (B / 5 + (60 + (B - cp) / 5)) by omega), (show 0 + 0 ≤ 4 * (B - c7) + 4 * (B - cap) + (4 * B + (240 + 4 * (B - cp))) by omega)⟩) (Nat.le_refl _) (Nat.le_refl _) (fun L g H locs hw hP hD hS => ?_)
  obtain ⟨hf9, h_reo⟩ := hw
  have h_dk := h_dk.fr hf9 (by decide)
  have h_pr := h_pr.fr hf9 (by decide)
  have h_bk := h_bk.fr hf9 (by decide)
  have hfr := hfr.tm hf9 (by decide)
  have h_pcs := h_pcs.frd hf9 (by decide)
  have h_spr := h_spr.frd hf9 (by decide)
  have h_pc := h_pc.frd hf9 (by decide)
  have h_sp := h_sp.frd hf9 (by decide)
  have h_els := h_els.frd hf9 (by decide)
  have h_es := h_es.frd hf9 (by decide)
  refine lv_iconst (v := 0) hx hb dX9_merge_17 (by decide) ?_
  refine lv_istore_n (lv' := [(1, .int 0), (0, .ref dk)]) hx hb dX9_merge_18 rfl hl (by decide) rfl (fun ls hl => ?_)
  refine mg1_loop (L0 := _) (g0 := _) (B := B) (ne := xs.length) (EE := (fun e => Es.getD e dE)) (cE := (B - c7) / 5) (sE := 4 * (B - c7)) hpa hQ hB hB2 hmL (show (B - c7) / 5 ≤ (B - c7) / 5 + (B - cap) / 5 + (B / 5 + (60 + (B - cp) / 5)) by omega) (show 4 * (B - c7) ≤ 4 * (B - c7) + 4 * (B - cap) + (4 * B + (240 + 4 * (B - cp))) by omega) (Nat.le_of_ble_eq_true rfl) (Nat.le_of_ble_eq_true rfl) hA hf hK hZ hN pa.length 0 c7 [] 0 0 _ _ _ _ ls (by omega) rfl hc7 (by omega) (by omega) h_dk h_pr h_pcs h_pc h_es.2.2 h_reo fr.rf hP hD hS (lv_sub hl (l' := [(1, .int 0), (0, .ref dk)]) [0, 1] rfl) (fun zs c71 L g H locs ls ezs hc71 h_dk h_pr h_pcs h_pc h_es9 h_reo hf9 hP hD hS hl => ?_)
  have h_spr := h_spr.frd hf9 (by decide)
  have h_sp := h_sp.frd hf9 (by decide)
  have h_els := h_els.frd hf9 (by decide)
  have h_es := h_es.frd hf9 (by decide)
  have h_bk := h_bk.fr hf9 (by decide)
  have hfr := hfr.tm hf9 (by decide)
  obtain ⟨ys, eys⟩ : ∃ x, x = ((mgI P pa.length).map (fun e => xs.getD e 0)) := ⟨_, rfl⟩
  rw [ezs, ← eys] at h_reo
  have hyl : ys.length ≤ 60 := by rw [eys, List.length_map]; exact hmL
  have hplm := h_pc.1
  have hmB : ∀ e, e ∈ mgI P pa.length → e < xs.length := fun e he => by obtain ⟨i9, h9, h8, _⟩ := mgI_mem _ he; rw [h8]; exact (hQ i9 (by omega)).1
  have h_es := h_es.pick hmN hmB
  rw [← eys] at h_es
  refine lv_aload_n hx hb dX9_merge_69 rfl (lv_at hl 0 rfl) ?_
  refine o_get (D := D) (ci := 10) (v := .ref els) (C := RX9) (T := TX9) (N := 12) hx hb hts inX9 hown hK hP h_dk rfl 2 (by decide) (hts _ k_431) (fun _ h9 => h9) rfl dX9_merge_70 ?_
  obtain ⟨mc9, d9, h_al9⟩ := h_els.al
  refine o_cv (k := (B - c7) / 5) (n := 4 * (B - c7)) hK hP hD hS hA (o_rV (As := []) (rest := []) hf (li_clr _ _ _ _ _ _ _ _ els 5 6 cap xs h_els (by decide) _) k_593 k_590 k_591 k_592 k_89 (nA := 0) (by decide +kernel) ⟨Nat.le_of_ble_eq_true rfl, Nat.le_of_ble_eq_true rfl⟩ hK hP hD hS hA hZ hN h_al9 rfl rfl rfl hl.1 rfl (Nat.le_of_ble_eq_true rfl) dX9_merge_73 ⟨(show (B - c7) / 5 + 0 ≤ (B - c7) / 5 + (B - cap) / 5 + (B / 5 + (60 + (B - cp) / 5)) by omega), (show 4 * (B - c7) + 0 ≤ 4 * (B - c7) + 4 * (B - cap) + (4 * B + (240 + 4 * (B - cp))) by omega)⟩) (Nat.le_refl _) (Nat.le_refl _) (fun L g H locs hw hP hD hS => ?_)
  obtain ⟨hf9, h_els⟩ := hw
  have h_dk := h_dk.fr hf9 (by decide)
  have h_pr := h_pr.fr hf9 (by decide)
  have h_bk := h_bk.fr hf9 (by decide)
  have hfr := hfr.tm hf9 (by decide)
  have h_pcs := h_pcs.frd hf9 (by decide)
  have h_spr := h_spr.frd hf9 (by decide)
  have h_pc := h_pc.frd hf9 (by decide)
  have h_sp := h_sp.frd hf9 (by decide)
  have h_es := h_es.frd hf9 (by decide)
  have h_reo := h_reo.frd hf9 (by decide)
  refine lv_iconst (v := 0) hx hb dX9_merge_76 (by decide) ?_
  refine lv_istore_n (lv' := [(1, .int 0), (0, .ref dk)]) hx hb dX9_merge_77 rfl hl (by decide) rfl (fun ls hl => ?_)
  refine mg2_loop (L0 := _) (g0 := _) (B := B) (Ms0 := ((mgI P pa.length).map (fun e => Es.getD e dE))) (cE := (B - c7) / 5 + (B - cap) / 5) (sE := 4 * (B - c7) + 4 * (B - cap)) hB hB2 hyl (show (B - c7) / 5 + (B - cap) / 5 ≤ (B - c7) / 5 + (B - cap) / 5 + (B / 5 + (60 + (B - cp) / 5)) by omega) (show 4 * (B - c7) + 4 * (B - cap) ≤ 4 * (B - c7) + 4 * (B - cap) + (4 * B + (240 + 4 * (B - cp))) by omega) (Nat.le_of_ble_eq_true rfl) (Nat.le_of_ble_eq_true rfl) hA hf hK hZ hN ys.length 0 cap _ _ _ _ _ _ _ ls (by omega) rfl hcap (by omega) (by omega) h_dk h_els h_reo h_es fr.rf hP hD hS (lv_sub hl (l' := [(1, .int 0), (0, .ref dk)]) [0, 1] rfl) (fun cap2 Ms2 L g H locs ls eMs hcap2 h_dk h_els h_reo h_es hf9 hP hD hS hl => ?_)
  have h_pr := h_pr.fr hf9 (by decide)
  have h_pcs := h_pcs.frd hf9 (by decide)
  have h_spr := h_spr.frd hf9 (by decide)
  have h_pc := h_pc.frd hf9 (by decide)
  have h_sp := h_sp.frd hf9 (by decide)
  have h_bk := h_bk.fr hf9 (by decide)
  rw [List.take_length] at h_els
  have hfr := hfr.tm hf9 (by decide)
  refine lv_aload_n hx hb dX9_merge_121 rfl (lv_at hl 0 rfl) ?_
  refine o_get (D := D) (ci := 10) (v := .ref reo) (C := RX9) (T := TX9) (N := 12) hx hb hts inX9 hown hK hP h_dk rfl 3 (by decide) (hts _ k_432) (fun _ h9 => h9) rfl dX9_merge_122 ?_
  obtain ⟨mc9, d9, h_al9⟩ := h_reo.al
  refine o_cv (k := (B - c7) / 5 + (B - cap) / 5) (n := 4 * (B - c7) + 4 * (B - cap)) hK hP hD hS hA (o_rV (As := []) (rest := []) hf (li_clr _ _ _ _ _ _ _ _ reo 7 8 c71 ys h_reo (by decide) _) k_593 k_590 k_591 k_592 k_89 (nA := 0) (by decide +kernel) ⟨Nat.le_of_ble_eq_true rfl, Nat.le_of_ble_eq_true rfl⟩ hK hP hD hS hA hZ hN h_al9 rfl rfl rfl hl.1 rfl (Nat.le_of_ble_eq_true rfl) dX9_merge_125 ⟨(show (B - c7) / 5 + (B - cap) / 5 + 0 ≤ (B - c7) / 5 + (B - cap) / 5 + (B / 5 + (60 + (B - cp) / 5)) by omega), (show 4 * (B - c7) + 4 * (B - cap) + 0 ≤ 4 * (B - c7) + 4 * (B - cap) + (4 * B + (240 + 4 * (B - cp))) by omega)⟩) (Nat.le_refl _) (Nat.le_refl _) (fun L g H locs hw hP hD hS => ?_)
  obtain ⟨hf9, h_reo⟩ := hw
  have h_dk := h_dk.fr hf9 (by decide)
  have h_pr := h_pr.fr hf9 (by decide)
  have h_bk := h_bk.fr hf9 (by decide)
  have hfr := hfr.tm hf9 (by decide)
  have h_pcs := h_pcs.frd hf9 (by decide)
  have h_spr := h_spr.frd hf9 (by decide)
  have h_pc := h_pc.frd hf9 (by decide)
  have h_sp := h_sp.frd hf9 (by decide)
  have h_es := h_es.frd hf9 (by decide)
  have h_els := h_els.frd hf9 (by decide)
  refine lv_aload_n hx hb dX9_merge_128 rfl (lv_at hl 0 rfl) ?_
  refine o_cv (k := (B - c7) / 5 + (B - cap) / 5 + (B / 5 + (60 + (B - cp) / 5))) (n := 4 * (B - c7) + 4 * (B - cap) + (4 * B + (240 + 4 * (B - cp)))) hK hP hD hS hA (o_rV (As := []) (rest := []) hf (d_stand _ _ _ _ _ _ _ _ dk tp rd els reo nob pr bk gl sl mo lf bop cf nx bn bs pcs spr nwh cp cs cap2 B SN y7 y8 y9 y10 1 v11 pa sa ys (fun e => xs.getD e 0) P Ms2 h_dk h_pr h_pcs h_spr h_pc h_sp h_els h_es h_bk hpa hyl hB hB2 hSN hSN1 hcs hcp hBs2 hsn hnd0 _) k_666 k_663 k_665 k_19 k_84 (nA := 0) (by decide +kernel) ⟨Nat.le_of_ble_eq_true rfl, Nat.le_of_ble_eq_true rfl⟩ hK hP hD hS hA hZ hN h_dk rfl rfl rfl hl.1 rfl (Nat.le_of_ble_eq_true rfl) dX9_merge_129 ⟨(show (B - c7) / 5 + (B - cap) / 5 + (B / 5 + (60 + (B - cp) / 5)) ≤ (B - c7) / 5 + (B - cap) / 5 + (B / 5 + (60 + (B - cp) / 5)) by omega), (show 4 * (B - c7) + 4 * (B - cap) + (4 * B + (240 + 4 * (B - cp))) ≤ 4 * (B - c7) + 4 * (B - cap) + (4 * B + (240 + 4 * (B - cp))) by omega)⟩) (by omega) (by omega) (fun L g H locs hw hP hD hS => ?_)
  obtain ⟨pa2, sa2, cp2, cs2, b1, b2, b3, hf9, h_dk, h_pcs, h_spr, h_pc, h_sp, h_bk⟩ := hw
  have h_pr := h_pr.fr hf9 (by decide)
  have hfr := hfr.tm hf9 (by decide)
  have h_es := h_es.frd hf9 (by decide)
  have h_els := h_els.frd hf9 (by decide)
  have h_reo := h_reo.frd hf9 (by decide)
  refine lv_aload_n hx hb dX9_merge_132 rfl (lv_at hl 0 rfl) ?_
  refine o_get (D := D) (ci := 10) (v := .ref els) (C := RX9) (T := TX9) (N := 12) hx hb hts inX9 hown hK hP h_dk rfl 2 (by decide) (hts _ k_431) (fun _ h9 => h9) rfl dX9_merge_133 ?_
  obtain ⟨mc9, d9, h_al9⟩ := h_els.al
  refine o_cis (k := (B - c7) / 5 + (B - cap) / 5 + (B / 5 + (60 + (B - cp) / 5))) (n := 4 * (B - c7) + 4 * (B - cap) + (4 * B + (240 + 4 * (B - cp)))) hK hP hD hS hA (o_rV (As := []) (rest := []) hf (li_size _ _ _ _ _ _ _ _ els 5 6 cap2 ys h_els _) k_606 k_686 k_604 k_605 k_89 (nA := 0) (by decide +kernel) ⟨Nat.le_of_ble_eq_true rfl, Nat.le_of_ble_eq_true rfl⟩ hK hP hD hS hA hZ hN h_al9 rfl rfl rfl hl.1 rfl (Nat.le_of_ble_eq_true rfl) dX9_merge_136 ⟨(show (B - c7) / 5 + (B - cap) / 5 + (B / 5 + (60 + (B - cp) / 5)) + 0 ≤ (B - c7) / 5 + (B - cap) / 5 + (B / 5 + (60 + (B - cp) / 5)) by omega), (show 4 * (B - c7) + 4 * (B - cap) + (4 * B + (240 + 4 * (B - cp))) + 0 ≤ 4 * (B - c7) + 4 * (B - cap) + (4 * B + (240 + 4 * (B - cp))) by omega)⟩) (Nat.le_refl _) (Nat.le_refl _) (fun r H locs hw hP hD hS => ?_)
  obtain rfl := hw
  exact o_ri hf hr rfl hlocks hK hP hD hS (show (B - c7) / 5 + (B - cap) / 5 + (B / 5 + (60 + (B - cp) / 5)) ≤ (B - c7) / 5 + (B - cap) / 5 + (B / 5 + (60 + (B - cp) / 5)) by omega) (show 4 * (B - c7) + 4 * (B - cap) + (4 * B + (240 + 4 * (B - cp))) ≤ 4 * (B - c7) + 4 * (B - cap) + (4 * B + (240 + 4 * (B - cp))) by omega) ⟨pa2, sa2, ys, Ms2, cp2, cs2, cap2, c71, rfl, eys, eMs, hcap2, hc71, b1, b2, b3, hfr, h_dk, h_pcs, h_spr, h_pc, h_sp, h_bk, h_els, h_es, h_reo⟩ dX9_merge_139
