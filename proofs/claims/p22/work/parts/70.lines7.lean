abbrev dE : E5 := (0, 0, 0, 0, [])
/-- the list of elements: where they are, what they are -/
def elsR (cB cI_ : ClassId) (L : List Nat) (g : hG) (xs : List Nat) (Es : List E5) : Prop := xs.length = Es.length ∧ xs.Nodup ∧ ∀ e, e < xs.length → elR cB cI_ L g (xs.getD e 0) (Es.getD e dE).1 (Es.getD e dE).2.1 (Es.getD e dE).2.2.1 (Es.getD e dE).2.2.2.1 (Es.getD e dE).2.2.2.2
theorem elsR.frd {cB cI_ : ClassId} {ts L L1 : List Nat} {g g1 : hG} {xs : List Nat} {Es : List E5} (h : elsR cB cI_ L g xs Es) (hf : fr ts L g L1 g1) (hd : (ts.contains 9 = false ∧ ts.contains 10 = false) ∧ ts.contains 11 = false ∧ ts.contains 12 = false) : elsR cB cI_ L1 g1 xs Es := ⟨h.1, h.2.1, fun e he => (h.2.2 e he).fr hf ⟨⟨nc_of hd.1.1, nc_of hd.1.2⟩, nc_of hd.2.1, nc_of hd.2.2⟩⟩
theorem elsR.fa0 {cB cI_ : ClassId} {L L1 : List Nat} {g g1 : hG} {xs : List Nat} {Es : List E5} (h : elsR cB cI_ L g xs Es) (hf : fra [] L g L1 g1) : elsR cB cI_ L1 g1 xs Es := ⟨h.1, h.2.1, fun e he => (h.2.2 e he).fa hf (fun b hb => absurd hb List.not_mem_nil)⟩
theorem elsR.ob {cB cI_ : ClassId} {L : List Nat} {g : hG} {xs : List Nat} {Es : List E5} (h : elsR cB cI_ L g xs Es) : ∀ y, y ∈ xs → ∃ fs, ho L g y 9 (.inr (2, fs)) := by
  intro y hy
  obtain ⟨i, hi, e⟩ := List.mem_iff_getElem.mp hy
  have h1 := h.2.2 i hi
  rw [show xs.getD i 0 = y by rw [List.getD_eq_getElem?_getD, List.getElem?_eq_getElem hi]; exact e] at h1
  obtain ⟨tx, rf, rt, N0, M, tf, f1, f2, h2, _⟩ := h1
  exact ⟨_, h2⟩
theorem elsR.add {cB cI_ : ClassId} {L : List Nat} {g : hG} {xs : List Nat} {Es : List E5} {x : Nat} {E : E5} (h : elsR cB cI_ L g xs Es) (hx : x ∉ xs) (he : elR cB cI_ L g x E.1 E.2.1 E.2.2.1 E.2.2.2.1 E.2.2.2.2) : elsR cB cI_ L g (xs ++ [x]) (Es ++ [E]) := by
  have hl := h.1
  refine ⟨by rw [List.length_append, List.length_append, hl]; rfl, ?_, fun e he9 => ?_⟩
  · refine List.nodup_append.mpr ⟨h.2.1, List.nodup_cons.mpr ⟨List.not_mem_nil, List.nodup_nil⟩, fun a ha b hb e9 => hx ?_⟩
    rw [List.mem_singleton.mp hb] at e9
    rw [← e9]
    exact ha
  · rw [List.length_append] at he9
    have he9 : e < xs.length + 1 := he9
    by_cases c : e < xs.length
    · rw [show (xs ++ [x]).getD e 0 = xs.getD e 0 by simp only [List.getD_eq_getElem?_getD]; rw [List.getElem?_append_left c], show (Es ++ [E]).getD e dE = Es.getD e dE by simp only [List.getD_eq_getElem?_getD]; rw [List.getElem?_append_left (by omega)]]
      exact h.2.2 e c
    · have c2 : e = xs.length := by omega
      rw [show (xs ++ [x]).getD e 0 = x by rw [c2]; simp, show (Es ++ [E]).getD e dE = E by rw [c2, hl]; simp]
      exact he
theorem elsR.nin {cB cI_ : ClassId} {L : List Nat} {g : hG} {xs : List Nat} {Es : List E5} {x : Nat} (h : elsR cB cI_ L g xs Es) (hx : x ∉ L) : x ∉ xs := fun hm => by
  obtain ⟨fs, h1⟩ := h.ob x hm
  exact hx h1.1
abbrev cX4_close : ByteArray := prog_6_method_4_code
def yX4_close : MethodName := ⟨RX4, "close", "(Ljava/util/ArrayList;III)V"⟩
theorem k_181 : (Cond.instantiable RX1 9) ∈ gT := gT_i 181 (by decide +kernel) rfl
theorem k_183 : (Cond.instanceMethod yX1_init) ∈ gT := gT_i 183 (by decide +kernel) rfl
theorem k_184 : (Cond.code yX1_init cX1_init 7 none) ∈ gT := gT_i 184 (by decide +kernel) rfl
theorem k_602 : (Cond.classLink RX4 48 RX1) ∈ gT := gT_i 602 (by decide +kernel) rfl
theorem k_603 : (Cond.methodLink RX4 50 yJx4a65c_size_8abf5) ∈ gT := gT_i 603 (by decide +kernel) rfl
theorem k_607 : (Cond.methodLink RX4 55 yX1_init) ∈ gT := gT_i 607 (by decide +kernel) rfl
theorem k_608 : (Cond.methodLink RX4 58 yJx4a65c_add_9ea2d) ∈ gT := gT_i 608 (by decide +kernel) rfl
theorem dX4_close_0 : decode cX4_close 0 = .ok (.iload_n 2, 1) := by decide +kernel
theorem dX4_close_1 : decode cX4_close 1 = .ok (.iconst (-1), 1) := by decide +kernel
theorem dX4_close_2 : decode cX4_close 2 = .ok (.if_icmp .eq 27, 3) := by decide +kernel
theorem dX4_close_5 : decode cX4_close 5 = .ok (.aload_n 1, 1) := by decide +kernel
theorem dX4_close_6 : decode cX4_close 6 = .ok (.new 48, 3) := by decide +kernel
theorem dX4_close_9 : decode cX4_close 9 = .ok (.dup, 1) := by decide +kernel
theorem dX4_close_10 : decode cX4_close 10 = .ok (.aload_n 1, 1) := by decide +kernel
theorem dX4_close_11 : decode cX4_close 11 = .ok (.invokevirtual 50, 3) := by decide +kernel
theorem dX4_close_14 : decode cX4_close 14 = .ok (.iload_n 2, 1) := by decide +kernel
theorem dX4_close_15 : decode cX4_close 15 = .ok (.aload_n 0, 1) := by decide +kernel
theorem dX4_close_16 : decode cX4_close 16 = .ok (.getfield 9, 3) := by decide +kernel
theorem dX4_close_19 : decode cX4_close 19 = .ok (.iload_n 3, 1) := by decide +kernel
theorem dX4_close_20 : decode cX4_close 20 = .ok (.iload 4, 2) := by decide +kernel
theorem dX4_close_22 : decode cX4_close 22 = .ok (.invokespecial 55, 3) := by decide +kernel
theorem dX4_close_25 : decode cX4_close 25 = .ok (.invokevirtual 58, 3) := by decide +kernel
theorem dX4_close_28 : decode cX4_close 28 = .ok (.pop, 1) := by decide +kernel
theorem dX4_close_29 : decode cX4_close 29 = .ok (.return_, 1) := by decide +kernel
set_option maxHeartbeats 1000000 in
set_option maxRecDepth 100000 in
theorem r_close (l : Launch) (D : va_G) (z : Nat → Nat) (cB cI_ cO : ClassId) (L0 : List Nat) (g0 : hG) (rd tp by_ n nx fm0 to0 : Nat) (kd0 ka0 : Int32) (T : Nat → Int32) (els cap : Nat) (xs : List Nat) (Es : List E5) (kd : Int32) (fm to_ : Nat) (h_rd : ho L0 g0 rd 4 (.inr (5, [.ref tp, .int (nI nx), .int (nI fm0), .int (nI to0), .int kd0, .int ka0]))) (h_tp : ho L0 g0 tp 2 (.inr (9, [.ref by_, .int (nI n)]))) (h_by : ho L0 g0 by_ 3 (.inl (cB, 1200, .inl T))) (h_els : alR cO (z 0) 5 6 L0 g0 els cap xs) (h_es : elsR cB cI_ L0 g0 xs Es) (hn : n ≤ 1200) (hto : to_ ≤ n) (hft : fm ≤ to_) (hTb : ∀ i, vp_nar .byte (T i) = T i) (hk6 : kd6 kd) (hxl : xs.length ≤ 20000) (hcp : ncap xs.length cap ≤ 60000) : eV l D yX4_close cX4_close 5 none 7 151 (4 + gcel xs.length cap) (9 + ((to_ - fm) + (4 * ((to_ - fm) / 20) + 2)) + gslo xs.length cap) [.ref rd, .ref els, .int kd, .int (nI fm), .int (nI to_)] z cB cI_ cO L0 g0 (fun L g => ∃ (x w2 : Nat) (X2 : List Int32), (w2, X2) = tx_sc T (to_ - fm) fm 0 0 [] ∧ fr [5, 6, 9, 10, 11, 12] L0 g0 L g ∧ alR cO (z 0) 5 6 L g els (ncap xs.length cap) (xs ++ [x]) ∧ elsR cB cI_ L g (xs ++ [x]) (Es ++ [(kd, nI xs.length, 0, w2, X2)])) := by
  refine o_sv (by decide) (Nat.le_of_ble_eq_true rfl) ?_
  intro p e s m below meth c A ls hf hr hlocks hin hK hP hD hS hA hZ hN hl
  obtain ⟨hx, hb, hml, hown, hts⟩ := id hf
  have hl : lv_has ls 5 [(0, .ref rd), (1, .ref els), (2, .int kd), (3, .int (nI fm)), (4, .int (nI to_))] := hl
  have h_es0 := h_es
  have hfr : fr [5, 6, 9, 10, 11, 12] L0 g0 L0 g0 := fr.rf
  have hfa : fra [] L0 g0 L0 g0 := fra.rf
  refine lv_iload_n hx hb dX4_close_0 rfl (lv_at hl 2 rfl) ?_
  refine lv_iconst (v := (-1)) hx hb dX4_close_1 (by decide) ?_
  refine lv_icmp_eq (tgt := 29) hx hb dX4_close_2 (by decide) (fun c_1 => ?_) (fun c_1 => ?_)
  · exact absurd c_1 (kd6_n hk6)
  · refine lv_aload_n hx hb dX4_close_5 rfl (lv_at hl 1 rfl) ?_
    refine o_new (ci := 2) (fs := [.int 0, .int 0, .int 0, .null, .int 0, .int 0, .null, .null, .int 0]) (C := RX1) (T := TX1) (N := 9) hx hb 9 hts inX1 tyX1 tyX1_ok hown (hts _ k_602) (hts _ k_181) (hts _ k_90) hK hP hD hS hA rfl dfX1 (show 0 + 1 ≤ 4 + gcel xs.length cap by omega) (show 0 + 9 ≤ 9 + ((to_ - fm) + (4 * ((to_ - fm) / 20) + 2)) + gslo xs.length cap by omega) dX4_close_6 (fun q_el L g H h_el hnw hP hD hS => ?_)
    have h_rd := h_rd.nw hnw
    have h_tp := h_tp.nw hnw
    have h_by := h_by.nw hnw
    have hfr := hfr.nw hnw
    have hq_q_el := hfa.nin hnw
    have hfa := hfa.nw hnw
    have h_els := h_els.frd hnw.fr (by decide)
    have h_es := h_es.frd hnw.fr (by decide)
    have hxq := h_es0.nin hnw.1
    refine lv_dup hx hb dX4_close_9 rfl ?_
    refine lv_aload_n hx hb dX4_close_10 rfl (lv_at hl 1 rfl) ?_
    obtain ⟨mc9, d9, h_al9⟩ := h_els.al
    refine o_cis (k := 0 + 1) (n := 0 + 9) hK hP hD hS hA (o_rV (As := []) (rest := [.ref q_el, .ref q_el, .ref els]) hf (li_size _ _ _ _ _ _ _ _ els 5 6 cap xs h_els _) k_606 k_603 k_604 k_605 k_89 (nA := 0) (by decide +kernel) ⟨Nat.le_of_ble_eq_true rfl, Nat.le_of_ble_eq_true rfl⟩ hK hP hD hS hA hZ hN h_al9 rfl rfl rfl hl.1 rfl (Nat.le_of_ble_eq_true rfl) dX4_close_11 ⟨(show 0 + 1 + 0 ≤ 4 + gcel xs.length cap by omega), (show 0 + 9 + 0 ≤ 9 + ((to_ - fm) + (4 * ((to_ - fm) / 20) + 2)) + gslo xs.length cap by omega)⟩) (Nat.le_refl _) (Nat.le_refl _) (fun r H locs hw hP hD hS => ?_)
    obtain rfl := hw
    refine lv_iload_n hx hb dX4_close_14 rfl (lv_at hl 2 rfl) ?_
    refine lv_aload_n hx hb dX4_close_15 rfl (lv_at hl 0 rfl) ?_
    refine o_get (D := D) (ci := 5) (v := .ref tp) (C := RX4) (T := TX4) (N := 6) hx hb hts inX4 hown hK hP h_rd rfl 0 (by decide) (hts _ k_135) (fun _ h9 => h9) rfl dX4_close_16 ?_
    refine lv_iload_n hx hb dX4_close_19 rfl (lv_at hl 3 rfl) ?_
    refine lv_iload hx hb dX4_close_20 (lv_at hl 4 rfl) ?_
    refine o_cv (k := 0 + 1 + 3) (n := 0 + 9 + ((to_ - fm) + (4 * ((to_ - fm) / 20) + 2))) hK hP hD hS hA (o_rI (As := [.int (nI (xs.length)), .int kd, .ref tp, .int (nI fm), .int (nI to_)]) (rest := [.ref q_el, .ref els]) hf (l_init _ _ _ _ _ _ _ _ q_el tp by_ n fm to_ kd (nI (xs.length)) T h_el h_tp h_by hn (by omega) (by omega) hTb hk6 _) k_184 k_607 k_183 k_90 rfl (nA := 5) (by decide +kernel) ⟨Nat.le_of_ble_eq_true rfl, Nat.le_of_ble_eq_true rfl⟩ hK hP hD hS hA hZ hN rfl hl.1 rfl (Nat.le_of_ble_eq_true rfl) dX4_close_22 ⟨(show 0 + 1 + 3 ≤ 4 + gcel xs.length cap by omega), (show 0 + 9 + ((to_ - fm) + (4 * ((to_ - fm) / 20) + 2)) ≤ 9 + ((to_ - fm) + (4 * ((to_ - fm) / 20) + 2)) + gslo xs.length cap by omega)⟩) (by omega) (by omega) (fun L g H locs hw hP hD hS => ?_)
    obtain ⟨w2, X2, eX, hf9, hfa9, h_ne⟩ := hw
    have h_rd := h_rd.fr hf9 (by decide)
    have h_tp := h_tp.fr hf9 (by decide)
    have h_by := h_by.fr hf9 (by decide)
    have hfr := hfr.tm hf9 (by decide)
    have h_els := h_els.frd hf9 (by decide)
    have hfa := hfa.tm hfa9 (fal_s (Or.inr hq_q_el) fal_0)
    have h_es := h_es0.fa0 hfa
    obtain ⟨tx9, rf9, rt9, N9, M9, tf9, f19, f29, h_el, _⟩ := id h_ne
    obtain ⟨mc9, d9, h_al9⟩ := h_els.al
    refine o_ci (k := 0 + 1 + 3 + (gcel xs.length cap)) (n := 0 + 9 + ((to_ - fm) + (4 * ((to_ - fm) / 20) + 2)) + (gslo xs.length cap)) hK hP hD hS hA (o_rV (As := [.ref q_el]) (rest := []) hf (li_add _ _ _ _ _ _ _ _ els 5 6 cap xs 9 q_el 2 rxE [.int kd, .int (nI (xs.length)), .int 0, .ref tx9, .int (nI (X2.length)), .int (nI w2), .ref rf9, .ref rt9, .int (nI ((tx_rows kd X2).length))] h_els h_el (by decide) (by decide) (by decide) rfl hcaE h_es.ob (hcp) _) k_611 k_608 k_609 k_610 k_89 (nA := 1) (by decide +kernel) ⟨Nat.le_of_ble_eq_true rfl, Nat.le_of_ble_eq_true rfl⟩ hK hP hD hS hA hZ hN h_al9 rfl rfl rfl hl.1 rfl (Nat.le_of_ble_eq_true rfl) dX4_close_25 ⟨(show 0 + 1 + 3 + (gcel xs.length cap) ≤ 4 + gcel xs.length cap by omega), (show 0 + 9 + ((to_ - fm) + (4 * ((to_ - fm) / 20) + 2)) + (gslo xs.length cap) ≤ 9 + ((to_ - fm) + (4 * ((to_ - fm) / 20) + 2)) + gslo xs.length cap by omega)⟩) (by omega) (by omega) (fun r L g H locs hw hP hD hS => ?_)
    obtain ⟨rfl, hf9, h_els⟩ := hw
    have h_rd := h_rd.fr hf9 (by decide)
    have h_tp := h_tp.fr hf9 (by decide)
    have h_by := h_by.fr hf9 (by decide)
    have h_el := h_el.fr hf9 (by decide)
    have hfr := hfr.tm hf9 (by decide)
    have h_es := h_es.frd hf9 (by decide)
    have h_ne3 := h_ne.fr hf9 (by decide)
    refine lv_pop hx hb dX4_close_28 rfl ?_
    exact o_rv hf hr hlocks hK hP hD hS (show 0 + 1 + 3 + (gcel xs.length cap) ≤ 4 + gcel xs.length cap by omega) (show 0 + 9 + ((to_ - fm) + (4 * ((to_ - fm) / 20) + 2)) + (gslo xs.length cap) ≤ 9 + ((to_ - fm) + (4 * ((to_ - fm) / 20) + 2)) + gslo xs.length cap by omega) ⟨_, w2, X2, eX, hfr, h_els, (h_es.add hxq (show elR cB cI_ L g q_el kd (nI xs.length) 0 w2 X2 from h_ne3))⟩ dX4_close_29
set_option maxHeartbeats 1000000 in
set_option maxRecDepth 100000 in
theorem r_closeN (l : Launch) (D : va_G) (z : Nat → Nat) (cB cI_ cO : ClassId) (L0 : List Nat) (g0 : hG) (rd tp by_ n nx fm0 to0 : Nat) (kd0 ka0 : Int32) (T : Nat → Int32) (els cap : Nat) (xs : List Nat) (Es : List E5) (fm to_ : Nat) (h_rd : ho L0 g0 rd 4 (.inr (5, [.ref tp, .int (nI nx), .int (nI fm0), .int (nI to0), .int kd0, .int ka0])))  : eVs l D yX4_close cX4_close 5 none 0 0 0 0 [.ref rd, .ref els, .int (-1), .int (nI fm), .int (nI to_)] z cB cI_ cO L0 g0 (True) := by
  refine o_sv (by decide) (Nat.le_of_ble_eq_true rfl) ?_
  intro p e s m below meth c A ls hf hr hlocks hin hK hP hD hS hA hZ hN hl
  obtain ⟨hx, hb, hml, hown, hts⟩ := id hf
  have hl : lv_has ls 5 [(0, .ref rd), (1, .ref els), (2, .int (-1)), (3, .int (nI fm)), (4, .int (nI to_))] := hl
  refine lv_iload_n hx hb dX4_close_0 rfl (lv_at hl 2 rfl) ?_
  refine lv_iconst (v := (-1)) hx hb dX4_close_1 (by decide) ?_
  refine lv_icmp_eq (tgt := 29) hx hb dX4_close_2 (by decide) (fun _ => ?_) (fun hno => absurd hno (by decide))
  exact o_rv hf hr hlocks hK hP hD hS (show 0 ≤ 0 by omega) (show 0 ≤ 0 by omega) ⟨trivial, rfl, rfl⟩ dX4_close_29
