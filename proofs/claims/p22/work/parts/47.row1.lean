theorem up1.fr {L : List Nat} {g g1 : hG} {a t : Nat} (hu : up1 g a t g1) : fr [t] L g L g1 := fr.rf.up hu List.mem_cons_self
theorem nw1.fr {L L1 : List Nat} {g g1 : hG} {q : Nat} (hn : nw1 L g q L1 g1) : fr [] L g L1 g1 := fr.rf.nw hn
theorem nc_of {t : Nat} {ts : List Nat} (h : ts.contains t = false) : t ∉ ts := fun z => by
  rw [List.contains_iff_mem.mpr z] at h; cases h
abbrev fr_ (ts L : List Nat) (g : hG) (L1 : List Nat) (g1 : hG) : Prop := fr ts L g L1 g1
theorem alR.frd {cO : ClassId} {z0 tA tD : Nat} {ts L L1 : List Nat} {g g1 : hG} {al cap : Nat} {xs : List Nat} (h : alR cO z0 tA tD L g al cap xs) (hf : fr_ ts L g L1 g1) (hd : ts.contains tA = false ∧ ts.contains tD = false) : alR cO z0 tA tD L1 g1 al cap xs := h.fr hf (nc_of hd.1) (nc_of hd.2)
abbrev d4 : Q4 := (0, 0, 0, 0)
/-- the pieces in their order: element, from, to, group -/
def pcR (L : List Nat) (g : hG) (ea : Nat → Nat) (pa : List Nat) (P : List Q4) : Prop := pa.length = P.length ∧ ∀ i, i < pa.length → ho L g (pa.getD i 0) 18 (.inr (6, [.ref (ea (P.getD i d4).1), .int (nI (P.getD i d4).2.1), .int (nI (P.getD i d4).2.2.1), .int (nI (P.getD i d4).2.2.2)]))
def spR (L : List Nat) (g : hG) (sa : List Nat) : Prop := ∀ y, y ∈ sa → ∃ v0 v1 v2 v3 : Value, ho L g y 18 (.inr (6, [v0, v1, v2, v3]))
theorem pcR.frd {ts L L1 : List Nat} {g g1 : hG} {ea : Nat → Nat} {pa : List Nat} {P : List Q4} (h : pcR L g ea pa P) (hf : fr ts L g L1 g1) (hd : ts.contains 18 = false) : pcR L1 g1 ea pa P := ⟨h.1, fun i hi => (h.2 i hi).fr hf (nc_of hd)⟩
theorem spR.frd {ts L L1 : List Nat} {g g1 : hG} {sa : List Nat} (h : spR L g sa) (hf : fr ts L g L1 g1) (hd : ts.contains 18 = false) : spR L1 g1 sa := fun y hy => by obtain ⟨v0, v1, v2, v3, h9⟩ := h y hy; exact ⟨v0, v1, v2, v3, h9.fr hf (nc_of hd)⟩
theorem spR.ob {L : List Nat} {g : hG} {sa : List Nat} (h : spR L g sa) : ∀ y, y ∈ sa → ∃ fs, ho L g y 18 (.inr (6, fs)) := fun y hy => by obtain ⟨v0, v1, v2, v3, h9⟩ := h y hy; exact ⟨_, h9⟩
theorem pcR.ob {L : List Nat} {g : hG} {ea : Nat → Nat} {pa : List Nat} {P : List Q4} (h : pcR L g ea pa P) : ∀ y, y ∈ pa → ∃ fs, ho L g y 18 (.inr (6, fs)) := by
  intro y hy
  obtain ⟨i, hi, e⟩ := List.mem_iff_getElem.mp hy
  have h1 := h.2 i hi
  rw [show pa.getD i 0 = y by rw [List.getD_eq_getElem?_getD, List.getElem?_eq_getElem hi]; exact e] at h1
  exact ⟨_, h1⟩
abbrev rxP : vw_C := (RX5, TX5, 4)
abbrev rxE : vw_C := (RX1, TX1, 9)
theorem hcaP {z : Nat → Nat} : ∀ s : State, zB z s → va_Nw (.castable rxP.1 "java/lang/Object") s := fun _ h => h.2.2.2.2.2.2.1
theorem hcaE {z : Nat → Nat} : ∀ s : State, zB z s → va_Nw (.castable rxE.1 "java/lang/Object") s := fun _ h => h.2.2.2.2.2.1
abbrev cX5_beginsElement : ByteArray := prog_7_method_2_code
def yX5_beginsElement : MethodName := ⟨RX5, "beginsElement", "()Z"⟩
abbrev cX6_at : ByteArray := prog_8_method_3_code
def yX6_at : MethodName := ⟨RX6, "at", "(I)LScriptDesk$Piece;"⟩
abbrev cX6_size : ByteArray := prog_8_method_2_code
def yX6_size : MethodName := ⟨RX6, "size", "()I"⟩
theorem k_270 : (Cond.classLink RX6 21 RX5) ∈ gT := gT_i 270 (by decide +kernel) rfl
theorem k_283 : (Cond.fieldLink RX5 13 "ScriptDesk$Piece" "from" "I") ∈ gT := gT_i 283 (by decide +kernel) rfl
theorem k_304 : (Cond.fieldLink RX6 12 "ScriptDesk$PieceRow" "pieces" "Ljava/util/ArrayList;") ∈ gT := gT_i 304 (by decide +kernel) rfl
theorem k_306 : (Cond.fieldLink RX6 26 "ScriptDesk$PieceRow" "nowhere" "LScriptDesk$Piece;") ∈ gT := gT_i 306 (by decide +kernel) rfl
theorem k_604 : (Cond.instanceMethod yJx4a65c_size_8abf5) ∈ gT := gT_i 604 (by decide +kernel) rfl
theorem k_605 : (Cond.selects RJx4a65c yJx4a65c_size_8abf5 yJx4a65c_size_8abf5) ∈ gT := gT_i 605 (by decide +kernel) rfl
theorem k_606 : (Cond.code yJx4a65c_size_8abf5 cJx4a65c_size_8abf5 1 (some .int)) ∈ gT := gT_i 606 (by decide +kernel) rfl
theorem k_671 : (Cond.methodLink RX6 30 yJx4a65c_size_8abf5) ∈ gT := gT_i 671 (by decide +kernel) rfl
theorem k_672 : (Cond.methodLink RX6 34 yJx4a65c_get_915e3) ∈ gT := gT_i 672 (by decide +kernel) rfl
theorem k_673 : (Cond.instanceMethod yJx4a65c_get_915e3) ∈ gT := gT_i 673 (by decide +kernel) rfl
theorem k_674 : (Cond.selects RJx4a65c yJx4a65c_get_915e3 yJx4a65c_get_915e3) ∈ gT := gT_i 674 (by decide +kernel) rfl
theorem k_675 : (Cond.code yJx4a65c_get_915e3 cJx4a65c_get_915e3 2 (some (.object "java/lang/Object"))) ∈ gT := gT_i 675 (by decide +kernel) rfl
theorem dX6_size_0 : decode cX6_size 0 = .ok (.aload_n 0, 1) := by decide +kernel
theorem dX6_size_1 : decode cX6_size 1 = .ok (.getfield 12, 3) := by decide +kernel
theorem dX6_size_4 : decode cX6_size 4 = .ok (.invokevirtual 30, 3) := by decide +kernel
theorem dX6_size_7 : decode cX6_size 7 = .ok (.ireturn, 1) := by decide +kernel
theorem dX6_at_0 : decode cX6_at 0 = .ok (.iload_n 1, 1) := by decide +kernel
theorem dX6_at_1 : decode cX6_at 1 = .ok (.ifCond .lt 28, 3) := by decide +kernel
theorem dX6_at_4 : decode cX6_at 4 = .ok (.iload_n 1, 1) := by decide +kernel
theorem dX6_at_5 : decode cX6_at 5 = .ok (.aload_n 0, 1) := by decide +kernel
theorem dX6_at_6 : decode cX6_at 6 = .ok (.getfield 12, 3) := by decide +kernel
theorem dX6_at_9 : decode cX6_at 9 = .ok (.invokevirtual 30, 3) := by decide +kernel
theorem dX6_at_12 : decode cX6_at 12 = .ok (.if_icmp .ge 17, 3) := by decide +kernel
theorem dX6_at_15 : decode cX6_at 15 = .ok (.aload_n 0, 1) := by decide +kernel
theorem dX6_at_16 : decode cX6_at 16 = .ok (.getfield 12, 3) := by decide +kernel
theorem dX6_at_19 : decode cX6_at 19 = .ok (.iload_n 1, 1) := by decide +kernel
theorem dX6_at_20 : decode cX6_at 20 = .ok (.invokevirtual 34, 3) := by decide +kernel
theorem dX6_at_23 : decode cX6_at 23 = .ok (.checkcast 21, 3) := by decide +kernel
theorem dX6_at_26 : decode cX6_at 26 = .ok (.goto 7, 3) := by decide +kernel
theorem dX6_at_33 : decode cX6_at 33 = .ok (.areturn, 1) := by decide +kernel
theorem dX6_at_29 : decode cX6_at 29 = .ok (.aload_n 0, 1) := by decide +kernel
theorem dX6_at_30 : decode cX6_at 30 = .ok (.getfield 26, 3) := by decide +kernel
theorem dX5_beginsElement_0 : decode cX5_beginsElement 0 = .ok (.aload_n 0, 1) := by decide +kernel
theorem dX5_beginsElement_1 : decode cX5_beginsElement 1 = .ok (.getfield 13, 3) := by decide +kernel
theorem dX5_beginsElement_4 : decode cX5_beginsElement 4 = .ok (.ifCond .ne 7, 3) := by decide +kernel
theorem dX5_beginsElement_11 : decode cX5_beginsElement 11 = .ok (.iconst 0, 1) := by decide +kernel
theorem dX5_beginsElement_12 : decode cX5_beginsElement 12 = .ok (.ireturn, 1) := by decide +kernel
theorem dX5_beginsElement_7 : decode cX5_beginsElement 7 = .ok (.iconst 1, 1) := by decide +kernel
theorem dX5_beginsElement_8 : decode cX5_beginsElement 8 = .ok (.goto 4, 3) := by decide +kernel
set_option maxHeartbeats 1000000 in
set_option maxRecDepth 100000 in
theorem p_size (l : Launch) (D : va_G) (z : Nat → Nat) (cB cI_ cO : ClassId) (L0 : List Nat) (g0 : hG) (pr pcs spr nwh cp : Nat) (pa : List Nat) (ea : Nat → Nat) (P : List Q4) (h_pr : ho L0 g0 pr 13 (.inr (7, [.ref pcs, .ref spr, .ref nwh]))) (h_pcs : alR cO (z 0) 14 15 L0 g0 pcs cp pa)  : eIs l D yX6_size cX6_size 1 (some .int) 1 20 0 0 [.ref pr] z cB cI_ cO L0 g0 (fun r => r = nI pa.length) := by
  refine o_si (by decide) (Nat.le_of_ble_eq_true rfl) ?_
  intro p e s m below meth c A ls hf hr hlocks hin hK hP hD hS hA hZ hN hl
  obtain ⟨hx, hb, hml, hown, hts⟩ := id hf
  have hl : lv_has ls 1 [(0, .ref pr)] := hl
  refine lv_aload_n hx hb dX6_size_0 rfl (lv_at hl 0 rfl) ?_
  refine o_get (D := D) (ci := 7) (v := .ref pcs) (C := RX6) (T := TX6) (N := 3) hx hb hts inX6 hown hK hP h_pr rfl 0 (by decide) (hts _ k_304) (fun _ h9 => h9) rfl dX6_size_1 ?_
  obtain ⟨mc9, d9, h_al9⟩ := h_pcs.al
  refine o_cis (k := 0) (n := 0) hK hP hD hS hA (o_rV (As := []) (rest := []) hf (li_size _ _ _ _ _ _ _ _ pcs 14 15 cp pa h_pcs _) k_606 k_671 k_604 k_605 k_89 (nA := 0) (by decide +kernel) ⟨Nat.le_of_ble_eq_true rfl, Nat.le_of_ble_eq_true rfl⟩ hK hP hD hS hA hZ hN h_al9 rfl rfl rfl hl.1 rfl (Nat.le_of_ble_eq_true rfl) dX6_size_4 ⟨(show 0 + 0 ≤ 0 by omega), (show 0 + 0 ≤ 0 by omega)⟩) (Nat.le_refl _) (Nat.le_refl _) (fun r H locs hw hP hD hS => ?_)
  obtain rfl := hw
  exact o_ri hf hr rfl hlocks hK hP hD hS (show 0 ≤ 0 by omega) (show 0 ≤ 0 by omega) ⟨rfl, rfl, rfl⟩ dX6_size_7
set_option maxHeartbeats 1000000 in
set_option maxRecDepth 100000 in
theorem p_atI (l : Launch) (D : va_G) (z : Nat → Nat) (cB cI_ cO : ClassId) (L0 : List Nat) (g0 : hG) (pr pcs spr nwh cp : Nat) (pa : List Nat) (ea : Nat → Nat) (P : List Q4) (i : Nat) (h_pr : ho L0 g0 pr 13 (.inr (7, [.ref pcs, .ref spr, .ref nwh]))) (h_pcs : alR cO (z 0) 14 15 L0 g0 pcs cp pa) (h_pc : pcR L0 g0 ea pa P) (hpa : pa.length ≤ 20000) (hi : i < pa.length) : eRs l D yX6_at cX6_at 2 (some (.object "ScriptDesk$Piece")) 3 64 0 0 [.ref pr, .int (nI i)] z cB cI_ cO L0 g0 (fun r => r = pa.getD i 0) := by
  refine o_sr (by decide) (Nat.le_of_ble_eq_true rfl) ?_
  intro p e s m below meth c A ls hf hr hlocks hin hK hP hD hS hA hZ hN hl
  obtain ⟨hx, hb, hml, hown, hts⟩ := id hf
  have hl : lv_has ls 2 [(0, .ref pr), (1, .int (nI i))] := hl
  refine lv_iload_n hx hb dX6_at_0 rfl (lv_at hl 1 rfl) ?_
  refine lv_if_lt (tgt := 29) hx hb dX6_at_1 (by decide) (fun c_1 => ?_) (fun c_1 => ?_)
  · have c_1 := q_lt (a := i) (b := 0) (by omega) (by omega) c_1
    exact False.elim (by omega)
  · have c_1 := q_nlt (a := i) (b := 0) (by omega) (by omega) c_1
    refine lv_iload_n hx hb dX6_at_4 rfl (lv_at hl 1 rfl) ?_
    refine lv_aload_n hx hb dX6_at_5 rfl (lv_at hl 0 rfl) ?_
    refine o_get (D := D) (ci := 7) (v := .ref pcs) (C := RX6) (T := TX6) (N := 3) hx hb hts inX6 hown hK hP h_pr rfl 0 (by decide) (hts _ k_304) (fun _ h9 => h9) rfl dX6_at_6 ?_
    obtain ⟨mc9, d9, h_al9⟩ := h_pcs.al
    refine o_cis (k := 0) (n := 0) hK hP hD hS hA (o_rV (As := []) (rest := [.int (nI i)]) hf (li_size _ _ _ _ _ _ _ _ pcs 14 15 cp pa h_pcs _) k_606 k_671 k_604 k_605 k_89 (nA := 0) (by decide +kernel) ⟨Nat.le_of_ble_eq_true rfl, Nat.le_of_ble_eq_true rfl⟩ hK hP hD hS hA hZ hN h_al9 rfl rfl rfl hl.1 rfl (Nat.le_of_ble_eq_true rfl) dX6_at_9 ⟨(show 0 + 0 ≤ 0 by omega), (show 0 + 0 ≤ 0 by omega)⟩) (Nat.le_refl _) (Nat.le_refl _) (fun r H locs hw hP hD hS => ?_)
    obtain rfl := hw
    refine lv_icmp_ge (tgt := 29) hx hb dX6_at_12 (by decide) (fun c_2 => ?_) (fun c_2 => ?_)
    · have c_2 := q_le (a := pa.length) (b := i) (by omega) (by omega) c_2
      exact False.elim (by omega)
    · have c_2 := q_nle (a := pa.length) (b := i) (by omega) (by omega) c_2
      refine lv_aload_n hx hb dX6_at_15 rfl (lv_at hl 0 rfl) ?_
      refine o_get (D := D) (ci := 7) (v := .ref pcs) (C := RX6) (T := TX6) (N := 3) hx hb hts inX6 hown hK hP h_pr rfl 0 (by decide) (hts _ k_304) (fun _ h9 => h9) rfl dX6_at_16 ?_
      refine lv_iload_n hx hb dX6_at_19 rfl (lv_at hl 1 rfl) ?_
      obtain ⟨mc9, d9, h_al9⟩ := h_pcs.al
      refine o_crs (k := 0) (n := 0) hK hP hD hS hA (o_rV (As := [.int (nI i)]) (rest := []) hf (li_get _ _ _ _ _ _ _ _ pcs 14 15 cp pa i h_pcs (by omega) _) k_675 k_672 k_673 k_674 k_89 (nA := 1) (by decide +kernel) ⟨Nat.le_of_ble_eq_true rfl, Nat.le_of_ble_eq_true rfl⟩ hK hP hD hS hA hZ hN h_al9 rfl rfl rfl hl.1 rfl (Nat.le_of_ble_eq_true rfl) dX6_at_20 ⟨(show 0 + 0 ≤ 0 by omega), (show 0 + 0 ≤ 0 by omega)⟩) (Nat.le_refl _) (Nat.le_refl _) (fun r H locs hw hP hD hS => ?_)
      obtain rfl := hw
      have h_p0 := h_pc.2 i (by omega)
      refine o_cast hx hb hown (hts _ k_270) hK hP h_p0 rfl rfl dX6_at_23 ?_
      refine lv_goto (tgt := 33) hx hb dX6_at_26 (by decide) ?_
      exact o_rr hf hr (Or.inl ⟨_, rfl⟩) hlocks hK hP hD hS (show 0 ≤ 0 by omega) (show 0 ≤ 0 by omega) ⟨rfl, rfl, rfl⟩ dX6_at_33
set_option maxHeartbeats 1000000 in
set_option maxRecDepth 100000 in
theorem p_atO (l : Launch) (D : va_G) (z : Nat → Nat) (cB cI_ cO : ClassId) (L0 : List Nat) (g0 : hG) (pr pcs spr nwh cp : Nat) (pa : List Nat) (ea : Nat → Nat) (P : List Q4) (i : Nat) (h_pr : ho L0 g0 pr 13 (.inr (7, [.ref pcs, .ref spr, .ref nwh]))) (h_pcs : alR cO (z 0) 14 15 L0 g0 pcs cp pa) (hpa : pa.length ≤ 20000) (hi : pa.length ≤ i) (hi2 : i < 2 ^ 30) : eRs l D yX6_at cX6_at 2 (some (.object "ScriptDesk$Piece")) 1 20 0 0 [.ref pr, .int (nI i)] z cB cI_ cO L0 g0 (fun r => r = nwh) := by
  refine o_sr (by decide) (Nat.le_of_ble_eq_true rfl) ?_
  intro p e s m below meth c A ls hf hr hlocks hin hK hP hD hS hA hZ hN hl
  obtain ⟨hx, hb, hml, hown, hts⟩ := id hf
  have hl : lv_has ls 2 [(0, .ref pr), (1, .int (nI i))] := hl
  refine lv_iload_n hx hb dX6_at_0 rfl (lv_at hl 1 rfl) ?_
  refine lv_if_lt (tgt := 29) hx hb dX6_at_1 (by decide) (fun c_1 => ?_) (fun c_1 => ?_)
  · have c_1 := q_lt (a := i) (b := 0) (by omega) (by omega) c_1
    exact False.elim (by omega)
  · have c_1 := q_nlt (a := i) (b := 0) (by omega) (by omega) c_1
    refine lv_iload_n hx hb dX6_at_4 rfl (lv_at hl 1 rfl) ?_
    refine lv_aload_n hx hb dX6_at_5 rfl (lv_at hl 0 rfl) ?_
    refine o_get (D := D) (ci := 7) (v := .ref pcs) (C := RX6) (T := TX6) (N := 3) hx hb hts inX6 hown hK hP h_pr rfl 0 (by decide) (hts _ k_304) (fun _ h9 => h9) rfl dX6_at_6 ?_
    obtain ⟨mc9, d9, h_al9⟩ := h_pcs.al
    refine o_cis (k := 0) (n := 0) hK hP hD hS hA (o_rV (As := []) (rest := [.int (nI i)]) hf (li_size _ _ _ _ _ _ _ _ pcs 14 15 cp pa h_pcs _) k_606 k_671 k_604 k_605 k_89 (nA := 0) (by decide +kernel) ⟨Nat.le_of_ble_eq_true rfl, Nat.le_of_ble_eq_true rfl⟩ hK hP hD hS hA hZ hN h_al9 rfl rfl rfl hl.1 rfl (Nat.le_of_ble_eq_true rfl) dX6_at_9 ⟨(show 0 + 0 ≤ 0 by omega), (show 0 + 0 ≤ 0 by omega)⟩) (Nat.le_refl _) (Nat.le_refl _) (fun r H locs hw hP hD hS => ?_)
    obtain rfl := hw
    refine lv_icmp_ge (tgt := 29) hx hb dX6_at_12 (by decide) (fun c_2 => ?_) (fun c_2 => ?_)
    · have c_2 := q_le (a := pa.length) (b := i) (by omega) (by omega) c_2
      refine lv_aload_n hx hb dX6_at_29 rfl (lv_at hl 0 rfl) ?_
      refine o_get (D := D) (ci := 7) (v := .ref nwh) (C := RX6) (T := TX6) (N := 3) hx hb hts inX6 hown hK hP h_pr rfl 2 (by decide) (hts _ k_306) (fun _ h9 => h9) rfl dX6_at_30 ?_
      exact o_rr hf hr (Or.inl ⟨_, rfl⟩) hlocks hK hP hD hS (show 0 ≤ 0 by omega) (show 0 ≤ 0 by omega) ⟨rfl, rfl, rfl⟩ dX6_at_33
    · have c_2 := q_nle (a := pa.length) (b := i) (by omega) (by omega) c_2
      exact False.elim (by omega)
set_option maxHeartbeats 1000000 in
set_option maxRecDepth 100000 in
theorem p_atM (l : Launch) (D : va_G) (z : Nat → Nat) (cB cI_ cO : ClassId) (L0 : List Nat) (g0 : hG) (pr pcs spr nwh cp : Nat) (pa : List Nat) (ea : Nat → Nat) (P : List Q4) (h_pr : ho L0 g0 pr 13 (.inr (7, [.ref pcs, .ref spr, .ref nwh]))) (h_pcs : alR cO (z 0) 14 15 L0 g0 pcs cp pa)  : eRs l D yX6_at cX6_at 2 (some (.object "ScriptDesk$Piece")) 0 0 0 0 [.ref pr, .int (-1)] z cB cI_ cO L0 g0 (fun r => r = nwh) := by
  refine o_sr (by decide) (Nat.le_of_ble_eq_true rfl) ?_
  intro p e s m below meth c A ls hf hr hlocks hin hK hP hD hS hA hZ hN hl
  obtain ⟨hx, hb, hml, hown, hts⟩ := id hf
  have hl : lv_has ls 2 [(0, .ref pr), (1, .int (-1))] := hl
  refine lv_iload_n hx hb dX6_at_0 rfl (lv_at hl 1 rfl) ?_
  refine lv_if_lt (tgt := 29) hx hb dX6_at_1 (by decide) (fun _ => ?_) (fun hno => absurd hno (by decide))
  refine lv_aload_n hx hb dX6_at_29 rfl (lv_at hl 0 rfl) ?_
  refine o_get (D := D) (ci := 7) (v := .ref nwh) (C := RX6) (T := TX6) (N := 3) hx hb hts inX6 hown hK hP h_pr rfl 2 (by decide) (hts _ k_306) (fun _ h9 => h9) rfl dX6_at_30 ?_
  exact o_rr hf hr (Or.inl ⟨_, rfl⟩) hlocks hK hP hD hS (show 0 ≤ 0 by omega) (show 0 ≤ 0 by omega) ⟨rfl, rfl, rfl⟩ dX6_at_33
set_option maxHeartbeats 1000000 in
set_option maxRecDepth 100000 in
theorem p_begE (l : Launch) (D : va_G) (z : Nat → Nat) (cB cI_ cO : ClassId) (L0 : List Nat) (g0 : hG) (pi_ el a b c_ : Nat) (h_p0 : ho L0 g0 pi_ 18 (.inr (6, [.ref el, .int (nI a), .int (nI b), .int (nI c_)]))) (ha : a < 2 ^ 30) : eIs l D yX5_beginsElement cX5_beginsElement 1 (some .boolean) 0 0 0 0 [.ref pi_] z cB cI_ cO L0 g0 (fun r => (a = 0 ∧ r = 1 ∨ ¬ a = 0 ∧ r = 0)) := by
  refine o_si (by decide) (Nat.le_of_ble_eq_true rfl) ?_
  intro p e s m below meth c A ls hf hr hlocks hin hK hP hD hS hA hZ hN hl
  obtain ⟨hx, hb, hml, hown, hts⟩ := id hf
  have hl : lv_has ls 1 [(0, .ref pi_)] := hl
  refine lv_aload_n hx hb dX5_beginsElement_0 rfl (lv_at hl 0 rfl) ?_
  refine o_get (D := D) (ci := 6) (v := .int (nI a)) (C := RX5) (T := TX5) (N := 4) hx hb hts inX5 hown hK hP h_p0 rfl 1 (by decide) (hts _ k_283) (fun _ h9 => h9) rfl dX5_beginsElement_1 ?_
  refine lv_if_ne (tgt := 11) hx hb dX5_beginsElement_4 (by decide) (fun c_1 => ?_) (fun c_1 => ?_)
  · have c_1 := q_nen (a := a) (b := 0) (by omega) (by omega) c_1
    refine lv_iconst (v := 0) hx hb dX5_beginsElement_11 (by decide) ?_
    exact o_ri hf hr rfl hlocks hK hP hD hS (show 0 ≤ 0 by omega) (show 0 ≤ 0 by omega) ⟨Or.inr ⟨by omega, rfl⟩, rfl, rfl⟩ dX5_beginsElement_12
  · have c_1 := q_eqn (a := a) (b := 0) (by omega) (by omega) c_1
    refine lv_iconst (v := 1) hx hb dX5_beginsElement_7 (by decide) ?_
    refine lv_goto (tgt := 12) hx hb dX5_beginsElement_8 (by decide) ?_
    exact o_ri hf hr rfl hlocks hK hP hD hS (show 0 ≤ 0 by omega) (show 0 ≤ 0 by omega) ⟨Or.inl ⟨by omega, rfl⟩, rfl, rfl⟩ dX5_beginsElement_12
