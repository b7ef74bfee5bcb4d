theorem er_perm {pa : List Nat} {i : Nat} (hi : i < pa.length) : List.Perm pa (pa.getD i 0 :: pa.eraseIdx i) := by
  rw [List.eraseIdx_eq_take_drop_succ, List.getD_eq_getElem?_getD, List.getElem?_eq_getElem hi]
  have h := List.perm_middle (a := pa[i]) (l₁ := pa.take i) (l₂ := pa.drop (i + 1))
  rw [← List.drop_eq_getElem_cons hi, List.take_append_drop] at h
  exact h
theorem nodup_sw {pa sa : List Nat} {i : Nat} (h : (pa ++ sa).Nodup) (hi : i < pa.length) : (pa.eraseIdx i ++ (sa ++ [pa.getD i 0])).Nodup := by
  have h2 := (er_perm hi).append_right sa
  rw [List.cons_append] at h2
  have h3 := List.nodup_cons.mp (h2.nodup_iff.mp h)
  rw [← List.append_assoc]
  refine List.nodup_append.mpr ⟨h3.2, List.nodup_cons.mpr ⟨List.not_mem_nil, List.nodup_nil⟩, fun a ha b hb e => h3.1 ?_⟩
  rw [List.mem_singleton.mp hb] at e
  rw [← e]
  exact ha
theorem ls_drop {pa : List Nat} {i : Nat} (h : i < pa.length) : pa.drop i = pa.getD i 0 :: pa.drop (i + 1) := by
  rw [List.drop_eq_getElem_cons h, List.getD_eq_getElem?_getD, List.getElem?_eq_getElem h]
  rfl
theorem pcR.o4 {L : List Nat} {g : hG} {ea : Nat → Nat} {pa : List Nat} {P : List Q4} (h : pcR L g ea pa P) : spR L g pa := by
  intro y hy
  obtain ⟨i, hi, e⟩ := List.mem_iff_getElem.mp hy
  have h1 := h.2 i hi
  rw [show pa.getD i 0 = y by rw [List.getD_eq_getElem?_getD, List.getElem?_eq_getElem hi]; exact e] at h1
  exact ⟨_, _, _, _, h1⟩
theorem spR_add {L : List Nat} {g : hG} {sa : List Nat} {x : Nat} (h : spR L g sa) (hx : ∃ v0 v1 v2 v3 : Value, ho L g x 18 (.inr (6, [v0, v1, v2, v3]))) : spR L g (sa ++ [x]) := by
  intro y hy
  rcases List.mem_append.mp hy with h1 | h1
  · exact h y h1
  · rw [List.mem_singleton.mp h1]; exact hx
abbrev cX6_clear : ByteArray := prog_8_method_4_code
def yX6_clear : MethodName := ⟨RX6, "clear", "()V"⟩
theorem k_305 : (Cond.fieldLink RX6 18 "ScriptDesk$PieceRow" "spare" "Ljava/util/ArrayList;") ∈ gT := gT_i 305 (by decide +kernel) rfl
theorem k_591 : (Cond.instanceMethod yJx4a65c_clear_da8c8) ∈ gT := gT_i 591 (by decide +kernel) rfl
theorem k_592 : (Cond.selects RJx4a65c yJx4a65c_clear_da8c8 yJx4a65c_clear_da8c8) ∈ gT := gT_i 592 (by decide +kernel) rfl
theorem k_593 : (Cond.code yJx4a65c_clear_da8c8 cJx4a65c_clear_da8c8 4 none) ∈ gT := gT_i 593 (by decide +kernel) rfl
theorem k_609 : (Cond.instanceMethod yJx4a65c_add_9ea2d) ∈ gT := gT_i 609 (by decide +kernel) rfl
theorem k_610 : (Cond.selects RJx4a65c yJx4a65c_add_9ea2d yJx4a65c_add_9ea2d) ∈ gT := gT_i 610 (by decide +kernel) rfl
theorem k_611 : (Cond.code yJx4a65c_add_9ea2d cJx4a65c_add_9ea2d 2 (some .boolean)) ∈ gT := gT_i 611 (by decide +kernel) rfl
theorem k_684 : (Cond.methodLink RX6 38 yJx4a65c_add_9ea2d) ∈ gT := gT_i 684 (by decide +kernel) rfl
theorem k_685 : (Cond.methodLink RX6 42 yJx4a65c_clear_da8c8) ∈ gT := gT_i 685 (by decide +kernel) rfl
theorem dX6_clear_2 : decode cX6_clear 2 = .ok (.iload_n 1, 1) := by decide +kernel
theorem dX6_clear_3 : decode cX6_clear 3 = .ok (.aload_n 0, 1) := by decide +kernel
theorem dX6_clear_4 : decode cX6_clear 4 = .ok (.getfield 12, 3) := by decide +kernel
theorem dX6_clear_7 : decode cX6_clear 7 = .ok (.invokevirtual 30, 3) := by decide +kernel
theorem dX6_clear_10 : decode cX6_clear 10 = .ok (.if_icmp .ge 28, 3) := by decide +kernel
theorem dX6_clear_13 : decode cX6_clear 13 = .ok (.aload_n 0, 1) := by decide +kernel
theorem dX6_clear_14 : decode cX6_clear 14 = .ok (.getfield 18, 3) := by decide +kernel
theorem dX6_clear_17 : decode cX6_clear 17 = .ok (.aload_n 0, 1) := by decide +kernel
theorem dX6_clear_18 : decode cX6_clear 18 = .ok (.getfield 12, 3) := by decide +kernel
theorem dX6_clear_21 : decode cX6_clear 21 = .ok (.iload_n 1, 1) := by decide +kernel
theorem dX6_clear_22 : decode cX6_clear 22 = .ok (.invokevirtual 34, 3) := by decide +kernel
theorem dX6_clear_25 : decode cX6_clear 25 = .ok (.checkcast 21, 3) := by decide +kernel
theorem dX6_clear_28 : decode cX6_clear 28 = .ok (.invokevirtual 38, 3) := by decide +kernel
theorem dX6_clear_31 : decode cX6_clear 31 = .ok (.pop, 1) := by decide +kernel
theorem dX6_clear_32 : decode cX6_clear 32 = .ok (.iinc 1 1, 3) := by decide +kernel
theorem dX6_clear_35 : decode cX6_clear 35 = .ok (.goto (-33), 3) := by decide +kernel
theorem dX6_clear_0 : decode cX6_clear 0 = .ok (.iconst 0, 1) := by decide +kernel
theorem dX6_clear_1 : decode cX6_clear 1 = .ok (.istore_n 1, 1) := by decide +kernel
theorem dX6_clear_38 : decode cX6_clear 38 = .ok (.aload_n 0, 1) := by decide +kernel
theorem dX6_clear_39 : decode cX6_clear 39 = .ok (.getfield 12, 3) := by decide +kernel
theorem dX6_clear_42 : decode cX6_clear 42 = .ok (.invokevirtual 42, 3) := by decide +kernel
theorem dX6_clear_45 : decode cX6_clear 45 = .ok (.return_, 1) := by decide +kernel
set_option maxHeartbeats 1000000 in
set_option maxRecDepth 100000 in
theorem pc_loop {p : Program} {l : Launch} {e : Env} {R : Room} {s : State} {m : MethodId} {args : Array Value} {below : List Frame} {meth : Method} {c : Code} {Q : State → Prop} {D : va_G} {A : Nat → Prop} {z : Nat → Nat} {cB cI_ cO : ClassId} {L0 : List Nat} {g0 : hG} {pr pcs spr nwh cp B cE sE : Nat} {pa : List Nat} {ea : Nat → Nat} {P : List Q4} (hpa : pa.length ≤ 20000) (hB : 10 ≤ B) (hB2 : B ≤ 60000) (hcE : cE ≤ R.cells) (hsE : sE ≤ R.slots) (hRf : 8 ≤ R.frames) (hRl : 200 ≤ R.locals) (hA : ∀ q : Nat, s.heap.size ≤ q → A q) (hf : CallFix p m c cX6_clear 2 s args gT yX6_clear.cls) (hK : va_K D vcl (dT cB cI_ cO) s) (hZ : zA z A s s.heap) (hN : zB z s) :
    ∀ (k : Nat) (i : Nat) (cs : Nat) (sa : List Nat) (cells slots : Nat) (L : List Nat) (g : hG) (H : Heap) (locs : List Loc) (ls : Array Slot), i + k = pa.length → 3 * (sa.length + (pa.length - i)) ≤ 2 * B → cs ≤ B → cells + (B - cs) / 5 ≤ cE → slots + 4 * (B - cs) ≤ sE → ho L g pr 13 (.inr (7, [.ref pcs, .ref spr, .ref nwh])) → alR cO (z 0) 14 15 L g pcs cp pa → alR cO (z 0) 16 17 L g spr cs sa → pcR L g ea pa P → spR L g sa → fr [16, 17] L0 g0 L g → va_P D vcl (dW L g) H → va_D A (dW L g) → va_S A s.heap H locs → lv_has ls 2 [(1, .int (nI i)), (0, .ref pr)] →
    (∀ (s2 : List Nat) (c2 : Nat)  (L : List Nat) (g : hG) (H : Heap) (locs : List Loc) (ls : Array Slot), s2 = sa ++ pa.drop i → c2 ≤ B → ho L g pr 13 (.inr (7, [.ref pcs, .ref spr, .ref nwh])) → alR cO (z 0) 14 15 L g pcs cp pa → alR cO (z 0) 16 17 L g spr c2 s2 → pcR L g ea pa P → spR L g s2 → fr [16, 17] L0 g0 L g → va_P D vcl (dW L g) H → va_D A (dW L g) → va_S A s.heap H locs → lv_has ls 2 [(0, .ref pr)] → W p l e R s m args below meth c H locs cE sE Q (F0 m 38 ls [])) →
    W p l e R s m args below meth c H locs cells slots Q (F0 m 2 ls []) := by
  obtain ⟨hx, hb, hml, hown, hts⟩ := id hf
  intro k
  induction k with
  | zero =>
    intro i cs sa cells slots L g H locs ls hik hBs hcs hRc hRs h_pr h_pcs h_spr h_pc h_sp hfr hP hD hS hl kk
    refine lv_iload_n hx hb dX6_clear_2 rfl (lv_at hl 0 rfl) ?_
    refine lv_aload_n hx hb dX6_clear_3 rfl (lv_at hl 1 rfl) ?_
    refine o_get (D := D) (ci := 7) (v := .ref pcs) (C := RX6) (T := TX6) (N := 3) hx hb hts inX6 hown hK hP h_pr rfl 0 (by decide) (hts _ k_304) (fun _ h9 => h9) rfl dX6_clear_4 ?_
    obtain ⟨mc9, d9, h_al9⟩ := h_pcs.al
    refine o_cis (k := cells) (n := slots) hK hP hD hS hA (o_rV (As := []) (rest := [.int (nI i)]) hf (li_size _ _ _ _ _ _ _ _ pcs 14 15 cp pa h_pcs _) k_606 k_671 k_604 k_605 k_89 (nA := 0) (by decide +kernel) ⟨Nat.le_trans (by decide) hRf, Nat.le_trans (by decide) hRl⟩ hK hP hD hS hA hZ hN h_al9 rfl rfl rfl hl.1 rfl (Nat.le_of_ble_eq_true rfl) dX6_clear_7 ⟨(show cells + 0 ≤ R.cells by omega), (show slots + 0 ≤ R.slots by omega)⟩) (Nat.le_refl _) (Nat.le_refl _) (fun r H locs hw hP hD hS => ?_)
    obtain rfl := hw
    refine lv_icmp_ge (tgt := 38) hx hb dX6_clear_10 (by decide) (fun c_1 => ?_) (fun c_1 => ?_)
    · have c_1 := q_le (a := pa.length) (b := i) (by omega) (by omega) c_1
      refine W.widen (k := cE) (n := sE) (by omega) (by omega) ?_
      exact kk sa cs _ _ H locs ls (by rw [show pa.drop i = [] from List.drop_eq_nil_of_le (by omega), List.append_nil]) (by omega) h_pr h_pcs h_spr h_pc h_sp hfr hP hD hS (lv_sub hl (l' := [(0, .ref pr)]) [1] rfl)
    · have c_1 := q_nle (a := pa.length) (b := i) (by omega) (by omega) c_1
      exact False.elim (by omega)
  | succ k ih =>
    intro i cs sa cells slots L g H locs ls hik hBs hcs hRc hRs h_pr h_pcs h_spr h_pc h_sp hfr hP hD hS hl kk
    refine lv_iload_n hx hb dX6_clear_2 rfl (lv_at hl 0 rfl) ?_
    refine lv_aload_n hx hb dX6_clear_3 rfl (lv_at hl 1 rfl) ?_
    refine o_get (D := D) (ci := 7) (v := .ref pcs) (C := RX6) (T := TX6) (N := 3) hx hb hts inX6 hown hK hP h_pr rfl 0 (by decide) (hts _ k_304) (fun _ h9 => h9) rfl dX6_clear_4 ?_
    obtain ⟨mc9, d9, h_al9⟩ := h_pcs.al
    refine o_cis (k := cells) (n := slots) hK hP hD hS hA (o_rV (As := []) (rest := [.int (nI i)]) hf (li_size _ _ _ _ _ _ _ _ pcs 14 15 cp pa h_pcs _) k_606 k_671 k_604 k_605 k_89 (nA := 0) (by decide +kernel) ⟨Nat.le_trans (by decide) hRf, Nat.le_trans (by decide) hRl⟩ hK hP hD hS hA hZ hN h_al9 rfl rfl rfl hl.1 rfl (Nat.le_of_ble_eq_true rfl) dX6_clear_7 ⟨(show cells + 0 ≤ R.cells by omega), (show slots + 0 ≤ R.slots by omega)⟩) (Nat.le_refl _) (Nat.le_refl _) (fun r H locs hw hP hD hS => ?_)
    obtain rfl := hw
    refine lv_icmp_ge (tgt := 38) hx hb dX6_clear_10 (by decide) (fun c_1 => ?_) (fun c_1 => ?_)
    · have c_1 := q_le (a := pa.length) (b := i) (by omega) (by omega) c_1
      exact False.elim (by omega)
    · have c_1 := q_nle (a := pa.length) (b := i) (by omega) (by omega) c_1
      have hab := h_spr.b
      have hnb := ncap_b hab.1 hab.2.2
      refine lv_aload_n hx hb dX6_clear_13 rfl (lv_at hl 1 rfl) ?_
      refine o_get (D := D) (ci := 7) (v := .ref spr) (C := RX6) (T := TX6) (N := 3) hx hb hts inX6 hown hK hP h_pr rfl 1 (by decide) (hts _ k_305) (fun _ h9 => h9) rfl dX6_clear_14 ?_
      refine lv_aload_n hx hb dX6_clear_17 rfl (lv_at hl 1 rfl) ?_
      refine o_get (D := D) (ci := 7) (v := .ref pcs) (C := RX6) (T := TX6) (N := 3) hx hb hts inX6 hown hK hP h_pr rfl 0 (by decide) (hts _ k_304) (fun _ h9 => h9) rfl dX6_clear_18 ?_
      refine lv_iload_n hx hb dX6_clear_21 rfl (lv_at hl 0 rfl) ?_
      obtain ⟨mc9, d9, h_al9⟩ := h_pcs.al
      refine o_crs (k := cells) (n := slots) hK hP hD hS hA (o_rV (As := [.int (nI i)]) (rest := [.ref spr]) hf (li_get _ _ _ _ _ _ _ _ pcs 14 15 cp pa i h_pcs (by omega) _) k_675 k_672 k_673 k_674 k_89 (nA := 1) (by decide +kernel) ⟨Nat.le_trans (by decide) hRf, Nat.le_trans (by decide) hRl⟩ hK hP hD hS hA hZ hN h_al9 rfl rfl rfl hl.1 rfl (Nat.le_of_ble_eq_true rfl) dX6_clear_22 ⟨(show cells + 0 ≤ R.cells by omega), (show slots + 0 ≤ R.slots by omega)⟩) (Nat.le_refl _) (Nat.le_refl _) (fun r H locs hw hP hD hS => ?_)
      obtain rfl := hw
      have h_p0 := h_pc.2 i (by omega)
      refine o_cast hx hb hown (hts _ k_270) hK hP h_p0 rfl rfl dX6_clear_25 ?_
      obtain ⟨mc9, d9, h_al9⟩ := h_spr.al
      refine o_ci (k := cells + (gcel sa.length cs)) (n := slots + (gslo sa.length cs)) hK hP hD hS hA (o_rV (As := [.ref (pa.getD i 0)]) (rest := []) hf (li_add _ _ _ _ _ _ _ _ spr 16 17 cs sa 18 (pa.getD i 0) 6 rxP [.ref (ea (P.getD i d4).1), .int (nI ((P.getD i d4).2.1)), .int (nI ((P.getD i d4).2.2.1)), .int (nI ((P.getD i d4).2.2.2))] h_spr h_p0 (by decide) (by decide) (by decide) rfl hcaP h_sp.ob (by omega) _) k_611 k_684 k_609 k_610 k_89 (nA := 1) (by decide +kernel) ⟨Nat.le_trans (by decide) hRf, Nat.le_trans (by decide) hRl⟩ hK hP hD hS hA hZ hN h_al9 rfl rfl rfl hl.1 rfl (Nat.le_of_ble_eq_true rfl) dX6_clear_28 ⟨(show cells + (gcel sa.length cs) ≤ R.cells by omega), (show slots + (gslo sa.length cs) ≤ R.slots by omega)⟩) (by omega) (by omega) (fun r L g H locs hw hP hD hS => ?_)
      obtain ⟨rfl, hf9, h_spr⟩ := hw
      have h_pr := h_pr.fr hf9 (by decide)
      have h_p0 := h_p0.fr hf9 (by decide)
      have hfr := hfr.tr hf9
      have h_pcs := h_pcs.frd hf9 (by decide)
      have h_pc := h_pc.frd hf9 (by decide)
      have h_sp := h_sp.frd hf9 (by decide)
      have h_sp := spR_add h_sp (h_pc.o4 _ (ls_mem (show i < pa.length by omega)))
      refine lv_pop hx hb dX6_clear_31 rfl ?_
      refine lv_iinc (v := nI (i + 1)) (lv' := [(1, .int (nI (i + 1))), (0, .ref pr)]) hx hb dX6_clear_32 hl (k := 0) rfl (nI_addE (a := i) (b := 1) (by omega)) (by decide) rfl (fun ls hl => ?_)
      refine lv_goto (tgt := 2) hx hb dX6_clear_35 (by decide) ?_
      refine W.widen (k := cells + (ncap sa.length cs - cs) / 5) (n := slots + 4 * (ncap sa.length cs - cs)) (by omega) (by omega) ?_
      exact ih (i + 1) (ncap sa.length cs) (sa ++ [pa.getD i 0]) _ _ _ _ H locs ls (by omega) (by rw [List.length_append]; show 3 * (sa.length + 1 + (pa.length - (i + 1))) ≤ 2 * B; omega) (by omega) (by omega) (by omega) h_pr h_pcs h_spr h_pc h_sp hfr hP hD hS (lv_sub hl (l' := [(1, .int (nI (i + 1))), (0, .ref pr)]) [0, 1] rfl) (fun s2 c2 L g H locs ls a1 => kk s2 c2 L g H locs ls (a1.trans (by rw [List.append_assoc, ls_drop (i := i) (by omega)]; rfl)))
set_option maxHeartbeats 1000000 in
set_option maxRecDepth 100000 in
theorem p_clear (l : Launch) (D : va_G) (z : Nat → Nat) (cB cI_ cO : ClassId) (L0 : List Nat) (g0 : hG) (pr pcs spr nwh cp cs : Nat) (pa sa : List Nat) (ea : Nat → Nat) (P : List Q4) (B : Nat) (h_pr : ho L0 g0 pr 13 (.inr (7, [.ref pcs, .ref spr, .ref nwh]))) (h_pcs : alR cO (z 0) 14 15 L0 g0 pcs cp pa) (h_spr : alR cO (z 0) 16 17 L0 g0 spr cs sa) (h_pc : pcR L0 g0 ea pa P) (h_sp : spR L0 g0 sa) (hpa : pa.length ≤ 20000) (hB : 10 ≤ B) (hB2 : B ≤ 60000) (hcs : cs ≤ B) (hBs : 3 * (sa.length + pa.length) ≤ 2 * B) : eV l D yX6_clear cX6_clear 2 none 8 200 (B / 5) (4 * B) [.ref pr] z cB cI_ cO L0 g0 (fun L g => ∃ (s2 : List Nat) (c2 : Nat), s2 = sa ++ pa ∧ c2 ≤ B ∧ fr [14, 15, 16, 17] L0 g0 L g ∧ alR cO (z 0) 14 15 L g pcs cp [] ∧ alR cO (z 0) 16 17 L g spr c2 s2 ∧ spR L g s2) := by
  refine o_sv (by decide) (Nat.le_of_ble_eq_true rfl) ?_
  intro p e s m below meth c A ls hf hr hlocks hin hK hP hD hS hA hZ hN hl
  obtain ⟨hx, hb, hml, hown, hts⟩ := id hf
  have hl : lv_has ls 2 [(0, .ref pr)] := hl
  have hfr : fr [16, 17] L0 g0 L0 g0 := fr.rf
  refine lv_iconst (v := 0) hx hb dX6_clear_0 (by decide) ?_
  refine lv_istore_n (lv' := [(1, .int 0), (0, .ref pr)]) hx hb dX6_clear_1 rfl hl (by decide) rfl (fun ls hl => ?_)
  refine pc_loop (L0 := L0) (g0 := g0) (B := B) (cE := B / 5) (sE := 4 * B) hpa hB hB2 (Nat.le_refl _) (Nat.le_refl _) (Nat.le_of_ble_eq_true rfl) (Nat.le_of_ble_eq_true rfl) hA hf hK hZ hN pa.length 0 cs sa 0 0 _ _ _ _ ls (by omega) (by omega) (by omega) (by omega) (by omega) h_pr h_pcs h_spr h_pc h_sp hfr hP hD hS (lv_sub hl (l' := [(1, .int 0), (0, .ref pr)]) [0, 1] rfl) (fun s2 c2 L g H locs ls a1 a2 h_pr h_pcs h_spr h_pc h_sp hfr hP hD hS hl => ?_)
  have a1 : s2 = sa ++ pa := a1
  have hfr := hfr.mo (ts2 := [14, 15, 16, 17]) (by decide)
  refine lv_aload_n hx hb dX6_clear_38 rfl (lv_at hl 0 rfl) ?_
  refine o_get (D := D) (ci := 7) (v := .ref pcs) (C := RX6) (T := TX6) (N := 3) hx hb hts inX6 hown hK hP h_pr rfl 0 (by decide) (hts _ k_304) (fun _ h9 => h9) rfl dX6_clear_39 ?_
  obtain ⟨mc9, d9, h_al9⟩ := h_pcs.al
  refine o_cv (k := B / 5) (n := 4 * B) hK hP hD hS hA (o_rV (As := []) (rest := []) hf (li_clr _ _ _ _ _ _ _ _ pcs 14 15 cp pa h_pcs (by decide) _) k_593 k_685 k_591 k_592 k_89 (nA := 0) (by decide +kernel) ⟨Nat.le_of_ble_eq_true rfl, Nat.le_of_ble_eq_true rfl⟩ hK hP hD hS hA hZ hN h_al9 rfl rfl rfl hl.1 rfl (Nat.le_of_ble_eq_true rfl) dX6_clear_42 ⟨(show B / 5 + 0 ≤ B / 5 by omega), (show 4 * B + 0 ≤ 4 * B by omega)⟩) (Nat.le_refl _) (Nat.le_refl _) (fun L g H locs hw hP hD hS => ?_)
  obtain ⟨hf9, h_pcs⟩ := hw
  have h_pr := h_pr.fr hf9 (by decide)
  have hfr := hfr.tm hf9 (by decide)
  have h_spr := h_spr.frd hf9 (by decide)
  have h_pc := h_pc.frd hf9 (by decide)
  have h_sp := h_sp.frd hf9 (by decide)
  exact o_rv hf hr hlocks hK hP hD hS (show B / 5 ≤ B / 5 by omega) (show 4 * B ≤ 4 * B by omega) ⟨s2, c2, a1, a2, hfr, h_pcs, h_spr, h_sp⟩ dX6_clear_45
