/-- the pieces of the first n elements, whole -/
noncomputable def upP (Es : List E5) : Nat → List Q4
  | 0 => []
  | n + 1 => upP Es n ++ [(n, 0, eRw (Es.getD n dE), 0)]
theorem upP_len (Es : List E5) : ∀ n, (upP Es n).length = n := by
  intro n
  induction n with
  | zero => rfl
  | succ n ih =>
    show (upP Es n ++ [_]).length = n + 1
    rw [List.length_append, ih]
    rfl
theorem lsJ_end {P : List Q4} {n : Nat} {q : Q4} (h : P.length = n) : lsJ P n q = P ++ [q] := by
  unfold lsJ
  rw [List.take_of_length_le (by omega), List.drop_eq_nil_of_le (by omega)]
theorem pnew_c (sa : List Nat) : (sa.length = 0 ∧ pnew sa = 1) ∨ (¬ sa.length = 0 ∧ pnew sa = 0) := by
  unfold pnew
  by_cases h : sa.length = 0
  · rw [if_pos h]; exact Or.inl ⟨h, rfl⟩
  · rw [if_neg h]; exact Or.inr ⟨h, rfl⟩
theorem nodup_cm {pa sa : List Nat} (h : (pa ++ sa).Nodup) : ([] ++ (sa ++ pa)).Nodup := by
  rw [List.nil_append]
  exact List.perm_append_comm.nodup_iff.mp h
theorem elsR.o2 {cB cI_ : ClassId} {L : List Nat} {g : hG} {xs : List Nat} {Es : List E5} (h : elsR cB cI_ L g xs Es) {e : Nat} (he : e < xs.length) : (∃ tx rf rt : Nat, ho L g (xs.getD e 0) 9 (.inr (2, [.int (Es.getD e dE).1, .int (Es.getD e dE).2.1, .int (Es.getD e dE).2.2.1, .ref tx, .int (nI (Es.getD e dE).2.2.2.2.length), .int (nI (Es.getD e dE).2.2.2.1), .ref rf, .ref rt, .int (nI (eRw (Es.getD e dE)))]))) ∧ eRw (Es.getD e dE) ≤ 200 := by
  obtain ⟨tx, rf, rt, N0, M, tf, f1, f2, h1, h2, h3, h4, h5, h6, h7, h8⟩ := h.2.2 e he
  have h9 := h7.2.2
  exact ⟨⟨tx, rf, rt, h1⟩, Nat.le_trans h9.1 h9.2.1⟩
abbrev cX9_standUnlocked : ByteArray := prog_1_method_26_code
def yX9_standUnlocked : MethodName := ⟨RX9, "standUnlocked", "()V"⟩
theorem k_180 : (Cond.classLink RX9 35 RX1) ∈ gT := gT_i 180 (by decide +kernel) rfl
theorem k_431 : (Cond.fieldLink RX9 28 "ScriptDesk" "elements" "Ljava/util/ArrayList;") ∈ gT := gT_i 431 (by decide +kernel) rfl
theorem k_434 : (Cond.fieldLink RX9 49 "ScriptDesk" "standing" "LScriptDesk$PieceRow;") ∈ gT := gT_i 434 (by decide +kernel) rfl
theorem k_686 : (Cond.methodLink RX9 113 yJx4a65c_size_8abf5) ∈ gT := gT_i 686 (by decide +kernel) rfl
theorem k_687 : (Cond.methodLink RX9 252 yJx4a65c_get_915e3) ∈ gT := gT_i 687 (by decide +kernel) rfl
theorem k_688 : (Cond.methodLink RX9 245 yX6_size) ∈ gT := gT_i 688 (by decide +kernel) rfl
theorem k_692 : (Cond.methodLink RX9 136 yX1_rowCount) ∈ gT := gT_i 692 (by decide +kernel) rfl
theorem k_693 : (Cond.instanceMethod yX1_rowCount) ∈ gT := gT_i 693 (by decide +kernel) rfl
theorem k_694 : (Cond.selects RX1 yX1_rowCount yX1_rowCount) ∈ gT := gT_i 694 (by decide +kernel) rfl
theorem k_695 : (Cond.code yX1_rowCount cX1_rowCount 1 (some .int)) ∈ gT := gT_i 695 (by decide +kernel) rfl
theorem k_696 : (Cond.methodLink RX9 210 yX6_put) ∈ gT := gT_i 696 (by decide +kernel) rfl
theorem k_697 : (Cond.instanceMethod yX6_put) ∈ gT := gT_i 697 (by decide +kernel) rfl
theorem k_698 : (Cond.selects RX6 yX6_put yX6_put) ∈ gT := gT_i 698 (by decide +kernel) rfl
theorem k_699 : (Cond.code yX6_put cX6_put 7 none) ∈ gT := gT_i 699 (by decide +kernel) rfl
theorem dX9_standUnlocked_19 : decode cX9_standUnlocked 19 = .ok (.iload_n 1, 1) := by decide +kernel
theorem dX9_standUnlocked_20 : decode cX9_standUnlocked 20 = .ok (.aload_n 0, 1) := by decide +kernel
theorem dX9_standUnlocked_21 : decode cX9_standUnlocked 21 = .ok (.getfield 28, 3) := by decide +kernel
theorem dX9_standUnlocked_24 : decode cX9_standUnlocked 24 = .ok (.invokevirtual 113, 3) := by decide +kernel
theorem dX9_standUnlocked_27 : decode cX9_standUnlocked 27 = .ok (.if_icmp .ge 42, 3) := by decide +kernel
theorem dX9_standUnlocked_30 : decode cX9_standUnlocked 30 = .ok (.aload_n 0, 1) := by decide +kernel
theorem dX9_standUnlocked_31 : decode cX9_standUnlocked 31 = .ok (.getfield 28, 3) := by decide +kernel
theorem dX9_standUnlocked_34 : decode cX9_standUnlocked 34 = .ok (.iload_n 1, 1) := by decide +kernel
theorem dX9_standUnlocked_35 : decode cX9_standUnlocked 35 = .ok (.invokevirtual 252, 3) := by decide +kernel
theorem dX9_standUnlocked_38 : decode cX9_standUnlocked 38 = .ok (.checkcast 35, 3) := by decide +kernel
theorem dX9_standUnlocked_41 : decode cX9_standUnlocked 41 = .ok (.astore_n 2, 1) := by decide +kernel
theorem dX9_standUnlocked_42 : decode cX9_standUnlocked 42 = .ok (.aload_n 0, 1) := by decide +kernel
theorem dX9_standUnlocked_43 : decode cX9_standUnlocked 43 = .ok (.getfield 49, 3) := by decide +kernel
theorem dX9_standUnlocked_46 : decode cX9_standUnlocked 46 = .ok (.aload_n 0, 1) := by decide +kernel
theorem dX9_standUnlocked_47 : decode cX9_standUnlocked 47 = .ok (.getfield 49, 3) := by decide +kernel
theorem dX9_standUnlocked_50 : decode cX9_standUnlocked 50 = .ok (.invokevirtual 245, 3) := by decide +kernel
theorem dX9_standUnlocked_53 : decode cX9_standUnlocked 53 = .ok (.aload_n 2, 1) := by decide +kernel
theorem dX9_standUnlocked_54 : decode cX9_standUnlocked 54 = .ok (.iconst 0, 1) := by decide +kernel
theorem dX9_standUnlocked_55 : decode cX9_standUnlocked 55 = .ok (.aload_n 2, 1) := by decide +kernel
theorem dX9_standUnlocked_56 : decode cX9_standUnlocked 56 = .ok (.invokevirtual 136, 3) := by decide +kernel
theorem dX9_standUnlocked_59 : decode cX9_standUnlocked 59 = .ok (.iconst 0, 1) := by decide +kernel
theorem dX9_standUnlocked_60 : decode cX9_standUnlocked 60 = .ok (.invokevirtual 210, 3) := by decide +kernel
theorem dX9_standUnlocked_63 : decode cX9_standUnlocked 63 = .ok (.iinc 1 1, 3) := by decide +kernel
theorem dX9_standUnlocked_66 : decode cX9_standUnlocked 66 = .ok (.goto (-47), 3) := by decide +kernel
set_option maxHeartbeats 1000000 in
set_option maxRecDepth 100000 in
theorem su_loop {p : Program} {l : Launch} {e : Env} {R : Room} {s : State} {m : MethodId} {args : Array Value} {below : List Frame} {meth : Method} {c : Code} {Q : State → Prop} {D : va_G} {A : Nat → Prop} {z : Nat → Nat} {cB cI_ cO : ClassId} {L0 : List Nat} {g0 : hG} {dk tp rd els reo nob pr bk gl sl mo pcs spr nwh cs cap B cE sE SN : Nat} {xs : List Nat} {Es : List E5} (hxl : xs.length ≤ 60) (hB : 100 ≤ B) (hB2 : B ≤ 60000) (hSN : SN ≤ 10000) (hSN1 : 60 ≤ SN) (hcE : cE ≤ R.cells) (hsE : sE ≤ R.slots) (hRf : 9 ≤ R.frames) (hRl : 200 ≤ R.locals) (hA : ∀ q : Nat, s.heap.size ≤ q → A q) (hf : CallFix p m c cX9_standUnlocked 3 s args gT yX9_standUnlocked.cls) (hK : va_K D vcl (dT cB cI_ cO) s) (hZ : zA z A s s.heap) (hN : zB z s) :
    ∀ (k : Nat) (i : Nat) (pa : List Nat) (sa : List Nat) (cp : Nat) (cells slots : Nat) (L : List Nat) (g : hG) (H : Heap) (locs : List Loc) (ls : Array Slot), i + k = xs.length → pa.length = i → (pa ++ sa).Nodup → pa.length + sa.length ≤ SN → cp ≤ B → cells + ((60 - i) + (B - cp) / 5) ≤ cE → slots + (4 * (60 - i) + 4 * (B - cp)) ≤ sE → ho L g dk 1 (.inr (10, [.ref tp, .ref rd, .ref els, .ref reo, .ref nob, .ref pr, .ref bk, .ref gl, .ref sl, .int (nI mo), .int 0, .int 0])) → ho L g pr 13 (.inr (7, [.ref pcs, .ref spr, .ref nwh])) → alR cO (z 0) 14 15 L g pcs cp pa → alR cO (z 0) 16 17 L g spr cs sa → pcR L g (fun e => xs.getD e 0) pa (upP Es i) → spR L g sa → alR cO (z 0) 5 6 L g els cap xs → elsR cB cI_ L g xs Es → fr [14, 15, 16, 17, 18] L0 g0 L g → va_P D vcl (dW L g) H → va_D A (dW L g) → va_S A s.heap H locs → lv_has ls 3 [(1, .int (nI i)), (0, .ref dk)] →
    (∀ (pa : List Nat) (sa : List Nat) (cp : Nat)  (L : List Nat) (g : hG) (H : Heap) (locs : List Loc) (ls : Array Slot), (pa ++ sa).Nodup → pa.length = xs.length ∧ pa.length + sa.length ≤ SN ∧ cp ≤ B → ho L g dk 1 (.inr (10, [.ref tp, .ref rd, .ref els, .ref reo, .ref nob, .ref pr, .ref bk, .ref gl, .ref sl, .int (nI mo), .int 0, .int 0])) → ho L g pr 13 (.inr (7, [.ref pcs, .ref spr, .ref nwh])) → alR cO (z 0) 14 15 L g pcs cp pa → alR cO (z 0) 16 17 L g spr cs sa → pcR L g (fun e => xs.getD e 0) pa (upP Es xs.length) → spR L g sa → alR cO (z 0) 5 6 L g els cap xs → elsR cB cI_ L g xs Es → fr [14, 15, 16, 17, 18] L0 g0 L g → va_P D vcl (dW L g) H → va_D A (dW L g) → va_S A s.heap H locs → lv_has ls 3 [(0, .ref dk)] → W p l e R s m args below meth c H locs cE sE Q (F0 m 69 ls [])) →
    W p l e R s m args below meth c H locs cells slots Q (F0 m 19 ls []) := by
  obtain ⟨hx, hb, hml, hown, hts⟩ := id hf
  intro k
  induction k with
  | zero =>
    intro i pa sa cp cells slots L g H locs ls hik hpi hnd hsl hcpB hRc hRs h_dk h_pr h_pcs h_spr h_pc h_sp h_els h_es hfr hP hD hS hl kk
    refine lv_iload_n hx hb dX9_standUnlocked_19 rfl (lv_at hl 0 rfl) ?_
    refine lv_aload_n hx hb dX9_standUnlocked_20 rfl (lv_at hl 1 rfl) ?_
    refine o_get (D := D) (ci := 10) (v := .ref els) (C := RX9) (T := TX9) (N := 12) hx hb hts inX9 hown hK hP h_dk rfl 2 (by decide) (hts _ k_431) (fun _ h9 => h9) rfl dX9_standUnlocked_21 ?_
    obtain ⟨mc9, d9, h_al9⟩ := h_els.al
    refine o_cis (k := cells) (n := slots) hK hP hD hS hA (o_rV (As := []) (rest := [.int (nI i)]) hf (li_size _ _ _ _ _ _ _ _ els 5 6 cap xs h_els _) k_606 k_686 k_604 k_605 k_89 (nA := 0) (by decide +kernel) ⟨Nat.le_trans (by decide) hRf, Nat.le_trans (by decide) hRl⟩ hK hP hD hS hA hZ hN h_al9 rfl rfl rfl hl.1 rfl (Nat.le_of_ble_eq_true rfl) dX9_standUnlocked_24 ⟨(show cells + 0 ≤ R.cells by omega), (show slots + 0 ≤ R.slots by omega)⟩) (Nat.le_refl _) (Nat.le_refl _) (fun r H locs hw hP hD hS => ?_)
    obtain rfl := hw
    refine lv_icmp_ge (tgt := 69) hx hb dX9_standUnlocked_27 (by decide) (fun c_1 => ?_) (fun c_1 => ?_)
    · have c_1 := q_le (a := xs.length) (b := i) (by omega) (by omega) c_1
      obtain rfl : i = xs.length := by omega
      refine W.widen (k := cE) (n := sE) (by omega) (by omega) ?_
      exact kk pa sa cp _ _ H locs ls hnd ⟨hpi, hsl, hcpB⟩ h_dk h_pr h_pcs h_spr h_pc h_sp h_els h_es hfr hP hD hS (lv_sub hl (l' := [(0, .ref dk)]) [1] rfl)
    · have c_1 := q_nle (a := xs.length) (b := i) (by omega) (by omega) c_1
      exact False.elim (by omega)
  | succ k ih =>
    intro i pa sa cp cells slots L g H locs ls hik hpi hnd hsl hcpB hRc hRs h_dk h_pr h_pcs h_spr h_pc h_sp h_els h_es hfr hP hD hS hl kk
    refine lv_iload_n hx hb dX9_standUnlocked_19 rfl (lv_at hl 0 rfl) ?_
    refine lv_aload_n hx hb dX9_standUnlocked_20 rfl (lv_at hl 1 rfl) ?_
    refine o_get (D := D) (ci := 10) (v := .ref els) (C := RX9) (T := TX9) (N := 12) hx hb hts inX9 hown hK hP h_dk rfl 2 (by decide) (hts _ k_431) (fun _ h9 => h9) rfl dX9_standUnlocked_21 ?_
    obtain ⟨mc9, d9, h_al9⟩ := h_els.al
    refine o_cis (k := cells) (n := slots) hK hP hD hS hA (o_rV (As := []) (rest := [.int (nI i)]) hf (li_size _ _ _ _ _ _ _ _ els 5 6 cap xs h_els _) k_606 k_686 k_604 k_605 k_89 (nA := 0) (by decide +kernel) ⟨Nat.le_trans (by decide) hRf, Nat.le_trans (by decide) hRl⟩ hK hP hD hS hA hZ hN h_al9 rfl rfl rfl hl.1 rfl (Nat.le_of_ble_eq_true rfl) dX9_standUnlocked_24 ⟨(show cells + 0 ≤ R.cells by omega), (show slots + 0 ≤ R.slots by omega)⟩) (Nat.le_refl _) (Nat.le_refl _) (fun r H locs hw hP hD hS => ?_)
    obtain rfl := hw
    refine lv_icmp_ge (tgt := 69) hx hb dX9_standUnlocked_27 (by decide) (fun c_1 => ?_) (fun c_1 => ?_)
    · have c_1 := q_le (a := xs.length) (b := i) (by omega) (by omega) c_1
      exact False.elim (by omega)
    · have c_1 := q_nle (a := xs.length) (b := i) (by omega) (by omega) c_1
      have hab := h_pcs.b
      have hnb := ncap_b hab.1 hab.2.2
      have hpw := pnew_c sa
      have hul := upP_len Es i
      refine lv_aload_n hx hb dX9_standUnlocked_30 rfl (lv_at hl 1 rfl) ?_
      refine o_get (D := D) (ci := 10) (v := .ref els) (C := RX9) (T := TX9) (N := 12) hx hb hts inX9 hown hK hP h_dk rfl 2 (by decide) (hts _ k_431) (fun _ h9 => h9) rfl dX9_standUnlocked_31 ?_
      refine lv_iload_n hx hb dX9_standUnlocked_34 rfl (lv_at hl 0 rfl) ?_
      obtain ⟨mc9, d9, h_al9⟩ := h_els.al
      refine o_crs (k := cells) (n := slots) hK hP hD hS hA (o_rV (As := [.int (nI i)]) (rest := []) hf (li_get _ _ _ _ _ _ _ _ els 5 6 cap xs i h_els (by omega) _) k_675 k_687 k_673 k_674 k_89 (nA := 1) (by decide +kernel) ⟨Nat.le_trans (by decide) hRf, Nat.le_trans (by decide) hRl⟩ hK hP hD hS hA hZ hN h_al9 rfl rfl rfl hl.1 rfl (Nat.le_of_ble_eq_true rfl) dX9_standUnlocked_35 ⟨(show cells + 0 ≤ R.cells by omega), (show slots + 0 ≤ R.slots by omega)⟩) (Nat.le_refl _) (Nat.le_refl _) (fun r H locs hw hP hD hS => ?_)
      obtain rfl := hw
      obtain ⟨⟨txg2, rfg2, rtg2, h_eg2⟩, hr_g2⟩ := h_es.o2 (show i < xs.length by omega)
      refine o_cast hx hb hown (hts _ k_180) hK hP h_eg2 rfl rfl dX9_standUnlocked_38 ?_
      refine lv_astore_n (lv' := [(2, .ref (xs.getD i 0)), (1, .int (nI i)), (0, .ref dk)]) hx hb dX9_standUnlocked_41 rfl hl (by decide) rfl (fun ls hl => ?_)
      refine lv_aload_n hx hb dX9_standUnlocked_42 rfl (lv_at hl 2 rfl) ?_
      refine o_get (D := D) (ci := 10) (v := .ref pr) (C := RX9) (T := TX9) (N := 12) hx hb hts inX9 hown hK hP h_dk rfl 5 (by decide) (hts _ k_434) (fun _ h9 => h9) rfl dX9_standUnlocked_43 ?_
      refine lv_aload_n hx hb dX9_standUnlocked_46 rfl (lv_at hl 2 rfl) ?_
      refine o_get (D := D) (ci := 10) (v := .ref pr) (C := RX9) (T := TX9) (N := 12) hx hb hts inX9 hown hK hP h_dk rfl 5 (by decide) (hts _ k_434) (fun _ h9 => h9) rfl dX9_standUnlocked_47 ?_
      refine o_cis (k := cells) (n := slots) hK hP hD hS hA (o_rV (As := []) (rest := [.ref pr]) hf (p_size _ _ _ _ _ _ _ _ pr pcs spr nwh cp pa (fun e => xs.getD e 0) [] h_pr h_pcs _) k_691 k_688 k_689 k_690 k_92 (nA := 0) (by decide +kernel) ⟨Nat.le_trans (by decide) hRf, Nat.le_trans (by decide) hRl⟩ hK hP hD hS hA hZ hN h_pr rfl rfl rfl hl.1 rfl (Nat.le_of_ble_eq_true rfl) dX9_standUnlocked_50 ⟨(show cells + 0 ≤ R.cells by omega), (show slots + 0 ≤ R.slots by omega)⟩) (Nat.le_refl _) (Nat.le_refl _) (fun r H locs hw hP hD hS => ?_)
      obtain rfl := hw
      refine lv_aload_n hx hb dX9_standUnlocked_53 rfl (lv_at hl 0 rfl) ?_
      refine lv_iconst (v := 0) hx hb dX9_standUnlocked_54 (by decide) ?_
      refine lv_aload_n hx hb dX9_standUnlocked_55 rfl (lv_at hl 0 rfl) ?_
      refine o_cis (k := cells) (n := slots) hK hP hD hS hA (o_rV (As := []) (rest := [.int 0, .ref (xs.getD i 0), .int (nI (pa.length)), .ref pr]) hf (l_rows _ _ _ _ _ _ _ _ (xs.getD i 0) ((Es.getD i dE).1) ((Es.getD i dE).2.1) ((Es.getD i dE).2.2.1) txg2 ((Es.getD i dE).2.2.2.2.length) ((Es.getD i dE).2.2.2.1) rfg2 rtg2 ((eRw (Es.getD i dE))) h_eg2 _) k_695 k_692 k_693 k_694 k_90 (nA := 0) (by decide +kernel) ⟨Nat.le_trans (by decide) hRf, Nat.le_trans (by decide) hRl⟩ hK hP hD hS hA hZ hN h_eg2 rfl rfl rfl hl.1 rfl (Nat.le_of_ble_eq_true rfl) dX9_standUnlocked_56 ⟨(show cells + 0 ≤ R.cells by omega), (show slots + 0 ≤ R.slots by omega)⟩) (Nat.le_refl _) (Nat.le_refl _) (fun r H locs hw hP hD hS => ?_)
      obtain rfl := hw
      refine lv_iconst (v := 0) hx hb dX9_standUnlocked_59 (by decide) ?_
      refine o_cv (k := cells + (pnew sa + gcel pa.length cp)) (n := slots + (4 * pnew sa + gslo pa.length cp)) hK hP hD hS hA (o_rV (As := [.int (nI (pa.length)), .ref (xs.getD i 0), .int 0, .int (nI ((eRw (Es.getD i dE)))), .int 0]) (rest := []) hf (p_put _ _ _ _ _ _ _ _ pr pcs spr nwh cp cs pa sa (fun e => xs.getD e 0) (upP Es i) (pa.length) i 0 ((eRw (Es.getD i dE))) 0 h_pr h_pcs h_spr h_pc h_sp (by omega) (by omega) hnd (by omega) (by omega) _) k_699 k_696 k_697 k_698 k_92 (nA := 5) (by decide +kernel) ⟨Nat.le_trans (by decide) hRf, Nat.le_trans (by decide) hRl⟩ hK hP hD hS hA hZ hN h_pr rfl rfl rfl hl.1 rfl (Nat.le_of_ble_eq_true rfl) dX9_standUnlocked_60 ⟨(show cells + (pnew sa + gcel pa.length cp) ≤ R.cells by omega), (show slots + (4 * pnew sa + gslo pa.length cp) ≤ R.slots by omega)⟩) (by omega) (by omega) (fun L g H locs hw hP hD hS => ?_)
      obtain ⟨x9, s9, hf9, h_pcs, h_spr, h_pc, h_sp, hnd9, hln9⟩ := hw
      have h_dk := h_dk.fr hf9 (by decide)
      have h_pr := h_pr.fr hf9 (by decide)
      have h_eg2 := h_eg2.fr hf9 (by decide)
      have hfr := hfr.tr hf9
      have h_els := h_els.frd hf9 (by decide)
      have h_es := h_es.frd hf9 (by decide)
      refine lv_iinc (v := nI (i + 1)) (lv' := [(1, .int (nI (i + 1))), (2, .ref (xs.getD i 0)), (0, .ref dk)]) hx hb dX9_standUnlocked_63 hl (k := 1) rfl (nI_addE (a := i) (b := 1) (by omega)) (by decide) rfl (fun ls hl => ?_)
      refine lv_goto (tgt := 19) hx hb dX9_standUnlocked_66 (by decide) ?_
      have hJ : lsJ (upP Es i) pa.length (i, 0, eRw (Es.getD i dE), 0) = upP Es (i + 1) := by rw [lsJ_end (by omega)]; rfl
      rw [hJ] at h_pc
      have hIl := lsI_len (xs := pa) (x := x9) (Nat.le_refl pa.length)
      refine W.widen (k := cells + (pnew sa + gcel pa.length cp)) (n := slots + (4 * pnew sa + gslo pa.length cp)) (by omega) (by omega) ?_
      exact ih (i + 1) (lsI pa pa.length x9) s9 (ncap pa.length cp) _ _ _ _ H locs ls (by omega) (by omega) hnd9 (by omega) (by omega) (by omega) (by omega) h_dk h_pr h_pcs h_spr h_pc h_sp h_els h_es hfr hP hD hS (lv_sub hl (l' := [(1, .int (nI (i + 1))), (0, .ref dk)]) [0, 2] rfl) kk
