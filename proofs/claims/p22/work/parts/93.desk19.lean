/-- the elements whose first rows stand in the first n pieces -/
def mgI (P : List Q4) : Nat → List Nat
  | 0 => []
  | n + 1 => if (P.getD n d4).2.1 = 0 then mgI P n ++ [(P.getD n d4).1] else mgI P n
theorem mgI_1 {P : List Q4} {n : Nat} (h : (P.getD n d4).2.1 = 0) : mgI P (n + 1) = mgI P n ++ [(P.getD n d4).1] := if_pos h
theorem mgI_0 {P : List Q4} {n : Nat} (h : ¬ (P.getD n d4).2.1 = 0) : mgI P (n + 1) = mgI P n := if_neg h
theorem mgI_m (P : List Q4) {a : Nat} : ∀ d, (mgI P a).length ≤ (mgI P (a + d)).length := by
  intro d
  induction d with
  | zero => exact Nat.le_refl _
  | succ d ih =>
    rw [show a + (d + 1) = a + d + 1 by omega]
    by_cases c : (P.getD (a + d) d4).2.1 = 0
    · rw [mgI_1 c, List.length_append]; omega
    · rw [mgI_0 c]; exact ih
theorem mgI_mo (P : List Q4) {a b : Nat} (h : a ≤ b) : (mgI P a).length ≤ (mgI P b).length := by
  have h1 := mgI_m P (a := a) (b - a)
  rw [show a + (b - a) = b by omega] at h1
  exact h1
theorem mgI_mem {P : List Q4} {e : Nat} : ∀ n, e ∈ mgI P n → ∃ i, i < n ∧ e = (P.getD i d4).1 ∧ (P.getD i d4).2.1 = 0 := by
  intro n
  induction n with
  | zero => intro h; exact absurd h List.not_mem_nil
  | succ n ih =>
    intro h
    by_cases c : (P.getD n d4).2.1 = 0
    · rw [mgI_1 c] at h
      rcases List.mem_append.mp h with h1 | h1
      · obtain ⟨i, h2, h3⟩ := ih h1
        exact ⟨i, by omega, h3⟩
      · exact ⟨n, by omega, List.mem_singleton.mp h1, c⟩
    · rw [mgI_0 c] at h
      obtain ⟨i, h2, h3⟩ := ih h
      exact ⟨i, by omega, h3⟩
theorem mg_ob {cB cI_ : ClassId} {L : List Nat} {g : hG} {ea : Nat → Nat} {ne : Nat} {EE : Nat → E5} {P : List Q4} {n : Nat} (h : esR cB cI_ L g ea ne EE) (hQ : pq_ok ne EE P) (hn : n ≤ P.length) : ∀ y, y ∈ (mgI P n).map ea → ∃ fs, ho L g y 9 (.inr (2, fs)) := by
  intro y hy
  obtain ⟨e, he, rfl⟩ := List.mem_map.mp hy
  obtain ⟨i, hi, rfl, _⟩ := mgI_mem n he
  obtain ⟨tx, rf, rt, h1⟩ := h.ob (hQ i (by omega)).1
  exact ⟨_, h1⟩
/-- the first i elements get new numbers -/
def rnm (Ms : List E5) : Nat → List E5
  | 0 => Ms
  | i + 1 => (rnm Ms i).set i (((rnm Ms i).getD i dE).1, nI i, ((rnm Ms i).getD i dE).2.2.1, ((rnm Ms i).getD i dE).2.2.2.1, ((rnm Ms i).getD i dE).2.2.2.2)
theorem rnm_len (Ms : List E5) : ∀ i, (rnm Ms i).length = Ms.length := by
  intro i
  induction i with
  | zero => rfl
  | succ i ih => rw [show rnm Ms (i + 1) = (rnm Ms i).set i _ from rfl, List.length_set]; exact ih
theorem ls_take {ys : List Nat} {i : Nat} (h : i < ys.length) : ys.take i ++ [ys.getD i 0] = ys.take (i + 1) := by
  rw [List.take_add_one, List.getElem?_eq_getElem h, List.getD_eq_getElem?_getD, List.getElem?_eq_getElem h]
  rfl
theorem k_432 : (Cond.fieldLink RX9 32 "ScriptDesk" "reordered" "Ljava/util/ArrayList;") ∈ gT := gT_i 432 (by decide +kernel) rfl
theorem k_992 : (Cond.methodLink RX9 220 yJx4a65c_add_9ea2d) ∈ gT := gT_i 992 (by decide +kernel) rfl
theorem k_1037 : (Cond.methodLink RX9 246 yX5_beginsElement) ∈ gT := gT_i 1037 (by decide +kernel) rfl
theorem dX9_merge_19 : decode cX9_merge 19 = .ok (.iload_n 1, 1) := by decide +kernel
theorem dX9_merge_20 : decode cX9_merge 20 = .ok (.aload_n 0, 1) := by decide +kernel
theorem dX9_merge_21 : decode cX9_merge 21 = .ok (.getfield 49, 3) := by decide +kernel
theorem dX9_merge_24 : decode cX9_merge 24 = .ok (.invokevirtual 245, 3) := by decide +kernel
theorem dX9_merge_27 : decode cX9_merge 27 = .ok (.if_icmp .ge 42, 3) := by decide +kernel
theorem dX9_merge_30 : decode cX9_merge 30 = .ok (.aload_n 0, 1) := by decide +kernel
theorem dX9_merge_31 : decode cX9_merge 31 = .ok (.getfield 49, 3) := by decide +kernel
theorem dX9_merge_34 : decode cX9_merge 34 = .ok (.iload_n 1, 1) := by decide +kernel
theorem dX9_merge_35 : decode cX9_merge 35 = .ok (.invokevirtual 201, 3) := by decide +kernel
theorem dX9_merge_38 : decode cX9_merge 38 = .ok (.invokevirtual 246, 3) := by decide +kernel
theorem dX9_merge_41 : decode cX9_merge 41 = .ok (.ifCond .eq 22, 3) := by decide +kernel
theorem dX9_merge_44 : decode cX9_merge 44 = .ok (.aload_n 0, 1) := by decide +kernel
theorem dX9_merge_45 : decode cX9_merge 45 = .ok (.getfield 32, 3) := by decide +kernel
theorem dX9_merge_48 : decode cX9_merge 48 = .ok (.aload_n 0, 1) := by decide +kernel
theorem dX9_merge_49 : decode cX9_merge 49 = .ok (.getfield 49, 3) := by decide +kernel
theorem dX9_merge_52 : decode cX9_merge 52 = .ok (.iload_n 1, 1) := by decide +kernel
theorem dX9_merge_53 : decode cX9_merge 53 = .ok (.invokevirtual 201, 3) := by decide +kernel
theorem dX9_merge_56 : decode cX9_merge 56 = .ok (.getfield 249, 3) := by decide +kernel
theorem dX9_merge_59 : decode cX9_merge 59 = .ok (.invokevirtual 220, 3) := by decide +kernel
theorem dX9_merge_62 : decode cX9_merge 62 = .ok (.pop, 1) := by decide +kernel
theorem dX9_merge_63 : decode cX9_merge 63 = .ok (.iinc 1 1, 3) := by decide +kernel
theorem dX9_merge_66 : decode cX9_merge 66 = .ok (.goto (-47), 3) := by decide +kernel
theorem dX9_merge_78 : decode cX9_merge 78 = .ok (.iload_n 1, 1) := by decide +kernel
theorem dX9_merge_79 : decode cX9_merge 79 = .ok (.aload_n 0, 1) := by decide +kernel
theorem dX9_merge_80 : decode cX9_merge 80 = .ok (.getfield 32, 3) := by decide +kernel
theorem dX9_merge_83 : decode cX9_merge 83 = .ok (.invokevirtual 113, 3) := by decide +kernel
theorem dX9_merge_86 : decode cX9_merge 86 = .ok (.if_icmp .ge 35, 3) := by decide +kernel
theorem dX9_merge_89 : decode cX9_merge 89 = .ok (.aload_n 0, 1) := by decide +kernel
theorem dX9_merge_90 : decode cX9_merge 90 = .ok (.getfield 32, 3) := by decide +kernel
theorem dX9_merge_93 : decode cX9_merge 93 = .ok (.iload_n 1, 1) := by decide +kernel
theorem dX9_merge_94 : decode cX9_merge 94 = .ok (.invokevirtual 252, 3) := by decide +kernel
theorem dX9_merge_97 : decode cX9_merge 97 = .ok (.checkcast 35, 3) := by decide +kernel
theorem dX9_merge_100 : decode cX9_merge 100 = .ok (.astore_n 2, 1) := by decide +kernel
theorem dX9_merge_101 : decode cX9_merge 101 = .ok (.aload_n 2, 1) := by decide +kernel
theorem dX9_merge_102 : decode cX9_merge 102 = .ok (.iload_n 1, 1) := by decide +kernel
theorem dX9_merge_103 : decode cX9_merge 103 = .ok (.putfield 224, 3) := by decide +kernel
theorem dX9_merge_106 : decode cX9_merge 106 = .ok (.aload_n 0, 1) := by decide +kernel
theorem dX9_merge_107 : decode cX9_merge 107 = .ok (.getfield 28, 3) := by decide +kernel
theorem dX9_merge_110 : decode cX9_merge 110 = .ok (.aload_n 2, 1) := by decide +kernel
theorem dX9_merge_111 : decode cX9_merge 111 = .ok (.invokevirtual 220, 3) := by decide +kernel
theorem dX9_merge_114 : decode cX9_merge 114 = .ok (.pop, 1) := by decide +kernel
theorem dX9_merge_115 : decode cX9_merge 115 = .ok (.iinc 1 1, 3) := by decide +kernel
theorem dX9_merge_118 : decode cX9_merge 118 = .ok (.goto (-40), 3) := by decide +kernel
set_option maxHeartbeats 1000000 in
set_option maxRecDepth 100000 in
theorem mg1_loop {p : Program} {l : Launch} {e : Env} {R : Room} {s : State} {m : MethodId} {args : Array Value} {below : List Frame} {meth : Method} {c : Code} {Q : State → Prop} {D : va_G} {A : Nat → Prop} {z : Nat → Nat} {cB cI_ cO : ClassId} {L0 : List Nat} {g0 : hG} {dk tp rd els reo nob bk gl sl mo : Nat} {pr pcs spr nwh cp : Nat} {pa : List Nat} {ea : Nat → Nat} {P : List Q4} {ne : Nat} {EE : Nat → E5} {v11 : Int32} {B cE sE : Nat} (hpa : pa.length ≤ 20000) (hQ : pq_ok ne EE P) (hB : 100 ≤ B) (hB2 : B ≤ 60000) (hmL : (mgI P pa.length).length ≤ 60) (hcE : cE ≤ R.cells) (hsE : sE ≤ R.slots) (hRf : 7 ≤ R.frames) (hRl : 160 ≤ R.locals) (hA : ∀ q : Nat, s.heap.size ≤ q → A q) (hf : CallFix p m c cX9_merge 3 s args gT yX9_merge.cls) (hK : va_K D vcl (dT cB cI_ cO) s) (hZ : zA z A s s.heap) (hN : zB z s) :
    ∀ (k : Nat) (i : Nat) (c7 : Nat) (zs : List Nat) (cells slots : Nat) (L : List Nat) (g : hG) (H : Heap) (locs : List Loc) (ls : Array Slot), i + k = pa.length → zs = (mgI P i).map ea → c7 ≤ B → cells + (B - c7) / 5 ≤ cE → slots + 4 * (B - c7) ≤ sE → ho L g dk 1 (.inr (10, [.ref tp, .ref rd, .ref els, .ref reo, .ref nob, .ref pr, .ref bk, .ref gl, .ref sl, .int (nI mo), .int 1, .int v11])) → ho L g pr 13 (.inr (7, [.ref pcs, .ref spr, .ref nwh])) → alR cO (z 0) 14 15 L g pcs cp pa → pcR L g ea pa P → esR cB cI_ L g ea ne EE → alR cO (z 0) 7 8 L g reo c7 zs → fr [7, 8] L0 g0 L g → va_P D vcl (dW L g) H → va_D A (dW L g) → va_S A s.heap H locs → lv_has ls 3 [(1, .int (nI i)), (0, .ref dk)] →
    (∀ (zs : List Nat) (c7 : Nat)  (L : List Nat) (g : hG) (H : Heap) (locs : List Loc) (ls : Array Slot), zs = (mgI P pa.length).map ea → c7 ≤ B → ho L g dk 1 (.inr (10, [.ref tp, .ref rd, .ref els, .ref reo, .ref nob, .ref pr, .ref bk, .ref gl, .ref sl, .int (nI mo), .int 1, .int v11])) → ho L g pr 13 (.inr (7, [.ref pcs, .ref spr, .ref nwh])) → alR cO (z 0) 14 15 L g pcs cp pa → pcR L g ea pa P → esR cB cI_ L g ea ne EE → alR cO (z 0) 7 8 L g reo c7 zs → fr [7, 8] L0 g0 L g → va_P D vcl (dW L g) H → va_D A (dW L g) → va_S A s.heap H locs → lv_has ls 3 [(0, .ref dk)] → W p l e R s m args below meth c H locs cE sE Q (F0 m 69 ls [])) →
    W p l e R s m args below meth c H locs cells slots Q (F0 m 19 ls []) := by
  obtain ⟨hx, hb, hml, hown, hts⟩ := id hf
  intro k
  induction k with
  | zero =>
    intro i c7 zs cells slots L g H locs ls hik hzs hc7 hRc hRs h_dk h_pr h_pcs h_pc h_es h_reo hfr hP hD hS hl kk
    refine lv_iload_n hx hb dX9_merge_19 rfl (lv_at hl 0 rfl) ?_
    refine lv_aload_n hx hb dX9_merge_20 rfl (lv_at hl 1 rfl) ?_
    refine o_get (D := D) (ci := 10) (v := .ref pr) (C := RX9) (T := TX9) (N := 12) hx hb hts inX9 hown hK hP h_dk rfl 5 (by decide) (hts _ k_434) (fun _ h9 => h9) rfl dX9_merge_21 ?_
    refine o_cis (k := cells) (n := slots) hK hP hD hS hA (o_rV (As := []) (rest := [.int (nI i)]) hf (p_size _ _ _ _ _ _ _ _ pr pcs spr nwh cp pa (fun e => e) [] h_pr h_pcs _) k_691 k_688 k_689 k_690 k_92 (nA := 0) (by decide +kernel) ⟨Nat.le_trans (by decide) hRf, Nat.le_trans (by decide) hRl⟩ hK hP hD hS hA hZ hN h_pr rfl rfl rfl hl.1 rfl (Nat.le_of_ble_eq_true rfl) dX9_merge_24 ⟨(show cells + 0 ≤ R.cells by omega), (show slots + 0 ≤ R.slots by omega)⟩) (Nat.le_refl _) (Nat.le_refl _) (fun r H locs hw hP hD hS => ?_)
    obtain rfl := hw
    refine lv_icmp_ge (tgt := 69) hx hb dX9_merge_27 (by decide) (fun c_1 => ?_) (fun c_1 => ?_)
    · have c_1 := q_le (a := pa.length) (b := i) (by omega) (by omega) c_1
      obtain rfl : i = pa.length := by omega
      refine W.widen (k := cE) (n := sE) (by omega) (by omega) ?_
      exact kk zs c7 _ _ H locs ls hzs hc7 h_dk h_pr h_pcs h_pc h_es h_reo hfr hP hD hS (lv_sub hl (l' := [(0, .ref dk)]) [1] rfl)
    · have c_1 := q_nle (a := pa.length) (b := i) (by omega) (by omega) c_1
      exact False.elim (by omega)
  | succ k ih =>
    intro i c7 zs cells slots L g H locs ls hik hzs hc7 hRc hRs h_dk h_pr h_pcs h_pc h_es h_reo hfr hP hD hS hl kk
    refine lv_iload_n hx hb dX9_merge_19 rfl (lv_at hl 0 rfl) ?_
    refine lv_aload_n hx hb dX9_merge_20 rfl (lv_at hl 1 rfl) ?_
    refine o_get (D := D) (ci := 10) (v := .ref pr) (C := RX9) (T := TX9) (N := 12) hx hb hts inX9 hown hK hP h_dk rfl 5 (by decide) (hts _ k_434) (fun _ h9 => h9) rfl dX9_merge_21 ?_
    refine o_cis (k := cells) (n := slots) hK hP hD hS hA (o_rV (As := []) (rest := [.int (nI i)]) hf (p_size _ _ _ _ _ _ _ _ pr pcs spr nwh cp pa (fun e => e) [] h_pr h_pcs _) k_691 k_688 k_689 k_690 k_92 (nA := 0) (by decide +kernel) ⟨Nat.le_trans (by decide) hRf, Nat.le_trans (by decide) hRl⟩ hK hP hD hS hA hZ hN h_pr rfl rfl rfl hl.1 rfl (Nat.le_of_ble_eq_true rfl) dX9_merge_24 ⟨(show cells + 0 ≤ R.cells by omega), (show slots + 0 ≤ R.slots by omega)⟩) (Nat.le_refl _) (Nat.le_refl _) (fun r H locs hw hP hD hS => ?_)
    obtain rfl := hw
    refine lv_icmp_ge (tgt := 69) hx hb dX9_merge_27 (by decide) (fun c_1 => ?_) (fun c_1 => ?_)
    · have c_1 := q_le (a := pa.length) (b := i) (by omega) (by omega) c_1
      exact False.elim (by omega)
    · have c_1 := q_nle (a := pa.length) (b := i) (by omega) (by omega) c_1
      refine lv_aload_n hx hb dX9_merge_30 rfl (lv_at hl 1 rfl) ?_
      refine o_get (D := D) (ci := 10) (v := .ref pr) (C := RX9) (T := TX9) (N := 12) hx hb hts inX9 hown hK hP h_dk rfl 5 (by decide) (hts _ k_434) (fun _ h9 => h9) rfl dX9_merge_31 ?_
      refine lv_iload_n hx hb dX9_merge_34 rfl (lv_at hl 0 rfl) ?_
      refine o_crs (k := cells) (n := slots) hK hP hD hS hA (o_rV (As := [.int (nI i)]) (rest := []) hf (p_atI _ _ _ _ _ _ _ _ pr pcs spr nwh cp pa ea P i h_pr h_pcs h_pc hpa (by omega) _) k_775 k_945 k_773 k_774 k_92 (nA := 1) (by decide +kernel) ⟨Nat.le_trans (by decide) hRf, Nat.le_trans (by decide) hRl⟩ hK hP hD hS hA hZ hN h_pr rfl rfl rfl hl.1 rfl (Nat.le_of_ble_eq_true rfl) dX9_merge_35 ⟨(show cells + 0 ≤ R.cells by omega), (show slots + 0 ≤ R.slots by omega)⟩) (Nat.le_refl _) (Nat.le_refl _) (fun r H locs hw hP hD hS => ?_)
      obtain rfl := hw
      have h_p2 := h_pc.2 i (by omega)
      have hpl_ := h_pc.1
      have hq_p2 := hQ i (by omega)
      have hr_p2 := h_es.rb hq_p2.1
      refine o_cis (k := cells) (n := slots) hK hP hD hS hA (o_rV (As := []) (rest := []) hf (p_begE _ _ _ _ _ _ _ _ (pa.getD i 0) (ea (P.getD i d4).1) ((P.getD i d4).2.1) ((P.getD i d4).2.2.1) ((P.getD i d4).2.2.2) h_p2 (by omega) _) k_813 k_1037 k_811 k_812 k_93 (nA := 0) (by decide +kernel) ⟨Nat.le_trans (by decide) hRf, Nat.le_trans (by decide) hRl⟩ hK hP hD hS hA hZ hN h_p2 rfl rfl rfl hl.1 rfl (Nat.le_of_ble_eq_true rfl) dX9_merge_38 ⟨(show cells + 0 ≤ R.cells by omega), (show slots + 0 ≤ R.slots by omega)⟩) (Nat.le_refl _) (Nat.le_refl _) (fun r H locs hw hP hD hS => ?_)
      rcases hw with ⟨c_3, rfl⟩ | ⟨c_3, rfl⟩
      · have hP := hP
        refine lv_if_eq (tgt := 63) hx hb dX9_merge_41 (by decide) (fun hno => absurd hno (by decide)) (fun _ => ?_)
        have hab := h_reo.b
        have hnb := ncap_b hab.1 hab.2.2
        have hzl : zs.length = (mgI P i).length := by rw [hzs, List.length_map]
        have hmo9 := mgI_mo P (show i + 1 ≤ pa.length by omega)
        rw [mgI_1 c_3, List.length_append] at hmo9
        have hmo9 : (mgI P i).length + 1 ≤ (mgI P pa.length).length := hmo9
        have hplm := h_pc.1
        have hob7 := mg_ob h_es hQ (show i ≤ P.length by omega)
        rw [← hzs] at hob7
        refine lv_aload_n hx hb dX9_merge_44 rfl (lv_at hl 1 rfl) ?_
        refine o_get (D := D) (ci := 10) (v := .ref reo) (C := RX9) (T := TX9) (N := 12) hx hb hts inX9 hown hK hP h_dk rfl 3 (by decide) (hts _ k_432) (fun _ h9 => h9) rfl dX9_merge_45 ?_
        refine lv_aload_n hx hb dX9_merge_48 rfl (lv_at hl 1 rfl) ?_
        refine o_get (D := D) (ci := 10) (v := .ref pr) (C := RX9) (T := TX9) (N := 12) hx hb hts inX9 hown hK hP h_dk rfl 5 (by decide) (hts _ k_434) (fun _ h9 => h9) rfl dX9_merge_49 ?_
        refine lv_iload_n hx hb dX9_merge_52 rfl (lv_at hl 0 rfl) ?_
        refine o_crs (k := cells) (n := slots) hK hP hD hS hA (o_rV (As := [.int (nI i)]) (rest := [.ref reo]) hf (p_atI _ _ _ _ _ _ _ _ pr pcs spr nwh cp pa ea P i h_pr h_pcs h_pc hpa (by omega) _) k_775 k_945 k_773 k_774 k_92 (nA := 1) (by decide +kernel) ⟨Nat.le_trans (by decide) hRf, Nat.le_trans (by decide) hRl⟩ hK hP hD hS hA hZ hN h_pr rfl rfl rfl hl.1 rfl (Nat.le_of_ble_eq_true rfl) dX9_merge_53 ⟨(show cells + 0 ≤ R.cells by omega), (show slots + 0 ≤ R.slots by omega)⟩) (Nat.le_refl _) (Nat.le_refl _) (fun r H locs hw hP hD hS => ?_)
        obtain rfl := hw
        refine o_get (D := D) (ci := 6) (v := .ref (ea (P.getD i d4).1)) (C := RX5) (T := TX5) (N := 4) hx hb hts inX5 hown hK hP h_p2 rfl 0 (by decide) (hts _ k_282) (fun _ h9 => h9) rfl dX9_merge_56 ?_
        obtain ⟨tx2, rf2, rt2, h_e2⟩ := h_es.ob hq_p2.1
        obtain ⟨mc9, d9, h_al9⟩ := h_reo.al
        refine o_ci (k := cells + (gcel zs.length c7)) (n := slots + (gslo zs.length c7)) hK hP hD hS hA (o_rV (As := [.ref (ea (P.getD i d4).1)]) (rest := []) hf (li_add _ _ _ _ _ _ _ _ reo 7 8 c7 zs 9 (ea (P.getD i d4).1) 2 rxE [.int ((EE (P.getD i d4).1).1), .int ((EE (P.getD i d4).1).2.1), .int ((EE (P.getD i d4).1).2.2.1), .ref tx2, .int (nI ((EE (P.getD i d4).1).2.2.2.2.length)), .int (nI ((EE (P.getD i d4).1).2.2.2.1)), .ref rf2, .ref rt2, .int (nI ((eRw (EE (P.getD i d4).1))))] h_reo h_e2 (by decide) (by decide) (by decide) rfl hcaE hob7 (by omega) _) k_611 k_992 k_609 k_610 k_89 (nA := 1) (by decide +kernel) ⟨Nat.le_trans (by decide) hRf, Nat.le_trans (by decide) hRl⟩ hK hP hD hS hA hZ hN h_al9 rfl rfl rfl hl.1 rfl (Nat.le_of_ble_eq_true rfl) dX9_merge_59 ⟨(show cells + (gcel zs.length c7) ≤ R.cells by omega), (show slots + (gslo zs.length c7) ≤ R.slots by omega)⟩) (by omega) (by omega) (fun r L g H locs hw hP hD hS => ?_)
        obtain ⟨rfl, hf9, h_reo⟩ := hw
        have h_dk := h_dk.fr hf9 (by decide)
        have h_pr := h_pr.fr hf9 (by decide)
        have h_p2 := h_p2.fr hf9 (by decide)
        have h_e2 := h_e2.fr hf9 (by decide)
        have hfr := hfr.tr hf9
        have h_pcs := h_pcs.frd hf9 (by decide)
        have h_pc := h_pc.frd hf9 (by decide)
        have h_es := h_es.frd hf9 (by decide)
        refine lv_pop hx hb dX9_merge_62 rfl ?_
        refine lv_iinc (v := nI (i + 1)) (lv' := [(1, .int (nI (i + 1))), (0, .ref dk)]) hx hb dX9_merge_63 hl (k := 0) rfl (nI_addE (a := i) (b := 1) (by omega)) (by decide) rfl (fun ls hl => ?_)
        refine lv_goto (tgt := 19) hx hb dX9_merge_66 (by decide) ?_
        have hz2 : zs ++ [ea (P.getD i d4).1] = (mgI P (i + 1)).map ea := by rw [mgI_1 c_3, List.map_append, hzs]; rfl
        refine W.widen (k := cells + (ncap zs.length c7 - c7) / 5) (n := slots + 4 * (ncap zs.length c7 - c7)) (by omega) (by omega) ?_
        exact ih (i + 1) (ncap zs.length c7) (zs ++ [ea (P.getD i d4).1]) _ _ _ _ H locs ls (by omega) hz2 (by omega) (by omega) (by omega) h_dk h_pr h_pcs h_pc h_es h_reo hfr hP hD hS (lv_sub hl (l' := [(1, .int (nI (i + 1))), (0, .ref dk)]) [0, 1] rfl) kk
      · have hP := hP
        refine lv_if_eq (tgt := 63) hx hb dX9_merge_41 (by decide) (fun _ => ?_) (fun hno => absurd hno (by decide))
        refine lv_iinc (v := nI (i + 1)) (lv' := [(1, .int (nI (i + 1))), (0, .ref dk)]) hx hb dX9_merge_63 hl (k := 0) rfl (nI_addE (a := i) (b := 1) (by omega)) (by decide) rfl (fun ls hl => ?_)
        refine lv_goto (tgt := 19) hx hb dX9_merge_66 (by decide) ?_
        exact ih (i + 1) c7 zs cells slots _ _ H locs ls (by omega) (by rw [mgI_0 c_3]; exact hzs) hc7 hRc hRs h_dk h_pr h_pcs h_pc h_es h_reo hfr hP hD hS (lv_sub hl (l' := [(1, .int (nI (i + 1))), (0, .ref dk)]) [0, 1] rfl) kk
set_option maxHeartbeats 1000000 in
set_option maxRecDepth 100000 in
theorem mg2_loop {p : Program} {l : Launch} {e : Env} {R : Room} {s : State} {m : MethodId} {args : Array Value} {below : List Frame} {meth : Method} {c : Code} {Q : State → Prop} {D : va_G} {A : Nat → Prop} {z : Nat → Nat} {cB cI_ cO : ClassId} {L0 : List Nat} {g0 : hG} {dk tp rd els reo nob pr bk gl sl mo c7 B cE sE : Nat} {v11 : Int32} {ys : List Nat} {Ms0 : List E5} (hB : 100 ≤ B) (hB2 : B ≤ 60000) (hyl : ys.length ≤ 60) (hcE : cE ≤ R.cells) (hsE : sE ≤ R.slots) (hRf : 7 ≤ R.frames) (hRl : 160 ≤ R.locals) (hA : ∀ q : Nat, s.heap.size ≤ q → A q) (hf : CallFix p m c cX9_merge 3 s args gT yX9_merge.cls) (hK : va_K D vcl (dT cB cI_ cO) s) (hZ : zA z A s s.heap) (hN : zB z s) :
    ∀ (k : Nat) (i : Nat) (cap : Nat) (Ms : List E5) (cells slots : Nat) (L : List Nat) (g : hG) (H : Heap) (locs : List Loc) (ls : Array Slot), i + k = ys.length → Ms = rnm Ms0 i → cap ≤ B → cells + (B - cap) / 5 ≤ cE → slots + 4 * (B - cap) ≤ sE → ho L g dk 1 (.inr (10, [.ref tp, .ref rd, .ref els, .ref reo, .ref nob, .ref pr, .ref bk, .ref gl, .ref sl, .int (nI mo), .int 1, .int v11])) → alR cO (z 0) 5 6 L g els cap ((ys.take i)) → alR cO (z 0) 7 8 L g reo c7 ys → elsR cB cI_ L g ys Ms → fr [5, 6, 9] L0 g0 L g → va_P D vcl (dW L g) H → va_D A (dW L g) → va_S A s.heap H locs → lv_has ls 3 [(1, .int (nI i)), (0, .ref dk)] →
    (∀ (cap : Nat) (Ms : List E5)  (L : List Nat) (g : hG) (H : Heap) (locs : List Loc) (ls : Array Slot), Ms = rnm Ms0 ys.length → cap ≤ B → ho L g dk 1 (.inr (10, [.ref tp, .ref rd, .ref els, .ref reo, .ref nob, .ref pr, .ref bk, .ref gl, .ref sl, .int (nI mo), .int 1, .int v11])) → alR cO (z 0) 5 6 L g els cap ((ys.take ys.length)) → alR cO (z 0) 7 8 L g reo c7 ys → elsR cB cI_ L g ys Ms → fr [5, 6, 9] L0 g0 L g → va_P D vcl (dW L g) H → va_D A (dW L g) → va_S A s.heap H locs → lv_has ls 3 [(0, .ref dk)] → W p l e R s m args below meth c H locs cE sE Q (F0 m 121 ls [])) →
    W p l e R s m args below meth c H locs cells slots Q (F0 m 78 ls []) := by
  obtain ⟨hx, hb, hml, hown, hts⟩ := id hf
  intro k
  induction k with
  | zero =>
    intro i cap Ms cells slots L g H locs ls hik hMs hcap hRc hRs h_dk h_els h_reo h_es hfr hP hD hS hl kk
    refine lv_iload_n hx hb dX9_merge_78 rfl (lv_at hl 0 rfl) ?_
    refine lv_aload_n hx hb dX9_merge_79 rfl (lv_at hl 1 rfl) ?_
    refine o_get (D := D) (ci := 10) (v := .ref reo) (C := RX9) (T := TX9) (N := 12) hx hb hts inX9 hown hK hP h_dk rfl 3 (by decide) (hts _ k_432) (fun _ h9 => h9) rfl dX9_merge_80 ?_
    obtain ⟨mc9, d9, h_al9⟩ := h_reo.al
    refine o_cis (k := cells) (n := slots) hK hP hD hS hA (o_rV (As := []) (rest := [.int (nI i)]) hf (li_size _ _ _ _ _ _ _ _ reo 7 8 c7 ys h_reo _) k_606 k_686 k_604 k_605 k_89 (nA := 0) (by decide +kernel) ⟨Nat.le_trans (by decide) hRf, Nat.le_trans (by decide) hRl⟩ hK hP hD hS hA hZ hN h_al9 rfl rfl rfl hl.1 rfl (Nat.le_of_ble_eq_true rfl) dX9_merge_83 ⟨(show cells + 0 ≤ R.cells by omega), (show slots + 0 ≤ R.slots by omega)⟩) (Nat.le_refl _) (Nat.le_refl _) (fun r H locs hw hP hD hS => ?_)
    obtain rfl := hw
    refine lv_icmp_ge (tgt := 121) hx hb dX9_merge_86 (by decide) (fun c_1 => ?_) (fun c_1 => ?_)
    · have c_1 := q_le (a := ys.length) (b := i) (by omega) (by omega) c_1
      obtain rfl : i = ys.length := by omega
      refine W.widen (k := cE) (n := sE) (by omega) (by omega) ?_
      exact kk cap Ms _ _ H locs ls hMs hcap h_dk h_els h_reo h_es hfr hP hD hS (lv_sub hl (l' := [(0, .ref dk)]) [1] rfl)
    · have c_1 := q_nle (a := ys.length) (b := i) (by omega) (by omega) c_1
      exact False.elim (by omega)
  | succ k ih =>
    intro i cap Ms cells slots L g H locs ls hik hMs hcap hRc hRs h_dk h_els h_reo h_es hfr hP hD hS hl kk
    refine lv_iload_n hx hb dX9_merge_78 rfl (lv_at hl 0 rfl) ?_
    refine lv_aload_n hx hb dX9_merge_79 rfl (lv_at hl 1 rfl) ?_
    refine o_get (D := D) (ci := 10) (v := .ref reo) (C := RX9) (T := TX9) (N := 12) hx hb hts inX9 hown hK hP h_dk rfl 3 (by decide) (hts _ k_432) (fun _ h9 => h9) rfl dX9_merge_80 ?_
    obtain ⟨mc9, d9, h_al9⟩ := h_reo.al
    refine o_cis (k := cells) (n := slots) hK hP hD hS hA (o_rV (As := []) (rest := [.int (nI i)]) hf (li_size _ _ _ _ _ _ _ _ reo 7 8 c7 ys h_reo _) k_606 k_686 k_604 k_605 k_89 (nA := 0) (by decide +kernel) ⟨Nat.le_trans (by decide) hRf, Nat.le_trans (by decide) hRl⟩ hK hP hD hS hA hZ hN h_al9 rfl rfl rfl hl.1 rfl (Nat.le_of_ble_eq_true rfl) dX9_merge_83 ⟨(show cells + 0 ≤ R.cells by omega), (show slots + 0 ≤ R.slots by omega)⟩) (Nat.le_refl _) (Nat.le_refl _) (fun r H locs hw hP hD hS => ?_)
    obtain rfl := hw
    refine lv_icmp_ge (tgt := 121) hx hb dX9_merge_86 (by decide) (fun c_1 => ?_) (fun c_1 => ?_)
    · have c_1 := q_le (a := ys.length) (b := i) (by omega) (by omega) c_1
      exact False.elim (by omega)
    · have c_1 := q_nle (a := ys.length) (b := i) (by omega) (by omega) c_1
      have hab := h_els.b
      have htl : (ys.take i).length = i := by rw [List.length_take]; omega
      have hnb := ncap_b hab.1 hab.2.2
      refine lv_aload_n hx hb dX9_merge_89 rfl (lv_at hl 1 rfl) ?_
      refine o_get (D := D) (ci := 10) (v := .ref reo) (C := RX9) (T := TX9) (N := 12) hx hb hts inX9 hown hK hP h_dk rfl 3 (by decide) (hts _ k_432) (fun _ h9 => h9) rfl dX9_merge_90 ?_
      refine lv_iload_n hx hb dX9_merge_93 rfl (lv_at hl 0 rfl) ?_
      obtain ⟨mc9, d9, h_al9⟩ := h_reo.al
      refine o_crs (k := cells) (n := slots) hK hP hD hS hA (o_rV (As := [.int (nI i)]) (rest := []) hf (li_get _ _ _ _ _ _ _ _ reo 7 8 c7 ys i h_reo (by omega) _) k_675 k_687 k_673 k_674 k_89 (nA := 1) (by decide +kernel) ⟨Nat.le_trans (by decide) hRf, Nat.le_trans (by decide) hRl⟩ hK hP hD hS hA hZ hN h_al9 rfl rfl rfl hl.1 rfl (Nat.le_of_ble_eq_true rfl) dX9_merge_94 ⟨(show cells + 0 ≤ R.cells by omega), (show slots + 0 ≤ R.slots by omega)⟩) (Nat.le_refl _) (Nat.le_refl _) (fun r H locs hw hP hD hS => ?_)
      obtain rfl := hw
      obtain ⟨tx9, rf9, rt9, N9, M9, tf9, f19, f29, h_el9, hX1, hX2, hX3, hX4, hX5, hX6, hX7⟩ := h_es.2.2 i (by omega)
      have h_es0 := h_es
      refine o_cast hx hb hown (hts _ k_180) hK hP h_el9 rfl rfl dX9_merge_97 ?_
      refine lv_astore_n (lv' := [(2, .ref (ys.getD i 0)), (1, .int (nI i)), (0, .ref dk)]) hx hb dX9_merge_100 rfl hl (by decide) rfl (fun ls hl => ?_)
      refine lv_aload_n hx hb dX9_merge_101 rfl (lv_at hl 0 rfl) ?_
      refine lv_iload_n hx hb dX9_merge_102 rfl (lv_at hl 1 rfl) ?_
      refine o_put (D := D) (ci := 2) (v := .int (nI i)) (ty := .int) (C := RX1) (T := TX1) (N := 9) (fs1 := [.int ((Ms.getD i dE).1), .int (nI i), .int ((Ms.getD i dE).2.2.1), .ref tx9, .int (nI ((Ms.getD i dE).2.2.2.2.length)), .int (nI ((Ms.getD i dE).2.2.2.1)), .ref rf9, .ref rt9, .int (nI ((tx_rows (Ms.getD i dE).1 (Ms.getD i dE).2.2.2.2).length))]) hx hb hts inX1 tyX1 tyX1_ok nmX1 hown hK hP hD hS h_el9 rfl 1 (by decide) (hts _ k_234) (fun _ h9 => h9) rfl (by decide +kernel) rfl rfl (Nat.le_of_ble_eq_true rfl) rfl dX9_merge_103 (fun g H locs h_el9 hu hP hD hS => ?_)
      have h_dk := h_dk.up hu (by decide)
      have hfr := hfr.up hu (by decide)
      have h_els := h_els.frd hu.fr (by decide)
      have h_reo := h_reo.frd hu.fr (by decide)
      have h_ne : elR cB cI_ _ _ (ys.getD i 0) (Ms.getD i dE).1 (nI i) (Ms.getD i dE).2.2.1 (Ms.getD i dE).2.2.2.1 (Ms.getD i dE).2.2.2.2 := ⟨tx9, rf9, rt9, N9, M9, tf9, f19, f29, h_el9, hX1.up hu (by decide), hX2.up hu (by decide), hX3.up hu (by decide), hX4, hX5, hX6, hX7⟩
      have h_es := h_es0.set (E := ((Ms.getD i dE).1, nI i, (Ms.getD i dE).2.2.1, (Ms.getD i dE).2.2.2.1, (Ms.getD i dE).2.2.2.2)) (show i < ys.length by omega) hu h_ne
      refine lv_aload_n hx hb dX9_merge_106 rfl (lv_at hl 2 rfl) ?_
      refine o_get (D := D) (ci := 10) (v := .ref els) (C := RX9) (T := TX9) (N := 12) hx hb hts inX9 hown hK hP h_dk rfl 2 (by decide) (hts _ k_431) (fun _ h9 => h9) rfl dX9_merge_107 ?_
      refine lv_aload_n hx hb dX9_merge_110 rfl (lv_at hl 0 rfl) ?_
      obtain ⟨mc9, d9, h_al9⟩ := h_els.al
      refine o_ci (k := cells + (gcel ((ys.take i)).length cap)) (n := slots + (gslo ((ys.take i)).length cap)) hK hP hD hS hA (o_rV (As := [.ref (ys.getD i 0)]) (rest := []) hf (li_add _ _ _ _ _ _ _ _ els 5 6 cap ((ys.take i)) 9 (ys.getD i 0) 2 rxE [.int ((Ms.getD i dE).1), .int (nI i), .int ((Ms.getD i dE).2.2.1), .ref tx9, .int (nI ((Ms.getD i dE).2.2.2.2.length)), .int (nI ((Ms.getD i dE).2.2.2.1)), .ref rf9, .ref rt9, .int (nI ((tx_rows (Ms.getD i dE).1 (Ms.getD i dE).2.2.2.2).length))] h_els h_el9 (by decide) (by decide) (by decide) rfl hcaE (fun y9 h9 => h_es.ob y9 (List.mem_of_mem_take h9)) (by omega) _) k_611 k_992 k_609 k_610 k_89 (nA := 1) (by decide +kernel) ⟨Nat.le_trans (by decide) hRf, Nat.le_trans (by decide) hRl⟩ hK hP hD hS hA hZ hN h_al9 rfl rfl rfl hl.1 rfl (Nat.le_of_ble_eq_true rfl) dX9_merge_111 ⟨(show cells + (gcel ((ys.take i)).length cap) ≤ R.cells by omega), (show slots + (gslo ((ys.take i)).length cap) ≤ R.slots by omega)⟩) (by omega) (by omega) (fun r L g H locs hw hP hD hS => ?_)
      obtain ⟨rfl, hf9, h_els⟩ := hw
      have h_dk := h_dk.fr hf9 (by decide)
      have h_el9 := h_el9.fr hf9 (by decide)
      have hfr := hfr.tm hf9 (by decide)
      have h_reo := h_reo.frd hf9 (by decide)
      have h_es := h_es.frd hf9 (by decide)
      refine lv_pop hx hb dX9_merge_114 rfl ?_
      refine lv_iinc (v := nI (i + 1)) (lv' := [(1, .int (nI (i + 1))), (2, .ref (ys.getD i 0)), (0, .ref dk)]) hx hb dX9_merge_115 hl (k := 1) rfl (nI_addE (a := i) (b := 1) (by omega)) (by decide) rfl (fun ls hl => ?_)
      refine lv_goto (tgt := 78) hx hb dX9_merge_118 (by decide) ?_
      rw [ls_take (show i < ys.length by omega)] at h_els
      refine W.widen (k := cells + (ncap (ys.take i).length cap - cap) / 5) (n := slots + 4 * (ncap (ys.take i).length cap - cap)) (by omega) (by omega) ?_
      exact ih (i + 1) (ncap (ys.take i).length cap) (Ms.set i ((Ms.getD i dE).1, nI i, (Ms.getD i dE).2.2.1, (Ms.getD i dE).2.2.2.1, (Ms.getD i dE).2.2.2.2)) _ _ _ _ H locs ls (by omega) (by rw [hMs]; rfl) (by omega) (by omega) (by omega) h_dk h_els h_reo h_es hfr hP hD hS (lv_sub hl (l' := [(1, .int (nI (i + 1))), (0, .ref dk)]) [0, 2] rfl) kk
