abbrev A3 : Type := Int32 × Nat × List Int32
def a3 (E : E5) : A3 := (E.1, E.2.2.2.1, E.2.2.2.2)
def acE (Es : List E5) : List A3 := (Es.map a3).reverse
theorem acE_a {Es : List E5} {E : E5} : acE (Es ++ [E]) = a3 E :: acE Es := by
  unfold acE
  rw [List.map_append, List.reverse_append]
  rfl
theorem acE_len {Es : List E5} : (acE Es).length = Es.length := by
  unfold acE
  rw [List.length_reverse, List.length_map]
/-- the elements made so far, and the one that is open -/
def opR (T : Nat → Int32) (L : List (Nat × Nat)) (n j nx oF oT bs : Nat) (Es : List E5) : Prop :=
  (ka_ T L j = -1 ∧ tx_acc T L j = acE Es) ∨ (kd6 (ka_ T L j) ∧ (oF ≤ oT ∧ oT < nx ∧ oT ≤ n ∧ bs ≤ oF) ∧ (∀ t, oT ≤ t → t < nx → t < n → tx_gap (T t)) ∧ tx_acc T L j = (ka_ T L j, tx_sc T (oT - oF) oF 0 0 []) :: acE Es)
def nmR (Es : List E5) : Prop := ∀ e, e < Es.length → (Es.getD e dE).2.1 = nI e ∧ (Es.getD e dE).2.2.1 = 0
theorem nmR_b {Es : List E5} {E : E5} (h : nmR Es) (h1 : E.2.1 = nI Es.length) (h2 : E.2.2.1 = 0) : nmR (Es ++ [E]) := by
  intro e he
  rw [List.length_append] at he
  have he : e < Es.length + 1 := he
  by_cases c : e < Es.length
  · rw [show (Es ++ [E]).getD e dE = Es.getD e dE by simp only [List.getD_eq_getElem?_getD]; rw [List.getElem?_append_left c]]
    exact h e c
  · have c2 : e = Es.length := by omega
    rw [show (Es ++ [E]).getD e dE = E by rw [c2]; simp, c2]
    exact ⟨h1, h2⟩
theorem nmR_a {Es : List E5} {kd : Int32} {w : Nat} {X : List Int32} {n : Nat} (h : nmR Es) (hn : n = Es.length) : nmR (Es ++ [(kd, nI n, 0, w, X)]) := nmR_b h (by show nI n = nI Es.length; rw [hn]) rfl
theorem cnt_m (T : Nat → Int32) (L : List (Nat × Nat)) (a : Nat) : ∀ d, tx_cnt T L a ≤ tx_cnt T L (a + d) := by
  intro d
  induction d with
  | zero => exact Nat.le_refl _
  | succ d ih =>
    show tx_cnt T L a ≤ tx_cnt T L (a + d) + _
    omega
theorem cnt_mo {T : Nat → Int32} {L : List (Nat × Nat)} {a b : Nat} (h : a ≤ b) : tx_cnt T L a ≤ tx_cnt T L b := by
  have h2 := cnt_m T L a (b - a)
  rw [show a + (b - a) = b by omega] at h2
  exact h2
theorem op_join {T : Nat → Int32} {L : List (Nat × Nat)} {n j nx oF oT bs y x e : Nat} {Es : List E5} (hop : opR T L n j nx oF oT bs Es) (hm : ¬ tx_free L j ∧ tx_more T L j) (hg : L.getD j (0, 0) = (y, x)) (hnx : nx < n) (ee : e = tx_el2 T n nx) (ey : y = tx_sk T (e - nx) nx) (ex : x = tx_bk T (e - y) e) : opR T L n (j + 1) (e + 1) oF x bs Es ∧ ka_ T L j = ka_ T L (j + 1) := by
  have hka := ka_more.mpr hm
  have hk1 : ka_ T L (j + 1) = tx_k T L j := rfl
  have hel := el2_ge (T := T) hnx
  rw [← ee] at hel
  have hyx := lf_yx hel.1 ey ex
  have hk6 : kd6 (tx_k T L j) := by
    rcases hka.2 with h | h
    · rw [h]; exact Or.inr (Or.inr (Or.inr (Or.inr (Or.inl rfl))))
    · rw [h]; exact Or.inr (Or.inr (Or.inr (Or.inr (Or.inr rfl))))
  refine ⟨?_, hka.1.symm.trans hk1.symm⟩
  rcases hop with ⟨h1, _⟩ | ⟨h1, h2, h3, h4⟩
  · exact absurd (hka.1.trans h1) (kd6_n hk6)
  · refine Or.inr ⟨by rw [hk1]; exact hk6, ⟨by omega, by omega, by omega, h2.2.2.2⟩, ln_gap hnx ee ey ex, ?_⟩
    rw [tx_acc_m hm.1 hm.2, h4, hg, hk1, hka.1]
    show (ka_ T L j, tx_sc T (x - y) y 0 (tx_sc T (oT - oF) oF 0 0 []).1 (tx_sc T (oT - oF) oF 0 0 []).2) :: acE Es = _
    rw [sc_app h2.1 (by omega) hyx.2.1 (fun t t1 t2 => by
      by_cases c : t < nx
      · exact h3 t t1 c (by omega)
      · exact Or.inl (sk_all T (e - nx) nx t (by omega) (by rw [← ey]; exact t2)))]
theorem op_next {T : Nat → Int32} {L : List (Nat × Nat)} {n j nx y x e : Nat} {Es : List E5} (hac : tx_acc T L j = acE Es) (hm : ¬ (¬ tx_free L j ∧ tx_more T L j)) (hg : L.getD j (0, 0) = (y, x)) (hnx : nx < n) (ee : e = tx_el2 T n nx) (ey : y = tx_sk T (e - nx) nx) (ex : x = tx_bk T (e - y) e) : opR T L n (j + 1) (e + 1) y x nx Es := by
  have hk1 : ka_ T L (j + 1) = tx_k T L j := rfl
  have hel := el2_ge (T := T) hnx
  rw [← ee] at hel
  have hyx := lf_yx hel.1 ey ex
  rcases tx_k_c T L j with h | h
  · exact Or.inl ⟨hk1.trans h.2, (tx_acc_f h.1).trans hac⟩
  · refine Or.inr ⟨by rw [hk1]; exact h.2, ⟨hyx.2.1, by omega, by omega, hyx.1⟩, ln_gap hnx ee ey ex, ?_⟩
    rw [tx_acc_n h.1 (fun z => hm ⟨h.1, z⟩), hg, hac, hk1]
theorem op_acc {T : Nat → Int32} {L : List (Nat × Nat)} {n j nx oF oT bs w : Nat} {X : List Int32} {nm : Int32} {Es : List E5} (hac : tx_acc T L j = (ka_ T L j, tx_sc T (oT - oF) oF 0 0 []) :: acE Es) (hX : (w, X) = tx_sc T (oT - oF) oF 0 0 []) : tx_acc T L j = acE (Es ++ [(ka_ T L j, nm, 0, w, X)]) := by
  rw [hac, acE_a, ← hX]
  rfl
abbrev cX4_makeElements : ByteArray := prog_6_method_3_code
def yX4_makeElements : MethodName := ⟨RX4, "makeElements", "(Ljava/util/ArrayList;)V"⟩
theorem k_15 : (Cond.selects RX4 yX4_close yX4_close) ∈ gT := gT_i 15 (by decide +kernel) rfl
theorem k_598 : (Cond.methodLink RX4 38 yX4_close) ∈ gT := gT_i 598 (by decide +kernel) rfl
theorem k_600 : (Cond.instanceMethod yX4_close) ∈ gT := gT_i 600 (by decide +kernel) rfl
theorem k_601 : (Cond.code yX4_close cX4_close 5 none) ∈ gT := gT_i 601 (by decide +kernel) rfl
theorem dX4_makeElements_14 : decode cX4_makeElements 14 = .ok (.iload 5, 2) := by decide +kernel
theorem dX4_makeElements_16 : decode cX4_makeElements 16 = .ok (.sipush 1200, 3) := by decide +kernel
theorem dX4_makeElements_19 : decode cX4_makeElements 19 = .ok (.if_icmp .ge 59, 3) := by decide +kernel
theorem dX4_makeElements_22 : decode cX4_makeElements 22 = .ok (.aload_n 0, 1) := by decide +kernel
theorem dX4_makeElements_23 : decode cX4_makeElements 23 = .ok (.getfield 20, 3) := by decide +kernel
theorem dX4_makeElements_26 : decode cX4_makeElements 26 = .ok (.aload_n 0, 1) := by decide +kernel
theorem dX4_makeElements_27 : decode cX4_makeElements 27 = .ok (.getfield 9, 3) := by decide +kernel
theorem dX4_makeElements_30 : decode cX4_makeElements 30 = .ok (.invokevirtual 24, 3) := by decide +kernel
theorem dX4_makeElements_33 : decode cX4_makeElements 33 = .ok (.if_icmp .ge 45, 3) := by decide +kernel
theorem dX4_makeElements_36 : decode cX4_makeElements 36 = .ok (.aload_n 0, 1) := by decide +kernel
theorem dX4_makeElements_37 : decode cX4_makeElements 37 = .ok (.invokevirtual 28, 3) := by decide +kernel
theorem dX4_makeElements_40 : decode cX4_makeElements 40 = .ok (.aload_n 0, 1) := by decide +kernel
theorem dX4_makeElements_41 : decode cX4_makeElements 41 = .ok (.invokevirtual 34, 3) := by decide +kernel
theorem dX4_makeElements_44 : decode cX4_makeElements 44 = .ok (.ifCond .ne 22, 3) := by decide +kernel
theorem dX4_makeElements_66 : decode cX4_makeElements 66 = .ok (.aload_n 0, 1) := by decide +kernel
theorem dX4_makeElements_67 : decode cX4_makeElements 67 = .ok (.getfield 45, 3) := by decide +kernel
theorem dX4_makeElements_70 : decode cX4_makeElements 70 = .ok (.istore 4, 2) := by decide +kernel
theorem dX4_makeElements_72 : decode cX4_makeElements 72 = .ok (.iinc 5 1, 3) := by decide +kernel
theorem dX4_makeElements_75 : decode cX4_makeElements 75 = .ok (.goto (-61), 3) := by decide +kernel
theorem dX4_makeElements_47 : decode cX4_makeElements 47 = .ok (.aload_n 0, 1) := by decide +kernel
theorem dX4_makeElements_48 : decode cX4_makeElements 48 = .ok (.aload_n 1, 1) := by decide +kernel
theorem dX4_makeElements_49 : decode cX4_makeElements 49 = .ok (.iload_n 2, 1) := by decide +kernel
theorem dX4_makeElements_50 : decode cX4_makeElements 50 = .ok (.iload_n 3, 1) := by decide +kernel
theorem dX4_makeElements_51 : decode cX4_makeElements 51 = .ok (.iload 4, 2) := by decide +kernel
theorem dX4_makeElements_53 : decode cX4_makeElements 53 = .ok (.invokevirtual 38, 3) := by decide +kernel
theorem dX4_makeElements_56 : decode cX4_makeElements 56 = .ok (.aload_n 0, 1) := by decide +kernel
theorem dX4_makeElements_57 : decode cX4_makeElements 57 = .ok (.getfield 31, 3) := by decide +kernel
theorem dX4_makeElements_60 : decode cX4_makeElements 60 = .ok (.istore_n 2, 1) := by decide +kernel
theorem dX4_makeElements_61 : decode cX4_makeElements 61 = .ok (.aload_n 0, 1) := by decide +kernel
theorem dX4_makeElements_62 : decode cX4_makeElements 62 = .ok (.getfield 42, 3) := by decide +kernel
theorem dX4_makeElements_65 : decode cX4_makeElements 65 = .ok (.istore_n 3, 1) := by decide +kernel
set_option maxHeartbeats 1000000 in
set_option maxRecDepth 100000 in
theorem mk_loop {p : Program} {l : Launch} {e : Env} {R : Room} {s : State} {m : MethodId} {args : Array Value} {below : List Frame} {meth : Method} {c : Code} {Q : State → Prop} {D : va_G} {A : Nat → Prop} {z : Nat → Nat} {cB cI_ cO : ClassId} {L0 : List Nat} {g0 : hG} {rd tp by_ n els B cE sE : Nat} {T : Nat → Int32} {L_ : List (Nat × Nat)} (hn : n ≤ 1200) (hTb : ∀ i, vp_nar .byte (T i) = T i) (hcnt : tx_cnt T L_ L_.length ≤ 60) (hB : 100 ≤ B) (hB2 : B ≤ 60000) (hcE : cE ≤ R.cells) (hsE : sE ≤ R.slots) (hRf : 9 ≤ R.frames) (hRl : 190 ≤ R.locals) (hA : ∀ q : Nat, s.heap.size ≤ q → A q) (hf : CallFix p m c cX4_makeElements 6 s args gT yX4_makeElements.cls) (hK : va_K D vcl (dT cB cI_ cO) s) (hZ : zA z A s s.heap) (hN : zB z s) :
    ∀ (k : Nat) (j : Nat) (nx : Nat) (f : Nat) (fm : Nat) (to_ : Nat) (ka : Int32) (oF : Nat) (oT : Nat) (cap : Nat) (xs : List Nat) (Es : List E5) (bs_ : Nat) (cells slots : Nat) (L : List Nat) (g : hG) (H : Heap) (locs : List Loc) (ls : Array Slot), L_.drop j = tx_ln T n f nx → n + 1 ≤ nx + f → n ≤ k + nx → j ≤ nx ∧ nx ≤ n + 1 ∧ j ≤ L_.length → opR T L_ n j nx oF oT bs_ Es → nmR Es → cap ≤ B → bs_ ≤ nx ∧ xs.length ≤ 60 ∧ oF ≤ 1201 ∧ oT ≤ 1201 → cells + (4 * (61 - xs.length) + (B - cap) / 5) ≤ cE → slots + (11 * (61 - xs.length) + 2 * (n + 2 - bs_) + 4 * (B - cap)) ≤ sE → ho L g rd 4 (.inr (5, [.ref tp, .int (nI nx), .int (nI fm), .int (nI to_), .int (ka_ T L_ j), .int ka])) → ho L g tp 2 (.inr (9, [.ref by_, .int (nI n)])) → ho L g by_ 3 (.inl (cB, 1200, .inl T)) → alR cO (z 0) 5 6 L g els cap xs → elsR cB cI_ L g xs Es → fr [4, 5, 6, 9, 10, 11, 12] L0 g0 L g → va_P D vcl (dW L g) H → va_D A (dW L g) → va_S A s.heap H locs → lv_has ls 6 [(5, .int (nI j)), (2, .int (ka_ T L_ j)), (3, .int (nI oF)), (4, .int (nI oT)), (0, .ref rd), (1, .ref els)] →
    (∀ (nx : Nat) (fm : Nat) (to_ : Nat) (kd : Int32) (ka : Int32) (oF : Nat) (oT : Nat) (cap : Nat) (xs : List Nat) (Es : List E5) (bs_ : Nat) (cells slots : Nat) (L : List Nat) (g : hG) (H : Heap) (locs : List Loc) (ls : Array Slot), opR T L_ n L_.length nx oF oT bs_ Es → nmR Es → cap ≤ B ∧ (bs_ ≤ nx ∧ xs.length ≤ 60 ∧ oF ≤ 1201 ∧ oT ≤ 1201) ∧ nx ≤ n + 1 → cells + (4 * (61 - xs.length) + (B - cap) / 5) ≤ cE → slots + (11 * (61 - xs.length) + 2 * (n + 2 - bs_) + 4 * (B - cap)) ≤ sE → ho L g rd 4 (.inr (5, [.ref tp, .int (nI nx), .int (nI fm), .int (nI to_), .int kd, .int ka])) → ho L g tp 2 (.inr (9, [.ref by_, .int (nI n)])) → ho L g by_ 3 (.inl (cB, 1200, .inl T)) → alR cO (z 0) 5 6 L g els cap xs → elsR cB cI_ L g xs Es → fr [4, 5, 6, 9, 10, 11, 12] L0 g0 L g → va_P D vcl (dW L g) H → va_D A (dW L g) → va_S A s.heap H locs → lv_has ls 6 [(2, .int (ka_ T L_ L_.length)), (3, .int (nI oF)), (4, .int (nI oT)), (0, .ref rd), (1, .ref els)] → W p l e R s m args below meth c H locs cells slots Q (F0 m 78 ls [])) →
    W p l e R s m args below meth c H locs cells slots Q (F0 m 14 ls []) := by
  obtain ⟨hx, hb, hml, hown, hts⟩ := id hf
  intro k
  induction k with
  | zero =>
    intro j nx f fm to_ ka oF oT cap xs Es bs_ cells slots L g H locs ls hdr hfu2 hfu hj hop hnm hcap hbs hRc hRs h_rd h_tp h_by h_els h_es hfr hP hD hS hl kk
    refine lv_iload hx hb dX4_makeElements_14 (lv_at hl 0 rfl) ?_
    refine lv_sipush (v := 1200) hx hb dX4_makeElements_16 (by decide) ?_
    refine lv_icmp_ge (tgt := 78) hx hb dX4_makeElements_19 (by decide) (fun c_1 => ?_) (fun c_1 => ?_)
    · have c_1 := q_le (a := 1200) (b := j) (by omega) (by omega) c_1
      have hnl : L_.length = j := by have h9 := dr_nil (hdr.trans (tx_ln_out (by omega) _)); omega
      rw [← hnl] at hl hop
      exact kk nx _ _ _ _ oF oT cap xs Es bs_ cells slots _ _ H locs ls hop hnm ⟨hcap, hbs, by omega⟩ hRc hRs h_rd h_tp h_by h_els h_es hfr hP hD hS (lv_sub hl (l' := [(2, .int (ka_ T L_ L_.length)), (3, .int (nI oF)), (4, .int (nI oT)), (0, .ref rd), (1, .ref els)]) [1, 2, 3, 4, 5] rfl)
    · have c_1 := q_nle (a := 1200) (b := j) (by omega) (by omega) c_1
      refine lv_aload_n hx hb dX4_makeElements_22 rfl (lv_at hl 4 rfl) ?_
      refine o_get (D := D) (ci := 5) (v := .int (nI nx)) (C := RX4) (T := TX4) (N := 6) hx hb hts inX4 hown hK hP h_rd rfl 1 (by decide) (hts _ k_136) (fun _ h9 => h9) rfl dX4_makeElements_23 ?_
      refine lv_aload_n hx hb dX4_makeElements_26 rfl (lv_at hl 4 rfl) ?_
      refine o_get (D := D) (ci := 5) (v := .ref tp) (C := RX4) (T := TX4) (N := 6) hx hb hts inX4 hown hK hP h_rd rfl 0 (by decide) (hts _ k_135) (fun _ h9 => h9) rfl dX4_makeElements_27 ?_
      refine o_cis (k := cells) (n := slots) hK hP hD hS hA (o_rV (As := []) (rest := [.int (nI nx)]) hf (t_used _ _ _ _ _ _ _ _ tp by_ n T h_tp _) k_481 k_502 k_479 k_480 k_85 (nA := 0) (by decide +kernel) ⟨Nat.le_trans (by decide) hRf, Nat.le_trans (by decide) hRl⟩ hK hP hD hS hA hZ hN h_tp rfl rfl rfl hl.1 rfl (Nat.le_of_ble_eq_true rfl) dX4_makeElements_30 ⟨(show cells + 0 ≤ R.cells by omega), (show slots + 0 ≤ R.slots by omega)⟩) (Nat.le_refl _) (Nat.le_refl _) (fun r H locs hw hP hD hS => ?_)
      obtain rfl := hw
      refine lv_icmp_ge (tgt := 78) hx hb dX4_makeElements_33 (by decide) (fun c_2 => ?_) (fun c_2 => ?_)
      · have c_2 := q_le (a := n) (b := nx) (by omega) (by omega) c_2
        have hnl : L_.length = j := by have h9 := dr_nil (hdr.trans (tx_ln_out (by omega) _)); omega
        rw [← hnl] at hl hop
        exact kk nx _ _ _ _ oF oT cap xs Es bs_ cells slots _ _ H locs ls hop hnm ⟨hcap, hbs, by omega⟩ hRc hRs h_rd h_tp h_by h_els h_es hfr hP hD hS (lv_sub hl (l' := [(2, .int (ka_ T L_ L_.length)), (3, .int (nI oF)), (4, .int (nI oT)), (0, .ref rd), (1, .ref els)]) [1, 2, 3, 4, 5] rfl)
      · have c_2 := q_nle (a := n) (b := nx) (by omega) (by omega) c_2
        exact False.elim (by omega)
  | succ k ih =>
    intro j nx f fm to_ ka oF oT cap xs Es bs_ cells slots L g H locs ls hdr hfu2 hfu hj hop hnm hcap hbs hRc hRs h_rd h_tp h_by h_els h_es hfr hP hD hS hl kk
    refine lv_iload hx hb dX4_makeElements_14 (lv_at hl 0 rfl) ?_
    refine lv_sipush (v := 1200) hx hb dX4_makeElements_16 (by decide) ?_
    refine lv_icmp_ge (tgt := 78) hx hb dX4_makeElements_19 (by decide) (fun c_1 => ?_) (fun c_1 => ?_)
    · have c_1 := q_le (a := 1200) (b := j) (by omega) (by omega) c_1
      have hnl : L_.length = j := by have h9 := dr_nil (hdr.trans (tx_ln_out (by omega) _)); omega
      rw [← hnl] at hl hop
      exact kk nx _ _ _ _ oF oT cap xs Es bs_ cells slots _ _ H locs ls hop hnm ⟨hcap, hbs, by omega⟩ hRc hRs h_rd h_tp h_by h_els h_es hfr hP hD hS (lv_sub hl (l' := [(2, .int (ka_ T L_ L_.length)), (3, .int (nI oF)), (4, .int (nI oT)), (0, .ref rd), (1, .ref els)]) [1, 2, 3, 4, 5] rfl)
    · have c_1 := q_nle (a := 1200) (b := j) (by omega) (by omega) c_1
      refine lv_aload_n hx hb dX4_makeElements_22 rfl (lv_at hl 4 rfl) ?_
      refine o_get (D := D) (ci := 5) (v := .int (nI nx)) (C := RX4) (T := TX4) (N := 6) hx hb hts inX4 hown hK hP h_rd rfl 1 (by decide) (hts _ k_136) (fun _ h9 => h9) rfl dX4_makeElements_23 ?_
      refine lv_aload_n hx hb dX4_makeElements_26 rfl (lv_at hl 4 rfl) ?_
      refine o_get (D := D) (ci := 5) (v := .ref tp) (C := RX4) (T := TX4) (N := 6) hx hb hts inX4 hown hK hP h_rd rfl 0 (by decide) (hts _ k_135) (fun _ h9 => h9) rfl dX4_makeElements_27 ?_
      refine o_cis (k := cells) (n := slots) hK hP hD hS hA (o_rV (As := []) (rest := [.int (nI nx)]) hf (t_used _ _ _ _ _ _ _ _ tp by_ n T h_tp _) k_481 k_502 k_479 k_480 k_85 (nA := 0) (by decide +kernel) ⟨Nat.le_trans (by decide) hRf, Nat.le_trans (by decide) hRl⟩ hK hP hD hS hA hZ hN h_tp rfl rfl rfl hl.1 rfl (Nat.le_of_ble_eq_true rfl) dX4_makeElements_30 ⟨(show cells + 0 ≤ R.cells by omega), (show slots + 0 ≤ R.slots by omega)⟩) (Nat.le_refl _) (Nat.le_refl _) (fun r H locs hw hP hD hS => ?_)
      obtain rfl := hw
      refine lv_icmp_ge (tgt := 78) hx hb dX4_makeElements_33 (by decide) (fun c_2 => ?_) (fun c_2 => ?_)
      · have c_2 := q_le (a := n) (b := nx) (by omega) (by omega) c_2
        have hnl : L_.length = j := by have h9 := dr_nil (hdr.trans (tx_ln_out (by omega) _)); omega
        rw [← hnl] at hl hop
        exact kk nx _ _ _ _ oF oT cap xs Es bs_ cells slots _ _ H locs ls hop hnm ⟨hcap, hbs, by omega⟩ hRc hRs h_rd h_tp h_by h_els h_es hfr hP hD hS (lv_sub hl (l' := [(2, .int (ka_ T L_ L_.length)), (3, .int (nI oF)), (4, .int (nI oT)), (0, .ref rd), (1, .ref els)]) [1, 2, 3, 4, 5] rfl)
      · have c_2 := q_nle (a := n) (b := nx) (by omega) (by omega) c_2
        refine lv_aload_n hx hb dX4_makeElements_36 rfl (lv_at hl 4 rfl) ?_
        refine o_cv (k := cells) (n := slots) hK hP hD hS hA (o_rV (As := []) (rest := []) hf (r_step _ _ _ _ _ _ _ _ rd tp by_ n nx fm to_ T (ka_ T L_ j) ka h_rd h_tp h_by hn (by omega) _) k_506 k_503 k_505 k_7 k_86 (nA := 0) (by decide +kernel) ⟨Nat.le_trans (by decide) hRf, Nat.le_trans (by decide) hRl⟩ hK hP hD hS hA hZ hN h_rd rfl rfl rfl hl.1 rfl (Nat.le_of_ble_eq_true rfl) dX4_makeElements_37 ⟨(show cells + 0 ≤ R.cells by omega), (show slots + 0 ≤ R.slots by omega)⟩) (Nat.le_refl _) (Nat.le_refl _) (fun L g H locs hw hP hD hS => ?_)
        obtain ⟨y, x, ey, ex_, hf9, h_rd⟩ := hw
        have h_tp := h_tp.fr hf9 (by decide)
        have h_by := h_by.fr hf9 (by decide)
        have hfr := hfr.tm hf9 (by decide)
        have h_els := h_els.frd hf9 (by decide)
        have h_es := h_es.frd hf9 (by decide)
        have hnx9 : nx < n := by omega
        have hls := ln_step hdr hfu2 hnx9
        rw [← ey, ← ex_] at hls
        have hjl := dr_len hls
        have hg := dr_g (d := (0, 0)) hls
        have hd2 := dr_s hls
        have hel := el2_ge (T := T) hnx9
        have hyx := lf_yx hel.1 ey ex_
        have hkc := kc_k (n := n) (nx := nx) (T := T) hjl hg hyx.2.1 (fb_free hd2 (show n + 1 ≤ tx_el2 T n nx + 1 + (f - 1) by omega))
        rw [hkc] at h_rd
        refine lv_aload_n hx hb dX4_makeElements_40 rfl (lv_at hl 4 rfl) ?_
        refine o_cis (k := cells) (n := slots) hK hP hD hS hA (o_rV (As := []) (rest := []) hf (r_joins _ _ _ _ _ _ _ _ rd tp by_ n ((tx_el2 T n nx + 1)) y x T (tx_k T L_ j) (ka_ T L_ j) h_rd _) k_589 k_586 k_588 k_14 k_86 (nA := 0) (by decide +kernel) ⟨Nat.le_trans (by decide) hRf, Nat.le_trans (by decide) hRl⟩ hK hP hD hS hA hZ hN h_rd rfl rfl rfl hl.1 rfl (Nat.le_of_ble_eq_true rfl) dX4_makeElements_41 ⟨(show cells + 0 ≤ R.cells by omega), (show slots + 0 ≤ R.slots by omega)⟩) (Nat.le_refl _) (Nat.le_refl _) (fun r H locs hw hP hD hS => ?_)
        rcases hw with ⟨c_3, rfl⟩ | ⟨c_3, rfl⟩
        · have c_3 := ka_more.mp c_3
          have hP := hP
          refine lv_if_ne (tgt := 66) hx hb dX4_makeElements_44 (by decide) (fun _ => ?_) (fun hno => absurd hno (by decide))
          refine lv_aload_n hx hb dX4_makeElements_66 rfl (lv_at hl 4 rfl) ?_
          refine o_get (D := D) (ci := 5) (v := .int (nI x)) (C := RX4) (T := TX4) (N := 6) hx hb hts inX4 hown hK hP h_rd rfl 3 (by decide) (hts _ k_138) (fun _ h9 => h9) rfl dX4_makeElements_67 ?_
          refine lv_istore (lv' := [(4, .int (nI x)), (5, .int (nI j)), (2, .int (ka_ T L_ j)), (3, .int (nI oF)), (0, .ref rd), (1, .ref els)]) hx hb dX4_makeElements_70 hl (by decide) rfl (fun ls hl => ?_)
          refine lv_iinc (v := nI (j + 1)) (lv' := [(5, .int (nI (j + 1))), (4, .int (nI x)), (2, .int (ka_ T L_ j)), (3, .int (nI oF)), (0, .ref rd), (1, .ref els)]) hx hb dX4_makeElements_72 hl (k := 1) rfl (nI_addE (a := j) (b := 1) (by omega)) (by decide) rfl (fun ls hl => ?_)
          refine lv_goto (tgt := 14) hx hb dX4_makeElements_75 (by decide) ?_
          have hj9 := op_join hop c_3 hg hnx9 rfl ey ex_
          rw [hj9.2] at hl
          exact ih (j + 1) (tx_el2 T n nx + 1) (f - 1) y x (ka_ T L_ j) oF x cap xs Es bs_ cells slots _ _ H locs ls hd2 (by omega) (by omega) (by omega) hj9.1 hnm hcap (by omega) hRc hRs h_rd h_tp h_by h_els h_es hfr hP hD hS (lv_sub hl (l' := [(5, .int (nI (j + 1))), (2, .int (ka_ T L_ (j + 1))), (3, .int (nI oF)), (4, .int (nI x)), (0, .ref rd), (1, .ref els)]) [0, 2, 3, 1, 4, 5] rfl) kk
        · have c_3 := fun z9 => c_3 (ka_more.mpr z9)
          have hP := hP
          refine lv_if_ne (tgt := 66) hx hb dX4_makeElements_44 (by decide) (fun hno => absurd hno (by decide)) (fun _ => ?_)
          have hop1 := hop
          rcases hop with ⟨hk, hac⟩ | ⟨hk6, hbd, hgp, hac⟩
          · have hP := hP
            rw [hk] at hl
            refine lv_aload_n hx hb dX4_makeElements_47 rfl (lv_at hl 4 rfl) ?_
            refine lv_aload_n hx hb dX4_makeElements_48 rfl (lv_at hl 5 rfl) ?_
            refine lv_iload_n hx hb dX4_makeElements_49 rfl (lv_at hl 1 rfl) ?_
            refine lv_iload_n hx hb dX4_makeElements_50 rfl (lv_at hl 2 rfl) ?_
            refine lv_iload hx hb dX4_makeElements_51 (lv_at hl 3 rfl) ?_
            refine o_cvs (k := cells) (n := slots) hK hP hD hS hA (o_rV (As := [.ref els, .int (-1), .int (nI oF), .int (nI oT)]) (rest := []) hf (r_closeN _ _ _ _ _ _ _ _ rd tp by_ n ((tx_el2 T n nx + 1)) y x (tx_k T L_ j) (ka_ T L_ j) T els cap xs Es oF oT h_rd _) k_601 k_598 k_600 k_15 k_86 (nA := 4) (by decide +kernel) ⟨Nat.le_trans (by decide) hRf, Nat.le_trans (by decide) hRl⟩ hK hP hD hS hA hZ hN h_rd rfl rfl rfl hl.1 rfl (Nat.le_of_ble_eq_true rfl) dX4_makeElements_53 ⟨(show cells + 0 ≤ R.cells by omega), (show slots + 0 ≤ R.slots by omega)⟩) (Nat.le_refl _) (Nat.le_refl _) (fun H locs hw hP hD hS => ?_)
            obtain _ := hw
            refine lv_aload_n hx hb dX4_makeElements_56 rfl (lv_at hl 4 rfl) ?_
            refine o_get (D := D) (ci := 5) (v := .int (tx_k T L_ j)) (C := RX4) (T := TX4) (N := 6) hx hb hts inX4 hown hK hP h_rd rfl 4 (by decide) (hts _ k_139) (fun _ h9 => h9) rfl dX4_makeElements_57 ?_
            refine lv_istore_n (lv' := [(2, .int (tx_k T L_ j)), (5, .int (nI j)), (3, .int (nI oF)), (4, .int (nI oT)), (0, .ref rd), (1, .ref els)]) hx hb dX4_makeElements_60 rfl hl (by decide) rfl (fun ls hl => ?_)
            refine lv_aload_n hx hb dX4_makeElements_61 rfl (lv_at hl 4 rfl) ?_
            refine o_get (D := D) (ci := 5) (v := .int (nI y)) (C := RX4) (T := TX4) (N := 6) hx hb hts inX4 hown hK hP h_rd rfl 2 (by decide) (hts _ k_137) (fun _ h9 => h9) rfl dX4_makeElements_62 ?_
            refine lv_istore_n (lv' := [(3, .int (nI y)), (2, .int (tx_k T L_ j)), (5, .int (nI j)), (4, .int (nI oT)), (0, .ref rd), (1, .ref els)]) hx hb dX4_makeElements_65 rfl hl (by decide) rfl (fun ls hl => ?_)
            refine lv_aload_n hx hb dX4_makeElements_66 rfl (lv_at hl 4 rfl) ?_
            refine o_get (D := D) (ci := 5) (v := .int (nI x)) (C := RX4) (T := TX4) (N := 6) hx hb hts inX4 hown hK hP h_rd rfl 3 (by decide) (hts _ k_138) (fun _ h9 => h9) rfl dX4_makeElements_67 ?_
            refine lv_istore (lv' := [(4, .int (nI x)), (3, .int (nI y)), (2, .int (tx_k T L_ j)), (5, .int (nI j)), (0, .ref rd), (1, .ref els)]) hx hb dX4_makeElements_70 hl (by decide) rfl (fun ls hl => ?_)
            refine lv_iinc (v := nI (j + 1)) (lv' := [(5, .int (nI (j + 1))), (4, .int (nI x)), (3, .int (nI y)), (2, .int (tx_k T L_ j)), (0, .ref rd), (1, .ref els)]) hx hb dX4_makeElements_72 hl (k := 3) rfl (nI_addE (a := j) (b := 1) (by omega)) (by decide) rfl (fun ls hl => ?_)
            refine lv_goto (tgt := 14) hx hb dX4_makeElements_75 (by decide) ?_
            have hk9 : tx_k T L_ j = ka_ T L_ (j + 1) := rfl
            rw [hk9] at hl
            refine W.widen (k := cells) (n := slots) (by omega) (by omega) ?_
            exact ih (j + 1) (tx_el2 T n nx + 1) (f - 1) y x (ka_ T L_ j) y x cap xs Es nx cells slots _ _ H locs ls hd2 (by omega) (by omega) (by omega) (op_next hac c_3 hg hnx9 rfl ey ex_) hnm hcap (by omega) hRc (by omega) h_rd h_tp h_by h_els h_es hfr hP hD hS (lv_sub hl (l' := [(5, .int (nI (j + 1))), (2, .int (ka_ T L_ (j + 1))), (3, .int (nI y)), (4, .int (nI x)), (0, .ref rd), (1, .ref els)]) [0, 3, 2, 1, 4, 5] rfl) kk
          · have hP := hP
            have hal := tx_acc_len T L_ j
            have hcm := cnt_mo (T := T) (L := L_) (show j ≤ L_.length by omega)
            rw [hac, List.length_cons, acE_len] at hal
            have hesl := h_es.1
            have hab := h_els.b
            have hnb := ncap_b hab.1 hab.2.2
            refine lv_aload_n hx hb dX4_makeElements_47 rfl (lv_at hl 4 rfl) ?_
            refine lv_aload_n hx hb dX4_makeElements_48 rfl (lv_at hl 5 rfl) ?_
            refine lv_iload_n hx hb dX4_makeElements_49 rfl (lv_at hl 1 rfl) ?_
            refine lv_iload_n hx hb dX4_makeElements_50 rfl (lv_at hl 2 rfl) ?_
            refine lv_iload hx hb dX4_makeElements_51 (lv_at hl 3 rfl) ?_
            refine o_cv (k := cells + (4 + gcel xs.length cap)) (n := slots + (9 + ((oT - oF) + (4 * ((oT - oF) / 20) + 2)) + gslo xs.length cap)) hK hP hD hS hA (o_rV (As := [.ref els, .int (ka_ T L_ j), .int (nI oF), .int (nI oT)]) (rest := []) hf (r_close _ _ _ _ _ _ _ _ rd tp by_ n ((tx_el2 T n nx + 1)) y x (tx_k T L_ j) (ka_ T L_ j) T els cap xs Es (ka_ T L_ j) oF oT h_rd h_tp h_by h_els h_es hn (by omega) (by omega) hTb hk6 (by omega) (by omega) _) k_601 k_598 k_600 k_15 k_86 (nA := 4) (by decide +kernel) ⟨Nat.le_trans (by decide) hRf, Nat.le_trans (by decide) hRl⟩ hK hP hD hS hA hZ hN h_rd rfl rfl rfl hl.1 rfl (Nat.le_of_ble_eq_true rfl) dX4_makeElements_53 ⟨(show cells + (4 + gcel xs.length cap) ≤ R.cells by omega), (show slots + (9 + ((oT - oF) + (4 * ((oT - oF) / 20) + 2)) + gslo xs.length cap) ≤ R.slots by omega)⟩) (by omega) (by omega) (fun L g H locs hw hP hD hS => ?_)
            obtain ⟨x9, w2, X2, eX, hf9, h_els, h_es⟩ := hw
            have h_tp := h_tp.fr hf9 (by decide)
            have h_by := h_by.fr hf9 (by decide)
            have h_rd := h_rd.fr hf9 (by decide)
            have hfr := hfr.tm hf9 (by decide)
            refine lv_aload_n hx hb dX4_makeElements_56 rfl (lv_at hl 4 rfl) ?_
            refine o_get (D := D) (ci := 5) (v := .int (tx_k T L_ j)) (C := RX4) (T := TX4) (N := 6) hx hb hts inX4 hown hK hP h_rd rfl 4 (by decide) (hts _ k_139) (fun _ h9 => h9) rfl dX4_makeElements_57 ?_
            refine lv_istore_n (lv' := [(2, .int (tx_k T L_ j)), (5, .int (nI j)), (3, .int (nI oF)), (4, .int (nI oT)), (0, .ref rd), (1, .ref els)]) hx hb dX4_makeElements_60 rfl hl (by decide) rfl (fun ls hl => ?_)
            refine lv_aload_n hx hb dX4_makeElements_61 rfl (lv_at hl 4 rfl) ?_
            refine o_get (D := D) (ci := 5) (v := .int (nI y)) (C := RX4) (T := TX4) (N := 6) hx hb hts inX4 hown hK hP h_rd rfl 2 (by decide) (hts _ k_137) (fun _ h9 => h9) rfl dX4_makeElements_62 ?_
            refine lv_istore_n (lv' := [(3, .int (nI y)), (2, .int (tx_k T L_ j)), (5, .int (nI j)), (4, .int (nI oT)), (0, .ref rd), (1, .ref els)]) hx hb dX4_makeElements_65 rfl hl (by decide) rfl (fun ls hl => ?_)
            refine lv_aload_n hx hb dX4_makeElements_66 rfl (lv_at hl 4 rfl) ?_
            refine o_get (D := D) (ci := 5) (v := .int (nI x)) (C := RX4) (T := TX4) (N := 6) hx hb hts inX4 hown hK hP h_rd rfl 3 (by decide) (hts _ k_138) (fun _ h9 => h9) rfl dX4_makeElements_67 ?_
            refine lv_istore (lv' := [(4, .int (nI x)), (3, .int (nI y)), (2, .int (tx_k T L_ j)), (5, .int (nI j)), (0, .ref rd), (1, .ref els)]) hx hb dX4_makeElements_70 hl (by decide) rfl (fun ls hl => ?_)
            refine lv_iinc (v := nI (j + 1)) (lv' := [(5, .int (nI (j + 1))), (4, .int (nI x)), (3, .int (nI y)), (2, .int (tx_k T L_ j)), (0, .ref rd), (1, .ref els)]) hx hb dX4_makeElements_72 hl (k := 3) rfl (nI_addE (a := j) (b := 1) (by omega)) (by decide) rfl (fun ls hl => ?_)
            refine lv_goto (tgt := 14) hx hb dX4_makeElements_75 (by decide) ?_
            have hk9 : tx_k T L_ j = ka_ T L_ (j + 1) := rfl
            rw [hk9] at hl
            have hxl2 : (xs ++ [x9]).length = xs.length + 1 := by rw [List.length_append]; rfl
            refine W.widen (k := cells + (4 + gcel xs.length cap)) (n := slots + (9 + ((oT - oF) + (4 * ((oT - oF) / 20) + 2)) + gslo xs.length cap)) (by omega) (by omega) ?_
            exact ih (j + 1) (tx_el2 T n nx + 1) (f - 1) y x (ka_ T L_ j) y x (ncap xs.length cap) (xs ++ [x9]) (Es ++ [(ka_ T L_ j, nI xs.length, 0, w2, X2)]) nx _ _ _ _ H locs ls hd2 (by omega) (by omega) (by omega) (op_next (op_acc (n := n) (nx := nx) (bs := bs_) hac eX) c_3 hg hnx9 rfl ey ex_) (nmR_a hnm hesl) (by omega) (by omega) (by rw [hxl2]; omega) (by rw [hxl2]; omega) h_rd h_tp h_by h_els h_es hfr hP hD hS (lv_sub hl (l' := [(5, .int (nI (j + 1))), (2, .int (ka_ T L_ (j + 1))), (3, .int (nI y)), (4, .int (nI x)), (0, .ref rd), (1, .ref els)]) [0, 3, 2, 1, 4, 5] rfl) kk
