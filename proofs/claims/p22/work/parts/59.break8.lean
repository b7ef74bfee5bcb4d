theorem dd_eq {A B : Nat} (h : A = B) : B = A := h.symm
abbrev cX0_rowsOfPage : ByteArray := prog_2_method_7_code
def yX0_rowsOfPage : MethodName := ⟨RX0, "rowsOfPage", "()I"⟩
theorem dX0_rowsOfPage_24 : decode cX0_rowsOfPage 24 = .ok (.iload_n 1, 1) := by decide +kernel
theorem dX0_rowsOfPage_25 : decode cX0_rowsOfPage 25 = .ok (.aload_n 0, 1) := by decide +kernel
theorem dX0_rowsOfPage_26 : decode cX0_rowsOfPage 26 = .ok (.getfield 74, 3) := by decide +kernel
theorem dX0_rowsOfPage_29 : decode cX0_rowsOfPage 29 = .ok (.if_icmp .ge 16, 3) := by decide +kernel
theorem dX0_rowsOfPage_32 : decode cX0_rowsOfPage 32 = .ok (.aload_n 0, 1) := by decide +kernel
theorem dX0_rowsOfPage_33 : decode cX0_rowsOfPage 33 = .ok (.getfield 25, 3) := by decide +kernel
theorem dX0_rowsOfPage_36 : decode cX0_rowsOfPage 36 = .ok (.invokevirtual 89, 3) := by decide +kernel
theorem dX0_rowsOfPage_39 : decode cX0_rowsOfPage 39 = .ok (.iinc 1 1, 3) := by decide +kernel
theorem dX0_rowsOfPage_42 : decode cX0_rowsOfPage 42 = .ok (.goto (-18), 3) := by decide +kernel
theorem dX0_rowsOfPage_0 : decode cX0_rowsOfPage 0 = .ok (.aload_n 0, 1) := by decide +kernel
theorem dX0_rowsOfPage_1 : decode cX0_rowsOfPage 1 = .ok (.getfield 25, 3) := by decide +kernel
theorem dX0_rowsOfPage_4 : decode cX0_rowsOfPage 4 = .ok (.aload_n 0, 1) := by decide +kernel
theorem dX0_rowsOfPage_5 : decode cX0_rowsOfPage 5 = .ok (.invokevirtual 77, 3) := by decide +kernel
theorem dX0_rowsOfPage_8 : decode cX0_rowsOfPage 8 = .ok (.aload_n 0, 1) := by decide +kernel
theorem dX0_rowsOfPage_9 : decode cX0_rowsOfPage 9 = .ok (.invokevirtual 81, 3) := by decide +kernel
theorem dX0_rowsOfPage_12 : decode cX0_rowsOfPage 12 = .ok (.aload_n 0, 1) := by decide +kernel
theorem dX0_rowsOfPage_13 : decode cX0_rowsOfPage 13 = .ok (.getfield 43, 3) := by decide +kernel
theorem dX0_rowsOfPage_16 : decode cX0_rowsOfPage 16 = .ok (.invokevirtual 84, 3) := by decide +kernel
theorem dX0_rowsOfPage_19 : decode cX0_rowsOfPage 19 = .ok (.aload_n 0, 1) := by decide +kernel
theorem dX0_rowsOfPage_20 : decode cX0_rowsOfPage 20 = .ok (.getfield 67, 3) := by decide +kernel
theorem dX0_rowsOfPage_23 : decode cX0_rowsOfPage 23 = .ok (.istore_n 1, 1) := by decide +kernel
theorem dX0_rowsOfPage_45 : decode cX0_rowsOfPage 45 = .ok (.aload_n 0, 1) := by decide +kernel
theorem dX0_rowsOfPage_46 : decode cX0_rowsOfPage 46 = .ok (.getfield 25, 3) := by decide +kernel
theorem dX0_rowsOfPage_49 : decode cX0_rowsOfPage 49 = .ok (.invokevirtual 92, 3) := by decide +kernel
theorem dX0_rowsOfPage_52 : decode cX0_rowsOfPage 52 = .ok (.ireturn, 1) := by decide +kernel
set_option maxHeartbeats 1000000 in
set_option maxRecDepth 100000 in
theorem rp_loop {p : Program} {l : Launch} {e : Env} {R : Room} {s : State} {m : MethodId} {args : Array Value} {below : List Frame} {meth : Method} {c : Code} {Q : State → Prop} {D : va_G} {A : Nat → Prop} {z : Nat → Nat} {cB cI_ cO : ClassId} {L0 : List Nat} {g0 : hG} {pr pcs spr nwh cp : Nat} {pa : List Nat} {ea : Nat → Nat} {P : List Q4} {ne : Nat} {EE : Nat → E5} {bk lf bop cf nx : Nat} {y7 y8 : Int32} {v9 ve p0 b0 : Nat} (hpa60 : pa.length ≤ 60) (hpa : pa.length ≤ 20000) (hQ : pq_ok ne EE P) (hU : pu_ok EE P) (hSb : ∀ i, i ≤ pa.length → qS P i ≤ 8000) (hSn : qS P pa.length ≤ 8000) (hve : ve ≤ qS P pa.length) (hRf : 8 ≤ R.frames) (hRl : 220 ≤ R.locals) (hA : ∀ q : Nat, s.heap.size ≤ q → A q) (hf : CallFix p m c cX0_rowsOfPage 2 s args gT yX0_rowsOfPage.cls) (hK : va_K D vcl (dT cB cI_ cO) s) (hZ : zA z A s s.heap) (hN : zB z s) :
    ∀ (k : Nat) (pq : Nat) (i : Nat) (lw : Nat) (lp : Nat) (lr : Nat) (v : Nat) (cells slots : Nat) (L : List Nat) (g : hG) (H : Heap) (locs : List Loc) (ls : Array Slot), v + k = ve → qS P pq + i + k ≤ qS P pa.length → lw + 2 * k ≤ 18000 → pq ≤ pa.length → lp < pa.length → lr ≤ 200 → (pq < pa.length → i < (P.getD pq d4).2.2.1 - (P.getD pq d4).2.1) → (pq = pa.length → i = 0) → ((lp = pq ∧ lr = (P.getD pq d4).2.1 + i ∧ (pq = p0 ∨ 0 < i)) ∨ (lp + 1 = pq ∧ lr = (P.getD lp d4).2.2.1 ∧ i = 0 ∧ p0 < pq)) → p0 ≤ pq → cells ≤ R.cells → slots ≤ R.slots → ho L g pr 13 (.inr (7, [.ref pcs, .ref spr, .ref nwh])) → alR cO (z 0) 14 15 L g pcs cp pa → pcR L g ea pa P → esR cB cI_ L g ea ne EE → ho L g bk 21 (.inr (1, [.ref pr, .ref lf, .ref bop, .int (nI (pa.length)), .int (nI ((qS P pa.length))), .ref cf, .ref nx, .int y7, .int y8, .int (nI v9), .int (nI ve)])) → ho L g lf 20 (.inr (4, [.ref pr, .int (nI (pa.length)), .int (nI p0), .int (nI b0), .int (nI lp), .int (nI lr), .int (nI lw)])) → fr [20] L0 g0 L g → va_P D vcl (dW L g) H → va_D A (dW L g) → va_S A s.heap H locs → lv_has ls 2 [(1, .int (nI v)), (0, .ref bk)] →
    (∀ (l2 : Nat) (t2 : Nat) (w2 : Nat)  (L : List Nat) (g : hG) (H : Heap) (locs : List Loc) (ls : Array Slot), (k = 0 → l2 = lp ∧ t2 = lr ∧ w2 = lw) → (∀ n, k = n + 1 → w2 + pb ((EE (P.getD l2 d4).1).1 = 4 ∧ 0 < t2 ∧ t2 < eRw (EE (P.getD l2 d4).1)) = bk_tt (qK EE P) (qF P) (qT P) (qR EE P) p0 pa.length n pq i lw) → l2 < pa.length → t2 ≤ 200 → w2 ≤ 18000 → ho L g pr 13 (.inr (7, [.ref pcs, .ref spr, .ref nwh])) → alR cO (z 0) 14 15 L g pcs cp pa → pcR L g ea pa P → esR cB cI_ L g ea ne EE → ho L g bk 21 (.inr (1, [.ref pr, .ref lf, .ref bop, .int (nI (pa.length)), .int (nI ((qS P pa.length))), .ref cf, .ref nx, .int y7, .int y8, .int (nI v9), .int (nI ve)])) → ho L g lf 20 (.inr (4, [.ref pr, .int (nI (pa.length)), .int (nI p0), .int (nI b0), .int (nI l2), .int (nI t2), .int (nI w2)])) → fr [20] L0 g0 L g → va_P D vcl (dW L g) H → va_D A (dW L g) → va_S A s.heap H locs → lv_has ls 2 [(0, .ref bk)] → W p l e R s m args below meth c H locs cells slots Q (F0 m 45 ls [])) →
    W p l e R s m args below meth c H locs cells slots Q (F0 m 24 ls []) := by
  obtain ⟨hx, hb, hml, hown, hts⟩ := id hf
  intro k
  induction k with
  | zero =>
    intro pq i lw lp lr v cells slots L g H locs ls hvk hk2 hlw hple hlp hlr hi hi0 hR hge hRc hRs h_pr h_pcs h_pc h_es h_bk h_lf hfr hP hD hS hl kk
    refine lv_iload_n hx hb dX0_rowsOfPage_24 rfl (lv_at hl 0 rfl) ?_
    refine lv_aload_n hx hb dX0_rowsOfPage_25 rfl (lv_at hl 1 rfl) ?_
    refine o_get (D := D) (ci := 1) (v := .int (nI ve)) (C := RX0) (T := TX0) (N := 11) hx hb hts inX0 hown hK hP h_bk rfl 10 (by decide) (hts _ k_358) (fun _ h9 => h9) rfl dX0_rowsOfPage_26 ?_
    refine lv_icmp_ge (tgt := 45) hx hb dX0_rowsOfPage_29 (by decide) (fun c_1 => ?_) (fun c_1 => ?_)
    · have c_1 := q_le (a := ve) (b := v) (by omega) (by omega) c_1
      exact kk lp lr lw _ _ H locs ls (fun _ => ⟨rfl, rfl, rfl⟩) (fun n9 h9 => absurd h9 (by omega)) hlp hlr (by omega) h_pr h_pcs h_pc h_es h_bk h_lf hfr hP hD hS (lv_sub hl (l' := [(0, .ref bk)]) [1] rfl)
    · have c_1 := q_nle (a := ve) (b := v) (by omega) (by omega) c_1
      exact False.elim (by omega)
  | succ k ih =>
    intro pq i lw lp lr v cells slots L g H locs ls hvk hk2 hlw hple hlp hlr hi hi0 hR hge hRc hRs h_pr h_pcs h_pc h_es h_bk h_lf hfr hP hD hS hl kk
    refine lv_iload_n hx hb dX0_rowsOfPage_24 rfl (lv_at hl 0 rfl) ?_
    refine lv_aload_n hx hb dX0_rowsOfPage_25 rfl (lv_at hl 1 rfl) ?_
    refine o_get (D := D) (ci := 1) (v := .int (nI ve)) (C := RX0) (T := TX0) (N := 11) hx hb hts inX0 hown hK hP h_bk rfl 10 (by decide) (hts _ k_358) (fun _ h9 => h9) rfl dX0_rowsOfPage_26 ?_
    refine lv_icmp_ge (tgt := 45) hx hb dX0_rowsOfPage_29 (by decide) (fun c_1 => ?_) (fun c_1 => ?_)
    · have c_1 := q_le (a := ve) (b := v) (by omega) (by omega) c_1
      exact False.elim (by omega)
    · have c_1 := q_nle (a := ve) (b := v) (by omega) (by omega) c_1
      have hpl_ := h_pc.1
      have hpn : pq < pa.length := by
        by_cases h9 : pq = pa.length
        · have h8 := hi0 h9; rw [h9, h8] at hk2; omega
        · omega
      have hup := hU pq (by omega)
      have hqp := hQ pq (by omega)
      have hrp := h_es.rb hqp.1
      have hi1 := hi hpn
      have hz1 : pq + 1 < pa.length → 0 < (P.getD (pq + 1) d4).2.2.1 - (P.getD (pq + 1) d4).2.1 := fun h9 => by have h8 := hQ (pq + 1) (by omega); omega
      obtain ⟨dd, edd⟩ : ∃ x : Nat, x = pb (p0 < pq ∧ i = 0 ∧ rp_he ((EE (P.getD pq d4).1).1) ((P.getD pq d4).2.1)) := ⟨_, rfl⟩
      have hdd : dd ≤ 1 := by rw [edd]; exact pb_le _
      refine lv_aload_n hx hb dX0_rowsOfPage_32 rfl (lv_at hl 1 rfl) ?_
      refine o_get (D := D) (ci := 1) (v := .ref lf) (C := RX0) (T := TX0) (N := 11) hx hb hts inX0 hown hK hP h_bk rfl 1 (by decide) (hts _ k_349) (fun _ h9 => h9) rfl dX0_rowsOfPage_33 ?_
      refine o_cv (k := cells) (n := slots) hK hP hD hS hA (o_rV (As := []) (rest := []) hf (lf_take _ _ _ _ _ _ _ _ pr pcs spr nwh cp pa ea P ne EE lf (pa.length) p0 b0 lp lr lw pq i h_lf h_pr h_pcs h_pc h_es hpa hQ (by omega) (by omega) hpn (hi hpn) hR _) k_808 k_805 k_806 k_807 k_94 (nA := 0) (by decide +kernel) ⟨Nat.le_trans (by decide) hRf, Nat.le_trans (by decide) hRl⟩ hK hP hD hS hA hZ hN h_lf rfl rfl rfl hl.1 rfl (Nat.le_of_ble_eq_true rfl) dX0_rowsOfPage_36 ⟨(show cells + 0 ≤ R.cells by omega), (show slots + 0 ≤ R.slots by omega)⟩) (Nat.le_refl _) (Nat.le_refl _) (fun L g H locs hw hP hD hS => ?_)
      obtain ⟨hf9, h_lf⟩ := hw
      have h_pr := h_pr.fr hf9 (by decide)
      have h_bk := h_bk.fr hf9 (by decide)
      have hfr := hfr.tr hf9
      have h_pcs := h_pcs.frd hf9 (by decide)
      have h_pc := h_pc.frd hf9 (by decide)
      have h_es := h_es.frd hf9 (by decide)
      rw [← edd] at h_lf
      refine lv_iinc (v := nI (v + 1)) (lv' := [(1, .int (nI (v + 1))), (0, .ref bk)]) hx hb dX0_rowsOfPage_39 hl (k := 0) rfl (nI_addE (a := v) (b := 1) (by omega)) (by decide) rfl (fun ls hl => ?_)
      refine lv_goto (tgt := 24) hx hb dX0_rowsOfPage_42 (by decide) ?_
      have hqs := qS_s P pq
      have etb2 := tb_w (kd := (EE (P.getD pq d4).1).1) (f := (P.getD pq d4).2.1) (t := (P.getD pq d4).2.2.1) (r := eRw (EE (P.getD pq d4).1)) (i := i) (p := pq) (en := pa.length) hup.1 hup.2
      by_cases hz : i + 1 = (P.getD pq d4).2.2.1 - (P.getD pq d4).2.1
      · refine ih (pq + 1) 0 (lw + dd + 1) pq ((P.getD pq d4).2.1 + i + 1) (v + 1) cells slots _ _ H locs ls (by omega) (by omega) (by omega) (by omega) (by omega) (by omega) (fun h9 => hz1 h9) (by omega) (Or.inr ⟨rfl, by omega, rfl, by omega⟩) (by omega) hRc hRs h_pr h_pcs h_pc h_es h_bk h_lf hfr hP hD hS (lv_sub hl (l' := [(1, .int (nI (v + 1))), (0, .ref bk)]) [0, 1] rfl) (fun l2 t2 w2 L g H locs ls a1 a2 => kk l2 t2 w2 L g H locs ls (fun h9 => absurd h9 (by omega)) (fun n9 h9 => ?_))
        cases n9 with
        | zero =>
          obtain ⟨rfl, rfl, rfl⟩ := a1 (by omega)
          show lw + dd + 1 + _ = lw + _ + 1 + _
          rw [edd, etb2]
        | succ n8 =>
          refine (a2 n8 (by omega)).trans ?_
          show _ = bk_tt _ _ _ _ _ _ n8 (if i + 1 = (P.getD pq d4).2.2.1 - (P.getD pq d4).2.1 then _ else _) (if i + 1 = (P.getD pq d4).2.2.1 - (P.getD pq d4).2.1 then _ else _) _
          rw [if_pos hz, if_pos hz, edd]
      · refine ih pq (i + 1) (lw + dd + 1) pq ((P.getD pq d4).2.1 + i + 1) (v + 1) cells slots _ _ H locs ls (by omega) (by omega) (by omega) (by omega) (by omega) (by omega) (fun _ => by omega) (by omega) (Or.inl ⟨rfl, by omega, Or.inr (by omega)⟩) (by omega) hRc hRs h_pr h_pcs h_pc h_es h_bk h_lf hfr hP hD hS (lv_sub hl (l' := [(1, .int (nI (v + 1))), (0, .ref bk)]) [0, 1] rfl) (fun l2 t2 w2 L g H locs ls a1 a2 => kk l2 t2 w2 L g H locs ls (fun h9 => absurd h9 (by omega)) (fun n9 h9 => ?_))
        cases n9 with
        | zero =>
          obtain ⟨rfl, rfl, rfl⟩ := a1 (by omega)
          show lw + dd + 1 + _ = lw + _ + 1 + _
          rw [edd, etb2]
        | succ n8 =>
          refine (a2 n8 (by omega)).trans ?_
          show _ = bk_tt _ _ _ _ _ _ n8 (if i + 1 = (P.getD pq d4).2.2.1 - (P.getD pq d4).2.1 then _ else _) (if i + 1 = (P.getD pq d4).2.2.1 - (P.getD pq d4).2.1 then _ else _) _
          rw [if_neg hz, if_neg hz, edd]
set_option maxHeartbeats 1000000 in
set_option maxRecDepth 100000 in
theorem bk_rows (l : Launch) (D : va_G) (z : Nat → Nat) (cB cI_ cO : ClassId) (L0 : List Nat) (g0 : hG) (pr pcs spr nwh cp : Nat) (pa : List Nat) (ea : Nat → Nat) (P : List Q4) (ne : Nat) (EE : Nat → E5) (bk lf bop cf nx : Nat) (y7 y8 : Int32) (fb : Nat → Int32) (p0 rr pe re : Nat) (x1 x2 x3 x4 x5 x6 : Int32) (h_pr : ho L0 g0 pr 13 (.inr (7, [.ref pcs, .ref spr, .ref nwh]))) (h_pcs : alR cO (z 0) 14 15 L0 g0 pcs cp pa) (h_pc : pcR L0 g0 ea pa P) (h_es : esR cB cI_ L0 g0 ea ne EE) (h_bk : ho L0 g0 bk 21 (.inr (1, [.ref pr, .ref lf, .ref bop, .int (nI (pa.length)), .int (nI ((qS P pa.length))), .ref cf, .ref nx, .int y7, .int y8, .int (nI ((qS P p0 + rr))), .int (nI ((qS P pe + re + 1)))]))) (h_bop : ho L0 g0 bop 22 (.inl (cI_, 61, .inl fb))) (h_lf : ho L0 g0 lf 20 (.inr (4, [.ref pr, .int x1, .int x2, .int x3, .int x4, .int x5, .int x6]))) (hpa60 : pa.length ≤ 60) (hpa : pa.length ≤ 20000) (hQ : pq_ok ne EE P) (hU : pu_ok EE P) (hFb : ∀ i, i ≤ pa.length → fb i = nI (qS P i)) (hSb : ∀ i, i ≤ pa.length → qS P i ≤ 8000) (hpn : p0 < pa.length) (hrr : rr < (P.getD p0 d4).2.2.1 - (P.getD p0 d4).2.1) (hpen : pe < pa.length) (hre : re < (P.getD pe d4).2.2.1 - (P.getD pe d4).2.1) (hlt : qS P p0 + rr ≤ qS P pe + re) : eI l D yX0_rowsOfPage cX0_rowsOfPage 2 (some .int) 8 220 0 0 [.ref bk] z cB cI_ cO L0 g0 (fun r L g => r = nI (bk_tt (qK EE P) (qF P) (qT P) (qR EE P) p0 pa.length (qS P pe + re - (qS P p0 + rr)) p0 rr (pb (rp_ra (qK EE P p0) (qF P p0) p0 rr 0))) ∧ ∃ (u1 u2 u3 u4 u5 u6 : Int32), fr [20] L0 g0 L g ∧ ho L g lf 20 (.inr (4, [.ref pr, .int u1, .int u2, .int u3, .int u4, .int u5, .int u6]))) := by
  refine o_si (by decide) (Nat.le_of_ble_eq_true rfl) ?_
  intro p e s m below meth c A ls hf hr hlocks hin hK hP hD hS hA hZ hN hl
  obtain ⟨hx, hb, hml, hown, hts⟩ := id hf
  have hl : lv_has ls 2 [(0, .ref bk)] := hl
  have hSp := hSb (p0 + 1) (by omega)
  have hSe := hSb (pe + 1) (by omega)
  have hqs := qS_s P p0
  have hqe := qS_s P pe
  have hpl_ := h_pc.1
  have hu0 := hU p0 (by omega)
  have hSin := qS_in P hpen
  have hq0 := hQ p0 (by omega)
  have hrb0 := h_es.rb hq0.1
  have hSn := hSb pa.length (Nat.le_refl _)
  have hfr : fr [20] L0 g0 L0 g0 := fr.rf
  refine lv_aload_n hx hb dX0_rowsOfPage_0 rfl (lv_at hl 0 rfl) ?_
  refine o_get (D := D) (ci := 1) (v := .ref lf) (C := RX0) (T := TX0) (N := 11) hx hb hts inX0 hown hK hP h_bk rfl 1 (by decide) (hts _ k_349) (fun _ h9 => h9) rfl dX0_rowsOfPage_1 ?_
  refine lv_aload_n hx hb dX0_rowsOfPage_4 rfl (lv_at hl 0 rfl) ?_
  refine o_cis (k := 0) (n := 0) hK hP hD hS hA (o_rV (As := []) (rest := [.ref lf]) hf (bk_fp _ _ _ _ _ _ _ _ pr pa P bk lf bop cf nx y7 y8 fb p0 rr pe re h_bk h_bop hpa60 hFb hSb (by omega) (by omega) (by omega) (by omega) _) k_886 k_883 k_884 k_885 k_95 (nA := 0) (by decide +kernel) ⟨Nat.le_of_ble_eq_true rfl, Nat.le_of_ble_eq_true rfl⟩ hK hP hD hS hA hZ hN h_bk rfl rfl rfl hl.1 rfl (Nat.le_of_ble_eq_true rfl) dX0_rowsOfPage_5 ⟨(show 0 + 0 ≤ 0 by omega), (show 0 + 0 ≤ 0 by omega)⟩) (Nat.le_refl _) (Nat.le_refl _) (fun r H locs hw hP hD hS => ?_)
  obtain rfl := hw
  refine lv_aload_n hx hb dX0_rowsOfPage_8 rfl (lv_at hl 0 rfl) ?_
  refine o_cis (k := 0) (n := 0) hK hP hD hS hA (o_rV (As := []) (rest := [.int (nI p0), .ref lf]) hf (bk_fr _ _ _ _ _ _ _ _ pr pa P bk lf bop cf nx y7 y8 fb p0 rr pe re h_bk h_bop hpa60 hFb hSb (by omega) (by omega) (by omega) (by omega) _) k_894 k_891 k_892 k_893 k_95 (nA := 0) (by decide +kernel) ⟨Nat.le_of_ble_eq_true rfl, Nat.le_of_ble_eq_true rfl⟩ hK hP hD hS hA hZ hN h_bk rfl rfl rfl hl.1 rfl (Nat.le_of_ble_eq_true rfl) dX0_rowsOfPage_9 ⟨(show 0 + 0 ≤ 0 by omega), (show 0 + 0 ≤ 0 by omega)⟩) (Nat.le_refl _) (Nat.le_refl _) (fun r H locs hw hP hD hS => ?_)
  obtain rfl := hw
  refine lv_aload_n hx hb dX0_rowsOfPage_12 rfl (lv_at hl 0 rfl) ?_
  refine o_get (D := D) (ci := 1) (v := .int (nI (pa.length))) (C := RX0) (T := TX0) (N := 11) hx hb hts inX0 hown hK hP h_bk rfl 3 (by decide) (hts _ k_351) (fun _ h9 => h9) rfl dX0_rowsOfPage_13 ?_
  refine o_cv (k := 0) (n := 0) hK hP hD hS hA (o_rV (As := [.int (nI p0), .int (nI rr), .int (nI (pa.length))]) (rest := []) hf (lf_open _ _ _ _ _ _ _ _ pr pcs spr nwh cp pa ea P ne EE lf x1 x2 x3 x4 x5 x6 p0 rr (pa.length) h_lf h_pr h_pcs h_pc h_es hpa hQ (by omega) (by omega) _) k_791 k_788 k_789 k_790 k_94 (nA := 3) (by decide +kernel) ⟨Nat.le_of_ble_eq_true rfl, Nat.le_of_ble_eq_true rfl⟩ hK hP hD hS hA hZ hN h_lf rfl rfl rfl hl.1 rfl (Nat.le_of_ble_eq_true rfl) dX0_rowsOfPage_16 ⟨(show 0 + 0 ≤ 0 by omega), (show 0 + 0 ≤ 0 by omega)⟩) (Nat.le_refl _) (Nat.le_refl _) (fun L g H locs hw hP hD hS => ?_)
  obtain ⟨hf9, h_lf⟩ := hw
  have h_pr := h_pr.fr hf9 (by decide)
  have h_bk := h_bk.fr hf9 (by decide)
  have h_bop := h_bop.fr hf9 (by decide)
  have hfr := hfr.tr hf9
  have h_pcs := h_pcs.frd hf9 (by decide)
  have h_pc := h_pc.frd hf9 (by decide)
  have h_es := h_es.frd hf9 (by decide)
  refine lv_aload_n hx hb dX0_rowsOfPage_19 rfl (lv_at hl 0 rfl) ?_
  refine o_get (D := D) (ci := 1) (v := .int (nI ((qS P p0 + rr)))) (C := RX0) (T := TX0) (N := 11) hx hb hts inX0 hown hK hP h_bk rfl 9 (by decide) (hts _ k_357) (fun _ h9 => h9) rfl dX0_rowsOfPage_20 ?_
  refine lv_istore_n (lv' := [(1, .int (nI ((qS P p0 + rr)))), (0, .ref bk)]) hx hb dX0_rowsOfPage_23 rfl hl (by decide) rfl (fun ls hl => ?_)
  obtain ⟨lw, elw⟩ : ∃ x : Nat, x = pb ((EE (P.getD p0 d4).1).1 = 4 ∧ 0 < rr ∧ rr < eRw (EE (P.getD p0 d4).1)) := ⟨_, rfl⟩
  rw [← elw] at h_lf
  have hlw1 : lw ≤ 1 := by rw [elw]; exact pb_le _
  have era := elw.trans (ra_w (p := p0) hu0.1 hu0.2 hrr)
  refine rp_loop (L0 := L0) (g0 := g0) hpa60 hpa hQ hU hSb hSn (ve := qS P pe + re + 1) (by omega) (Nat.le_of_ble_eq_true rfl) (Nat.le_of_ble_eq_true rfl) hA hf hK hZ hN (qS P pe + re + 1 - (qS P p0 + rr)) p0 rr lw p0 rr (qS P p0 + rr) 0 0 _ _ _ _ ls (by omega) (by omega) (by omega) (by omega) hpn (by omega) (fun _ => hrr) (fun h9 => absurd h9 (by omega)) (Or.inl ⟨rfl, by omega, Or.inl rfl⟩) (Nat.le_refl _) (Nat.zero_le _) (Nat.zero_le _) h_pr h_pcs h_pc h_es h_bk h_lf hfr hP hD hS (lv_sub hl (l' := [(1, .int (nI ((qS P p0 + rr)))), (0, .ref bk)]) [0, 1] rfl) (fun l2 t2 w2 L g H locs ls a1 a2 a3 a4 a5 h_pr h_pcs h_pc h_es h_bk h_lf hfr hP hD hS hl => ?_)
  obtain ⟨n9, en9⟩ : ∃ n : Nat, qS P pe + re + 1 - (qS P p0 + rr) = n + 1 := ⟨qS P pe + re - (qS P p0 + rr), by omega⟩
  have a2 := a2 n9 en9
  obtain ⟨tb, etb⟩ : ∃ x : Nat, x = pb ((EE (P.getD l2 d4).1).1 = 4 ∧ 0 < t2 ∧ t2 < eRw (EE (P.getD l2 d4).1)) := ⟨_, rfl⟩
  refine lv_aload_n hx hb dX0_rowsOfPage_45 rfl (lv_at hl 0 rfl) ?_
  refine o_get (D := D) (ci := 1) (v := .ref lf) (C := RX0) (T := TX0) (N := 11) hx hb hts inX0 hown hK hP h_bk rfl 1 (by decide) (hts _ k_349) (fun _ h9 => h9) rfl dX0_rowsOfPage_46 ?_
  refine o_cis (k := 0) (n := 0) hK hP hD hS hA (o_rV (As := []) (rest := []) hf (lf_more _ _ _ _ _ _ _ _ pr pcs spr nwh cp pa ea P ne EE lf (pa.length) p0 rr l2 t2 w2 h_lf h_pr h_pcs h_pc h_es hpa hQ (by omega) (by omega) (by omega) (by omega) _) k_821 k_818 k_819 k_820 k_94 (nA := 0) (by decide +kernel) ⟨Nat.le_of_ble_eq_true rfl, Nat.le_of_ble_eq_true rfl⟩ hK hP hD hS hA hZ hN h_lf rfl rfl rfl hl.1 rfl (Nat.le_of_ble_eq_true rfl) dX0_rowsOfPage_49 ⟨(show 0 + 0 ≤ 0 by omega), (show 0 + 0 ≤ 0 by omega)⟩) (Nat.le_refl _) (Nat.le_refl _) (fun r H locs hw hP hD hS => ?_)
  obtain ⟨w9, ew9, rfl⟩ := hw
  obtain rfl : tb = w9 := etb.trans ew9.symm
  rw [← etb] at a2
  exact o_ri hf hr rfl hlocks hK hP hD hS (show 0 ≤ 0 by omega) (show 0 ≤ 0 by omega) ⟨congrArg nI (a2.trans (by rw [era, show n9 = qS P pe + re - (qS P p0 + rr) by omega])), _, _, _, _, _, _, hfr, h_lf⟩ dX0_rowsOfPage_52
