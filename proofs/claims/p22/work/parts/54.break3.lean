theorem pb_iff {A B : Prop} (h : A ↔ B) : pb A = pb B := by
  by_cases a : A
  · rw [pb_1 a, pb_1 (h.mp a)]
  · rw [pb_0 a, pb_0 (fun z => a (h.mpr z))]
theorem tb_w {kd : Int32} {f t r i p en : Nat} (hf : f = 0) (ht : t = r) : pb (kd = 4 ∧ 0 < f + i + 1 ∧ f + i + 1 < r) = pb (rp_rb kd f t r p (i + 1) en) := by
  refine pb_iff ⟨fun h => ⟨h.1, Or.inl (by omega)⟩, fun h => ⟨h.1, by omega, ?_⟩⟩
  rcases h.2 with h2 | h2
  · omega
  · omega
theorem kc_w {kd : Int32} {f t r i : Nat} (hf : f = 0) (ht : t = r) (hi : i < t - f) : pif (f + i + 1 < r) (pif (kd = 4) 30 10) 0 = if i + 1 = t - f then 0 else pif (kd = 4) 30 10 := by
  by_cases h : i + 1 = t - f
  · rw [if_pos h, pif_n (by omega)]
  · rw [if_neg h, pif_p (by omega)]
theorem ra_w {kd : Int32} {f t r p i : Nat} (hf : f = 0) (ht : t = r) (hi : i < t - f) : pb (kd = 4 ∧ 0 < i ∧ i < r) = pb (rp_ra kd f p i 0) := by
  refine pb_iff ⟨fun h => ⟨h.1, Or.inl h.2.1⟩, fun h => ⟨h.1, ?_, by omega⟩⟩
  rcases h.2 with h2 | h2
  · exact h2
  · omega
theorem wg_stop {C : Nat → Option Q4} {K : Nat → Int32} {Fm To Rr : Nat → Nat} {p0 r0 en mo f p i rows dd tb : Nat} {b : Option Q4} (h1 : p < en) (edd : dd = pb (p0 < p ∧ i = 0 ∧ rp_he (K p) (Fm p))) (etb : tb = pb (rp_rb (K p) (Fm p) (To p) (Rr p) p (i + 1) en)) (h : ¬ rows + dd + 1 + tb ≤ mo) (htb : tb ≤ 1) : bk_lay C K Fm To Rr p0 r0 en mo (f + 1) p i rows b = b := by
  by_cases h2 : rows + dd + 1 ≤ mo
  · rw [← bk_in (mb := pb (rp_me (K p) (To p - Fm p) p0 r0 p (i + 1) en)) (b2 := b) h1 h2 edd etb (fun _ => rfl) rfl rfl (if_neg (fun z => h z.1)).symm]
    exact bk_stop (fun z => by omega)
  · rw [← bk_out (f2 := f) (p2 := p) (i2 := i) edd h2]
    exact bk_stop (fun z => by omega)
theorem cf_tab_k {P : List Q4} {pn pl : Nat} {C : Nat → Option Q4} {fc fn fc2 fn2 : Nat → Int32} (h : cf_tab P pn C (pl + 1) fc fn) (hk : ∀ j, ¬ j = pl → fc2 j = fc j ∧ fn2 j = fn j) (hpl : pl < qS P pn) : cf_tab P pn C (pl + 1) fc2 fn2 := by
  refine ⟨fun j h1 h2 => ?_, (hk _ (by omega)).1.trans h.2.1, (hk _ (by omega)).2.trans h.2.2⟩
  rw [(hk j (by omega)).1, (hk j (by omega)).2]
  exact h.1 j h1 h2
theorem cf_tab_s {P : List Q4} {pn pl : Nat} {C : Nat → Option Q4} {fc fn fc2 fn2 : Nat → Int32} {b : Option Q4} (h : cf_tab P pn C (pl + 1) fc fn) (hk : ∀ j, ¬ j = pl → fc2 j = fc j ∧ fn2 j = fn j) (hpl : pl < qS P pn) (h3 : cf_is P b (fc2 pl) (fn2 pl)) (h4 : bk_ok (qF P) (qT P) pn pl b) : cf_tab P pn (va_up C pl b) pl fc2 fn2 := by
  have h5 := cf_tab_k h hk hpl
  refine ⟨fun j h1 h2 => ?_, h5.2⟩
  by_cases e : j = pl
  · rw [e, va_up_self]; exact ⟨h3, h4⟩
  · rw [va_up_ne _ _ e]; exact h5.1 j (by omega) h2
abbrev cX0_weigh : ByteArray := prog_2_method_16_code
def yX0_weigh : MethodName := ⟨RX0, "weigh", "(III)V"⟩
theorem k_28 : (Cond.selects RX0 yX0_weighEnd yX0_weighEnd) ∈ gT := gT_i 28 (by decide +kernel) rfl
theorem k_788 : (Cond.methodLink RX0 84 yX3_open) ∈ gT := gT_i 788 (by decide +kernel) rfl
theorem k_789 : (Cond.instanceMethod yX3_open) ∈ gT := gT_i 789 (by decide +kernel) rfl
theorem k_790 : (Cond.selects RX3 yX3_open yX3_open) ∈ gT := gT_i 790 (by decide +kernel) rfl
theorem k_791 : (Cond.code yX3_open cX3_open 4 none) ∈ gT := gT_i 791 (by decide +kernel) rfl
theorem k_801 : (Cond.methodLink RX0 126 yX3_isBehindAll) ∈ gT := gT_i 801 (by decide +kernel) rfl
theorem k_805 : (Cond.methodLink RX0 89 yX3_takeRow) ∈ gT := gT_i 805 (by decide +kernel) rfl
theorem k_806 : (Cond.instanceMethod yX3_takeRow) ∈ gT := gT_i 806 (by decide +kernel) rfl
theorem k_807 : (Cond.selects RX3 yX3_takeRow yX3_takeRow) ∈ gT := gT_i 807 (by decide +kernel) rfl
theorem k_808 : (Cond.code yX3_takeRow cX3_takeRow 2 none) ∈ gT := gT_i 808 (by decide +kernel) rfl
theorem k_822 : (Cond.methodLink RX0 130 yX3_mayEnd) ∈ gT := gT_i 822 (by decide +kernel) rfl
theorem k_823 : (Cond.instanceMethod yX3_mayEnd) ∈ gT := gT_i 823 (by decide +kernel) rfl
theorem k_824 : (Cond.selects RX3 yX3_mayEnd yX3_mayEnd) ∈ gT := gT_i 824 (by decide +kernel) rfl
theorem k_825 : (Cond.code yX3_mayEnd cX3_mayEnd 3 (some .boolean)) ∈ gT := gT_i 825 (by decide +kernel) rfl
theorem k_834 : (Cond.methodLink RX0 133 yX0_weighEnd) ∈ gT := gT_i 834 (by decide +kernel) rfl
theorem k_836 : (Cond.instanceMethod yX0_weighEnd) ∈ gT := gT_i 836 (by decide +kernel) rfl
theorem k_837 : (Cond.code yX0_weighEnd cX0_weighEnd 6 none) ∈ gT := gT_i 837 (by decide +kernel) rfl
theorem dX0_weigh_56 : decode cX0_weigh 56 = .ok (.iload 5, 2) := by decide +kernel
theorem dX0_weigh_58 : decode cX0_weigh 58 = .ok (.iload_n 3, 1) := by decide +kernel
theorem dX0_weigh_59 : decode cX0_weigh 59 = .ok (.if_icmp .ge 55, 3) := by decide +kernel
theorem dX0_weigh_62 : decode cX0_weigh 62 = .ok (.aload_n 0, 1) := by decide +kernel
theorem dX0_weigh_63 : decode cX0_weigh 63 = .ok (.getfield 25, 3) := by decide +kernel
theorem dX0_weigh_66 : decode cX0_weigh 66 = .ok (.invokevirtual 126, 3) := by decide +kernel
theorem dX0_weigh_69 : decode cX0_weigh 69 = .ok (.ifCond .ne 45, 3) := by decide +kernel
theorem dX0_weigh_72 : decode cX0_weigh 72 = .ok (.aload_n 0, 1) := by decide +kernel
theorem dX0_weigh_73 : decode cX0_weigh 73 = .ok (.getfield 25, 3) := by decide +kernel
theorem dX0_weigh_76 : decode cX0_weigh 76 = .ok (.invokevirtual 89, 3) := by decide +kernel
theorem dX0_weigh_79 : decode cX0_weigh 79 = .ok (.aload_n 0, 1) := by decide +kernel
theorem dX0_weigh_80 : decode cX0_weigh 80 = .ok (.getfield 25, 3) := by decide +kernel
theorem dX0_weigh_83 : decode cX0_weigh 83 = .ok (.invokevirtual 92, 3) := by decide +kernel
theorem dX0_weigh_86 : decode cX0_weigh 86 = .ok (.iload_n 3, 1) := by decide +kernel
theorem dX0_weigh_87 : decode cX0_weigh 87 = .ok (.if_icmp .le 4, 3) := by decide +kernel
theorem dX0_weigh_91 : decode cX0_weigh 91 = .ok (.aload_n 0, 1) := by decide +kernel
theorem dX0_weigh_92 : decode cX0_weigh 92 = .ok (.getfield 25, 3) := by decide +kernel
theorem dX0_weigh_95 : decode cX0_weigh 95 = .ok (.invokevirtual 130, 3) := by decide +kernel
theorem dX0_weigh_98 : decode cX0_weigh 98 = .ok (.ifCond .eq 10, 3) := by decide +kernel
theorem dX0_weigh_101 : decode cX0_weigh 101 = .ok (.aload_n 0, 1) := by decide +kernel
theorem dX0_weigh_102 : decode cX0_weigh 102 = .ok (.iload 4, 2) := by decide +kernel
theorem dX0_weigh_104 : decode cX0_weigh 104 = .ok (.iload_n 3, 1) := by decide +kernel
theorem dX0_weigh_105 : decode cX0_weigh 105 = .ok (.invokevirtual 133, 3) := by decide +kernel
theorem dX0_weigh_108 : decode cX0_weigh 108 = .ok (.iinc 5 1, 3) := by decide +kernel
theorem dX0_weigh_111 : decode cX0_weigh 111 = .ok (.goto (-55), 3) := by decide +kernel
theorem dX0_weigh_0 : decode cX0_weigh 0 = .ok (.aload_n 0, 1) := by decide +kernel
theorem dX0_weigh_1 : decode cX0_weigh 1 = .ok (.iload_n 1, 1) := by decide +kernel
theorem dX0_weigh_2 : decode cX0_weigh 2 = .ok (.invokevirtual 98, 3) := by decide +kernel
theorem dX0_weigh_5 : decode cX0_weigh 5 = .ok (.iload_n 2, 1) := by decide +kernel
theorem dX0_weigh_6 : decode cX0_weigh 6 = .ok (.iadd, 1) := by decide +kernel
theorem dX0_weigh_7 : decode cX0_weigh 7 = .ok (.istore 4, 2) := by decide +kernel
theorem dX0_weigh_9 : decode cX0_weigh 9 = .ok (.iload 4, 2) := by decide +kernel
theorem dX0_weigh_11 : decode cX0_weigh 11 = .ok (.ifCond .lt 12, 3) := by decide +kernel
theorem dX0_weigh_14 : decode cX0_weigh 14 = .ok (.iload 4, 2) := by decide +kernel
theorem dX0_weigh_16 : decode cX0_weigh 16 = .ok (.aload_n 0, 1) := by decide +kernel
theorem dX0_weigh_17 : decode cX0_weigh 17 = .ok (.getfield 39, 3) := by decide +kernel
theorem dX0_weigh_20 : decode cX0_weigh 20 = .ok (.if_icmp .lt 4, 3) := by decide +kernel
theorem dX0_weigh_24 : decode cX0_weigh 24 = .ok (.aload_n 0, 1) := by decide +kernel
theorem dX0_weigh_25 : decode cX0_weigh 25 = .ok (.getfield 15, 3) := by decide +kernel
theorem dX0_weigh_28 : decode cX0_weigh 28 = .ok (.iload 4, 2) := by decide +kernel
theorem dX0_weigh_30 : decode cX0_weigh 30 = .ok (.iconst (-1), 1) := by decide +kernel
theorem dX0_weigh_31 : decode cX0_weigh 31 = .ok (.iastore, 1) := by decide +kernel
theorem dX0_weigh_32 : decode cX0_weigh 32 = .ok (.aload_n 0, 1) := by decide +kernel
theorem dX0_weigh_33 : decode cX0_weigh 33 = .ok (.getfield 18, 3) := by decide +kernel
theorem dX0_weigh_36 : decode cX0_weigh 36 = .ok (.iload 4, 2) := by decide +kernel
theorem dX0_weigh_38 : decode cX0_weigh 38 = .ok (.iconst (-1), 1) := by decide +kernel
theorem dX0_weigh_39 : decode cX0_weigh 39 = .ok (.iastore, 1) := by decide +kernel
theorem dX0_weigh_40 : decode cX0_weigh 40 = .ok (.aload_n 0, 1) := by decide +kernel
theorem dX0_weigh_41 : decode cX0_weigh 41 = .ok (.getfield 25, 3) := by decide +kernel
theorem dX0_weigh_44 : decode cX0_weigh 44 = .ok (.iload_n 1, 1) := by decide +kernel
theorem dX0_weigh_45 : decode cX0_weigh 45 = .ok (.iload_n 2, 1) := by decide +kernel
theorem dX0_weigh_46 : decode cX0_weigh 46 = .ok (.aload_n 0, 1) := by decide +kernel
theorem dX0_weigh_47 : decode cX0_weigh 47 = .ok (.getfield 43, 3) := by decide +kernel
theorem dX0_weigh_50 : decode cX0_weigh 50 = .ok (.invokevirtual 84, 3) := by decide +kernel
theorem dX0_weigh_53 : decode cX0_weigh 53 = .ok (.iconst 0, 1) := by decide +kernel
theorem dX0_weigh_54 : decode cX0_weigh 54 = .ok (.istore 5, 2) := by decide +kernel
theorem dX0_weigh_90 : decode cX0_weigh 90 = .ok (.return_, 1) := by decide +kernel
theorem dX0_weigh_114 : decode cX0_weigh 114 = .ok (.return_, 1) := by decide +kernel
set_option maxHeartbeats 1000000 in
set_option maxRecDepth 100000 in
theorem wg_loop {p : Program} {l : Launch} {e : Env} {R : Room} {s : State} {m : MethodId} {args : Array Value} {below : List Frame} {meth : Method} {c : Code} {Q : State → Prop} {D : va_G} {A : Nat → Prop} {z : Nat → Nat} {cB cI_ cO : ClassId} {L0 : List Nat} {g0 : hG} {pr pcs spr nwh cp : Nat} {pa : List Nat} {ea : Nat → Nat} {P : List Q4} {ne : Nat} {EE : Nat → E5} {bk lf bop cf nx : Nat} {y7 y8 y9 y10 : Int32} {fb : Nat → Int32} {M mo p0 r0 pl : Nat} {C : Nat → Option Q4} {fcz fnz : Nat → Int32} (hpa60 : pa.length ≤ 60) (hpa : pa.length ≤ 20000) (hQ : pq_ok ne EE P) (hU : pu_ok EE P) (hSb : ∀ i, i ≤ pa.length → qS P i ≤ 8000) (hFb : ∀ i, i ≤ pa.length → fb i = nI (qS P i)) (hMs : qS P pa.length < M) (hM : M ≤ 60000) (hmo : mo ≤ 40) (hp0 : p0 < pa.length) (epl : pl = qS P p0 + r0) (hr0 : r0 < (P.getD p0 d4).2.2.1 - (P.getD p0 d4).2.1) (hplS : pl < qS P pa.length) (hC : cf_tab P pa.length C (pl + 1) fcz fnz) (hRf : 8 ≤ R.frames) (hRl : 220 ≤ R.locals) (hA : ∀ q : Nat, s.heap.size ≤ q → A q) (hf : CallFix p m c cX0_weigh 6 s args gT yX0_weigh.cls) (hK : va_K D vcl (dT cB cI_ cO) s) (hZ : zA z A s s.heap) (hN : zB z s) :
    ∀ (k : Nat) (pq : Nat) (i : Nat) (lw : Nat) (lp : Nat) (lr : Nat) (j : Nat) (b : Option Q4) (fc : Nat → Int32) (fn : Nat → Int32) (cells slots : Nat) (L : List Nat) (g : hG) (H : Heap) (locs : List Loc) (ls : Array Slot), mo + 1 ≤ k + lw → lw ≤ mo → j ≤ lw → pq ≤ pa.length → lp < pa.length → lr ≤ 200 → (pq < pa.length → i < (P.getD pq d4).2.2.1 - (P.getD pq d4).2.1) → ((lp = pq ∧ lr = (P.getD pq d4).2.1 + i ∧ (pq = p0 ∨ 0 < i)) ∨ (lp + 1 = pq ∧ lr = (P.getD lp d4).2.2.1 ∧ i = 0 ∧ p0 < pq)) → (p0 < pq ∨ (p0 = pq ∧ r0 ≤ i)) → (∀ j, ¬ j = pl → fc j = fcz j ∧ fn j = fnz j) → cf_is P b (fc pl) (fn pl) → bk_ok (qF P) (qT P) pa.length pl b → cells ≤ R.cells → slots ≤ R.slots → ho L g pr 13 (.inr (7, [.ref pcs, .ref spr, .ref nwh])) → alR cO (z 0) 14 15 L g pcs cp pa → pcR L g ea pa P → esR cB cI_ L g ea ne EE → ho L g bk 21 (.inr (1, [.ref pr, .ref lf, .ref bop, .int (nI (pa.length)), .int (nI ((qS P pa.length))), .ref cf, .ref nx, .int y7, .int y8, .int y9, .int y10])) → ho L g bop 22 (.inl (cI_, 61, .inl fb)) → ho L g cf 23 (.inl (cI_, M, .inl fc)) → ho L g nx 24 (.inl (cI_, M, .inl fn)) → ho L g lf 20 (.inr (4, [.ref pr, .int (nI (pa.length)), .int (nI p0), .int (nI r0), .int (nI lp), .int (nI lr), .int (nI lw)])) → fr [20, 23, 24] L0 g0 L g → va_P D vcl (dW L g) H → va_D A (dW L g) → va_S A s.heap H locs → lv_has ls 6 [(5, .int (nI j)), (0, .ref bk), (1, .int (nI p0)), (2, .int (nI r0)), (3, .int (nI mo)), (4, .int (nI pl))] →
    (∀ (b2 : Option Q4) (fc2 : Nat → Int32) (fn2 : Nat → Int32) (x1 : Int32) (x2 : Int32) (x3 : Int32) (x4 : Int32) (x5 : Int32) (x6 : Int32)  (L : List Nat) (g : hG) (H : Heap) (locs : List Loc) (ls : Array Slot), b2 = bk_lay C (qK EE P) (qF P) (qT P) (qR EE P) p0 r0 pa.length mo k pq i lw b → (∀ j, ¬ j = pl → fc2 j = fcz j ∧ fn2 j = fnz j) → cf_is P b2 (fc2 pl) (fn2 pl) → bk_ok (qF P) (qT P) pa.length pl b2 → ho L g pr 13 (.inr (7, [.ref pcs, .ref spr, .ref nwh])) → alR cO (z 0) 14 15 L g pcs cp pa → pcR L g ea pa P → esR cB cI_ L g ea ne EE → ho L g bk 21 (.inr (1, [.ref pr, .ref lf, .ref bop, .int (nI (pa.length)), .int (nI ((qS P pa.length))), .ref cf, .ref nx, .int y7, .int y8, .int y9, .int y10])) → ho L g bop 22 (.inl (cI_, 61, .inl fb)) → ho L g cf 23 (.inl (cI_, M, .inl fc2)) → ho L g nx 24 (.inl (cI_, M, .inl fn2)) → ho L g lf 20 (.inr (4, [.ref pr, .int x1, .int x2, .int x3, .int x4, .int x5, .int x6])) → fr [20, 23, 24] L0 g0 L g → va_P D vcl (dW L g) H → va_D A (dW L g) → va_S A s.heap H locs → lv_has ls 6 [(0, .ref bk)] → W p l e R s m args below meth c H locs cells slots Q (F0 m 90 ls [])) →
    (∀ (b2 : Option Q4) (fc2 : Nat → Int32) (fn2 : Nat → Int32) (x1 : Int32) (x2 : Int32) (x3 : Int32) (x4 : Int32) (x5 : Int32) (x6 : Int32)  (L : List Nat) (g : hG) (H : Heap) (locs : List Loc) (ls : Array Slot), b2 = bk_lay C (qK EE P) (qF P) (qT P) (qR EE P) p0 r0 pa.length mo k pq i lw b → (∀ j, ¬ j = pl → fc2 j = fcz j ∧ fn2 j = fnz j) → cf_is P b2 (fc2 pl) (fn2 pl) → bk_ok (qF P) (qT P) pa.length pl b2 → ho L g pr 13 (.inr (7, [.ref pcs, .ref spr, .ref nwh])) → alR cO (z 0) 14 15 L g pcs cp pa → pcR L g ea pa P → esR cB cI_ L g ea ne EE → ho L g bk 21 (.inr (1, [.ref pr, .ref lf, .ref bop, .int (nI (pa.length)), .int (nI ((qS P pa.length))), .ref cf, .ref nx, .int y7, .int y8, .int y9, .int y10])) → ho L g bop 22 (.inl (cI_, 61, .inl fb)) → ho L g cf 23 (.inl (cI_, M, .inl fc2)) → ho L g nx 24 (.inl (cI_, M, .inl fn2)) → ho L g lf 20 (.inr (4, [.ref pr, .int x1, .int x2, .int x3, .int x4, .int x5, .int x6])) → fr [20, 23, 24] L0 g0 L g → va_P D vcl (dW L g) H → va_D A (dW L g) → va_S A s.heap H locs → lv_has ls 6 [(0, .ref bk)] → W p l e R s m args below meth c H locs cells slots Q (F0 m 114 ls [])) →
    W p l e R s m args below meth c H locs cells slots Q (F0 m 56 ls []) := by
  obtain ⟨hx, hb, hml, hown, hts⟩ := id hf
  intro k
  induction k with
  | zero =>
    intro pq i lw lp lr j b fc fn cells slots L g H locs ls hfu hlwm hj hple hlp hlr hi hR hge hkp hbi hbo hRc hRs h_pr h_pcs h_pc h_es h_bk h_bop h_cf h_nx h_lf hfr hP hD hS hl kk1 kk0
    refine lv_iload hx hb dX0_weigh_56 (lv_at hl 0 rfl) ?_
    exact False.elim (by omega)
  | succ k ih =>
    intro pq i lw lp lr j b fc fn cells slots L g H locs ls hfu hlwm hj hple hlp hlr hi hR hge hkp hbi hbo hRc hRs h_pr h_pcs h_pc h_es h_bk h_bop h_cf h_nx h_lf hfr hP hD hS hl kk1 kk0
    refine lv_iload hx hb dX0_weigh_56 (lv_at hl 0 rfl) ?_
    refine lv_iload_n hx hb dX0_weigh_58 rfl (lv_at hl 4 rfl) ?_
    refine lv_icmp_ge (tgt := 114) hx hb dX0_weigh_59 (by decide) (fun c_1 => ?_) (fun c_1 => ?_)
    · have c_1 := q_le (a := mo) (b := j) (by omega) (by omega) c_1
      exact kk0 b fc fn (nI (pa.length)) (nI p0) (nI r0) (nI lp) (nI lr) (nI lw) _ _ H locs ls (bk_stop (fun z9 => by omega)).symm hkp hbi hbo h_pr h_pcs h_pc h_es h_bk h_bop h_cf h_nx h_lf hfr hP hD hS (lv_sub hl (l' := [(0, .ref bk)]) [1] rfl)
    · have c_1 := q_nle (a := mo) (b := j) (by omega) (by omega) c_1
      refine lv_aload_n hx hb dX0_weigh_62 rfl (lv_at hl 1 rfl) ?_
      refine o_get (D := D) (ci := 1) (v := .ref lf) (C := RX0) (T := TX0) (N := 11) hx hb hts inX0 hown hK hP h_bk rfl 1 (by decide) (hts _ k_349) (fun _ h9 => h9) rfl dX0_weigh_63 ?_
      refine o_cis (k := cells) (n := slots) hK hP hD hS hA (o_rV (As := []) (rest := []) hf (lf_beh _ _ _ _ _ _ _ _ pr pcs spr nwh cp pa ea P ne EE lf (pa.length) p0 r0 lp lr lw h_lf h_pr h_pcs h_pc h_es hpa hQ (by omega) (by omega) (by omega) _) k_804 k_801 k_802 k_803 k_94 (nA := 0) (by decide +kernel) ⟨Nat.le_trans (by decide) hRf, Nat.le_trans (by decide) hRl⟩ hK hP hD hS hA hZ hN h_lf rfl rfl rfl hl.1 rfl (Nat.le_of_ble_eq_true rfl) dX0_weigh_66 ⟨(show cells + 0 ≤ R.cells by omega), (show slots + 0 ≤ R.slots by omega)⟩) (Nat.le_refl _) (Nat.le_refl _) (fun r H locs hw hP hD hS => ?_)
      rcases hw with ⟨c_2, rfl⟩ | ⟨c_2, rfl⟩
      · have hP := hP
        refine lv_if_ne (tgt := 114) hx hb dX0_weigh_69 (by decide) (fun _ => ?_) (fun hno => absurd hno (by decide))
        exact kk0 b fc fn (nI (pa.length)) (nI p0) (nI r0) (nI lp) (nI lr) (nI lw) _ _ H locs ls (bk_stop (fun z9 => by
          have h8 := z9.1
          rcases hR with ⟨rfl, h9, _⟩ | ⟨h9, _, _, _⟩
          · have h7 := hi h8; omega
          · omega)).symm hkp hbi hbo h_pr h_pcs h_pc h_es h_bk h_bop h_cf h_nx h_lf hfr hP hD hS (lv_sub hl (l' := [(0, .ref bk)]) [1] rfl)
      · have hP := hP
        refine lv_if_ne (tgt := 114) hx hb dX0_weigh_69 (by decide) (fun hno => absurd hno (by decide)) (fun _ => ?_)
        have hpn : pq < pa.length := by omega
        have hpl_ := h_pc.1
        have hup := hU pq (by omega)
        have hqp := hQ pq (by omega)
        have hrp := h_es.rb hqp.1
        have hu0 := hU p0 (by omega)
        have hSn := hSb pa.length (Nat.le_refl _)
        have hi1 := hi hpn
        have hlt : pl < qS P pq + (i + 1) := by
          rcases hge with h9 | ⟨rfl, h9⟩
          · have h8 := qS_in P h9; omega
          · omega
        have hz1 : pq + 1 < pa.length → 0 < (P.getD (pq + 1) d4).2.2.1 - (P.getD (pq + 1) d4).2.1 := fun h9 => by have h8 := hQ (pq + 1) (by omega); omega
        obtain ⟨dd, edd⟩ : ∃ x : Nat, x = pb (p0 < pq ∧ i = 0 ∧ rp_he ((EE (P.getD pq d4).1).1) ((P.getD pq d4).2.1)) := ⟨_, rfl⟩
        have hdd : dd ≤ 1 := by rw [edd]; exact pb_le _
        obtain ⟨tb, etb⟩ : ∃ x : Nat, x = pb ((EE (P.getD pq d4).1).1 = 4 ∧ 0 < (P.getD pq d4).2.1 + i + 1 ∧ (P.getD pq d4).2.1 + i + 1 < eRw (EE (P.getD pq d4).1)) := ⟨_, rfl⟩
        have htb : tb ≤ 1 := by rw [etb]; exact pb_le _
        obtain ⟨kc, ekc⟩ : ∃ x : Nat, x = pif ((P.getD pq d4).2.1 + i + 1 < eRw (EE (P.getD pq d4).1)) (pif ((EE (P.getD pq d4).1).1 = 4) 30 10) 0 := ⟨_, rfl⟩
        have etb2 := etb.trans (tb_w (p := pq) (en := pa.length) hup.1 hup.2)
        have ekc2 := ekc.trans (kc_w hup.1 hup.2 hi1)
        refine lv_aload_n hx hb dX0_weigh_72 rfl (lv_at hl 1 rfl) ?_
        refine o_get (D := D) (ci := 1) (v := .ref lf) (C := RX0) (T := TX0) (N := 11) hx hb hts inX0 hown hK hP h_bk rfl 1 (by decide) (hts _ k_349) (fun _ h9 => h9) rfl dX0_weigh_73 ?_
        refine o_cv (k := cells) (n := slots) hK hP hD hS hA (o_rV (As := []) (rest := []) hf (lf_take _ _ _ _ _ _ _ _ pr pcs spr nwh cp pa ea P ne EE lf (pa.length) p0 r0 lp lr lw pq i h_lf h_pr h_pcs h_pc h_es hpa hQ (by omega) (by omega) hpn (hi hpn) hR _) k_808 k_805 k_806 k_807 k_94 (nA := 0) (by decide +kernel) ⟨Nat.le_trans (by decide) hRf, Nat.le_trans (by decide) hRl⟩ hK hP hD hS hA hZ hN h_lf rfl rfl rfl hl.1 rfl (Nat.le_of_ble_eq_true rfl) dX0_weigh_76 ⟨(show cells + 0 ≤ R.cells by omega), (show slots + 0 ≤ R.slots by omega)⟩) (Nat.le_refl _) (Nat.le_refl _) (fun L g H locs hw hP hD hS => ?_)
        obtain ⟨hf9, h_lf⟩ := hw
        have h_pr := h_pr.fr hf9 (by decide)
        have h_bk := h_bk.fr hf9 (by decide)
        have h_bop := h_bop.fr hf9 (by decide)
        have h_cf := h_cf.fr hf9 (by decide)
        have h_nx := h_nx.fr hf9 (by decide)
        have hfr := hfr.tm hf9 (by decide)
        have h_pcs := h_pcs.frd hf9 (by decide)
        have h_pc := h_pc.frd hf9 (by decide)
        have h_es := h_es.frd hf9 (by decide)
        rw [← edd] at h_lf
        refine lv_aload_n hx hb dX0_weigh_79 rfl (lv_at hl 1 rfl) ?_
        refine o_get (D := D) (ci := 1) (v := .ref lf) (C := RX0) (T := TX0) (N := 11) hx hb hts inX0 hown hK hP h_bk rfl 1 (by decide) (hts _ k_349) (fun _ h9 => h9) rfl dX0_weigh_80 ?_
        refine o_cis (k := cells) (n := slots) hK hP hD hS hA (o_rV (As := []) (rest := []) hf (lf_more _ _ _ _ _ _ _ _ pr pcs spr nwh cp pa ea P ne EE lf (pa.length) p0 r0 pq ((P.getD pq d4).2.1 + i + 1) (lw + dd + 1) h_lf h_pr h_pcs h_pc h_es hpa hQ (by omega) (by omega) (by omega) (by omega) _) k_821 k_818 k_819 k_820 k_94 (nA := 0) (by decide +kernel) ⟨Nat.le_trans (by decide) hRf, Nat.le_trans (by decide) hRl⟩ hK hP hD hS hA hZ hN h_lf rfl rfl rfl hl.1 rfl (Nat.le_of_ble_eq_true rfl) dX0_weigh_83 ⟨(show cells + 0 ≤ R.cells by omega), (show slots + 0 ≤ R.slots by omega)⟩) (Nat.le_refl _) (Nat.le_refl _) (fun r H locs hw hP hD hS => ?_)
        obtain ⟨w9, ew9, rfl⟩ := hw
        obtain rfl : tb = w9 := etb.trans ew9.symm
        refine lv_iload_n hx hb dX0_weigh_86 rfl (lv_at hl 4 rfl) ?_
        refine lv_icmp_le (tgt := 91) hx hb dX0_weigh_87 (by decide) (fun c_3 => ?_) (fun c_3 => ?_)
        · have c_3 := q_le (a := lw + dd + 1 + tb) (b := mo) (by omega) (by omega) c_3
          by_cases hz : i + 1 = (P.getD pq d4).2.2.1 - (P.getD pq d4).2.1
          · have hP := hP
            refine lv_aload_n hx hb dX0_weigh_91 rfl (lv_at hl 1 rfl) ?_
            refine o_get (D := D) (ci := 1) (v := .ref lf) (C := RX0) (T := TX0) (N := 11) hx hb hts inX0 hown hK hP h_bk rfl 1 (by decide) (hts _ k_349) (fun _ h9 => h9) rfl dX0_weigh_92 ?_
            refine o_cis (k := cells) (n := slots) hK hP hD hS hA (o_rV (As := []) (rest := []) hf (lf_end _ _ _ _ _ _ _ _ pr pcs spr nwh cp pa ea P ne EE lf (pa.length) p0 r0 pq ((P.getD pq d4).2.1 + i + 1) (lw + dd + 1) h_lf h_pr h_pcs h_pc h_es hpa hQ (by omega) (by omega) (by omega) (by omega) (by omega) (by omega) (fun e9 => by omega) _) k_825 k_822 k_823 k_824 k_94 (nA := 0) (by decide +kernel) ⟨Nat.le_trans (by decide) hRf, Nat.le_trans (by decide) hRl⟩ hK hP hD hS hA hZ hN h_lf rfl rfl rfl hl.1 rfl (Nat.le_of_ble_eq_true rfl) dX0_weigh_95 ⟨(show cells + 0 ≤ R.cells by omega), (show slots + 0 ≤ R.slots by omega)⟩) (Nat.le_refl _) (Nat.le_refl _) (fun r H locs hw hP hD hS => ?_)
            rcases hw with ⟨c_4, rfl⟩ | ⟨c_4, rfl⟩
            · rw [show r0 - (P.getD p0 d4).2.1 = r0 by omega, show (P.getD pq d4).2.1 + i + 1 - (P.getD pq d4).2.1 = i + 1 by omega] at c_4
              have hP := hP
              refine lv_if_eq (tgt := 108) hx hb dX0_weigh_98 (by decide) (fun hno => absurd hno (by decide)) (fun _ => ?_)
              refine lv_aload_n hx hb dX0_weigh_101 rfl (lv_at hl 1 rfl) ?_
              refine lv_iload hx hb dX0_weigh_102 (lv_at hl 5 rfl) ?_
              refine lv_iload_n hx hb dX0_weigh_104 rfl (lv_at hl 4 rfl) ?_
              refine o_cv (k := cells) (n := slots) hK hP hD hS hA (o_rV (As := [.int (nI pl), .int (nI mo)]) (rest := []) hf (bk_wend _ _ _ _ _ _ _ _ pr pcs spr nwh cp pa ea P ne EE bk lf bop cf nx y7 y8 y9 y10 fb M fc fn p0 r0 pq i (lw + dd + 1) mo pl (qS P pq + (i + 1)) h_pr h_pcs h_pc h_es h_bk h_bop h_cf h_nx h_lf hpa60 hpa hQ hU hSb hFb hMs hM hpn (hi hpn) (by omega) hmo rfl hlt tb kc etb ekc (by omega) C b (pq + 1) 0 (cf_tab_k hC hkp hplS) hbi hbo (by rw [qS_s]; omega) (by omega) (fun h9 => hz1 h9) (by omega) _) k_837 k_834 k_836 k_28 k_95 (nA := 2) (by decide +kernel) ⟨Nat.le_trans (by decide) hRf, Nat.le_trans (by decide) hRl⟩ hK hP hD hS hA hZ hN h_bk rfl rfl rfl hl.1 rfl (Nat.le_of_ble_eq_true rfl) dX0_weigh_105 ⟨(show cells + 0 ≤ R.cells by omega), (show slots + 0 ≤ R.slots by omega)⟩) (Nat.le_refl _) (Nat.le_refl _) (fun L g H locs hw hP hD hS => ?_)
              obtain ⟨fc2, fn2, w1, w2, w3, hf9, h_cf, h_nx⟩ := hw
              have h_pr := h_pr.fr hf9 (by decide)
              have h_bk := h_bk.fr hf9 (by decide)
              have h_bop := h_bop.fr hf9 (by decide)
              have h_lf := h_lf.fr hf9 (by decide)
              have hfr := hfr.tm hf9 (by decide)
              have h_pcs := h_pcs.frd hf9 (by decide)
              have h_pc := h_pc.frd hf9 (by decide)
              have h_es := h_es.frd hf9 (by decide)
              refine lv_iinc (v := nI (j + 1)) (lv' := [(5, .int (nI (j + 1))), (0, .ref bk), (1, .int (nI p0)), (2, .int (nI r0)), (3, .int (nI mo)), (4, .int (nI pl))]) hx hb dX0_weigh_108 hl (k := 0) rfl (nI_addE (a := j) (b := 1) (by omega)) (by decide) rfl (fun ls hl => ?_)
              refine lv_goto (tgt := 56) hx hb dX0_weigh_111 (by decide) ?_
              exact ih (pq + 1) 0 (lw + dd + 1) pq ((P.getD pq d4).2.1 + i + 1) (j + 1) _ fc2 fn2 cells slots _ _ H locs ls (by omega) (by omega) (by omega) (by omega) (by omega) (by omega) (fun h9 => hz1 h9) (Or.inr ⟨rfl, by omega, rfl, by omega⟩) (by omega) (fun j9 h9 => ⟨(w1 j9 h9).1.trans (hkp j9 h9).1, (w1 j9 h9).2.trans (hkp j9 h9).2⟩) w2 w3 hRc hRs h_pr h_pcs h_pc h_es h_bk h_bop h_cf h_nx h_lf hfr hP hD hS (lv_sub hl (l' := [(5, .int (nI (j + 1))), (0, .ref bk), (1, .int (nI p0)), (2, .int (nI r0)), (3, .int (nI mo)), (4, .int (nI pl))]) [0, 1, 2, 3, 4, 5] rfl) (fun b2 f2 f3 x1 x2 x3 x4 x5 x6 L g H locs ls a1 => kk1 b2 f2 f3 x1 x2 x3 x4 x5 x6 L g H locs ls (a1.trans (bk_in (mb := 1) hpn (by omega) edd etb2 (fun _ => (pb_1 c_4).symm) (if_pos hz).symm (if_pos hz).symm (by rw [if_pos (show _ ∧ ¬ 1 = 0 from ⟨by omega, by decide⟩), ← ekc2]; rfl)))) (fun b2 f2 f3 x1 x2 x3 x4 x5 x6 L g H locs ls a1 => kk0 b2 f2 f3 x1 x2 x3 x4 x5 x6 L g H locs ls (a1.trans (bk_in (mb := 1) hpn (by omega) edd etb2 (fun _ => (pb_1 c_4).symm) (if_pos hz).symm (if_pos hz).symm (by rw [if_pos (show _ ∧ ¬ 1 = 0 from ⟨by omega, by decide⟩), ← ekc2]; rfl))))
            · rw [show r0 - (P.getD p0 d4).2.1 = r0 by omega, show (P.getD pq d4).2.1 + i + 1 - (P.getD pq d4).2.1 = i + 1 by omega] at c_4
              have hP := hP
              refine lv_if_eq (tgt := 108) hx hb dX0_weigh_98 (by decide) (fun _ => ?_) (fun hno => absurd hno (by decide))
              refine lv_iinc (v := nI (j + 1)) (lv' := [(5, .int (nI (j + 1))), (0, .ref bk), (1, .int (nI p0)), (2, .int (nI r0)), (3, .int (nI mo)), (4, .int (nI pl))]) hx hb dX0_weigh_108 hl (k := 0) rfl (nI_addE (a := j) (b := 1) (by omega)) (by decide) rfl (fun ls hl => ?_)
              refine lv_goto (tgt := 56) hx hb dX0_weigh_111 (by decide) ?_
              exact ih (pq + 1) 0 (lw + dd + 1) pq ((P.getD pq d4).2.1 + i + 1) (j + 1) b fc fn cells slots _ _ H locs ls (by omega) (by omega) (by omega) (by omega) (by omega) (by omega) (fun h9 => hz1 h9) (Or.inr ⟨rfl, by omega, rfl, by omega⟩) (by omega) hkp hbi hbo hRc hRs h_pr h_pcs h_pc h_es h_bk h_bop h_cf h_nx h_lf hfr hP hD hS (lv_sub hl (l' := [(5, .int (nI (j + 1))), (0, .ref bk), (1, .int (nI p0)), (2, .int (nI r0)), (3, .int (nI mo)), (4, .int (nI pl))]) [0, 1, 2, 3, 4, 5] rfl) (fun b2 f2 f3 x1 x2 x3 x4 x5 x6 L g H locs ls a1 => kk1 b2 f2 f3 x1 x2 x3 x4 x5 x6 L g H locs ls (a1.trans (bk_in (mb := 0) hpn (by omega) edd etb2 (fun _ => (pb_0 c_4).symm) (if_pos hz).symm (if_pos hz).symm (if_neg (fun z9 => z9.2 rfl)).symm))) (fun b2 f2 f3 x1 x2 x3 x4 x5 x6 L g H locs ls a1 => kk0 b2 f2 f3 x1 x2 x3 x4 x5 x6 L g H locs ls (a1.trans (bk_in (mb := 0) hpn (by omega) edd etb2 (fun _ => (pb_0 c_4).symm) (if_pos hz).symm (if_pos hz).symm (if_neg (fun z9 => z9.2 rfl)).symm)))
          · have hP := hP
            refine lv_aload_n hx hb dX0_weigh_91 rfl (lv_at hl 1 rfl) ?_
            refine o_get (D := D) (ci := 1) (v := .ref lf) (C := RX0) (T := TX0) (N := 11) hx hb hts inX0 hown hK hP h_bk rfl 1 (by decide) (hts _ k_349) (fun _ h9 => h9) rfl dX0_weigh_92 ?_
            refine o_cis (k := cells) (n := slots) hK hP hD hS hA (o_rV (As := []) (rest := []) hf (lf_end _ _ _ _ _ _ _ _ pr pcs spr nwh cp pa ea P ne EE lf (pa.length) p0 r0 pq ((P.getD pq d4).2.1 + i + 1) (lw + dd + 1) h_lf h_pr h_pcs h_pc h_es hpa hQ (by omega) (by omega) (by omega) (by omega) (by omega) (by omega) (fun e9 => by omega) _) k_825 k_822 k_823 k_824 k_94 (nA := 0) (by decide +kernel) ⟨Nat.le_trans (by decide) hRf, Nat.le_trans (by decide) hRl⟩ hK hP hD hS hA hZ hN h_lf rfl rfl rfl hl.1 rfl (Nat.le_of_ble_eq_true rfl) dX0_weigh_95 ⟨(show cells + 0 ≤ R.cells by omega), (show slots + 0 ≤ R.slots by omega)⟩) (Nat.le_refl _) (Nat.le_refl _) (fun r H locs hw hP hD hS => ?_)
            rcases hw with ⟨c_5, rfl⟩ | ⟨c_5, rfl⟩
            · rw [show r0 - (P.getD p0 d4).2.1 = r0 by omega, show (P.getD pq d4).2.1 + i + 1 - (P.getD pq d4).2.1 = i + 1 by omega] at c_5
              have hP := hP
              refine lv_if_eq (tgt := 108) hx hb dX0_weigh_98 (by decide) (fun hno => absurd hno (by decide)) (fun _ => ?_)
              refine lv_aload_n hx hb dX0_weigh_101 rfl (lv_at hl 1 rfl) ?_
              refine lv_iload hx hb dX0_weigh_102 (lv_at hl 5 rfl) ?_
              refine lv_iload_n hx hb dX0_weigh_104 rfl (lv_at hl 4 rfl) ?_
              refine o_cv (k := cells) (n := slots) hK hP hD hS hA (o_rV (As := [.int (nI pl), .int (nI mo)]) (rest := []) hf (bk_wend _ _ _ _ _ _ _ _ pr pcs spr nwh cp pa ea P ne EE bk lf bop cf nx y7 y8 y9 y10 fb M fc fn p0 r0 pq i (lw + dd + 1) mo pl (qS P pq + (i + 1)) h_pr h_pcs h_pc h_es h_bk h_bop h_cf h_nx h_lf hpa60 hpa hQ hU hSb hFb hMs hM hpn (hi hpn) (by omega) hmo rfl hlt tb kc etb ekc (by omega) C b pq (i + 1) (cf_tab_k hC hkp hplS) hbi hbo (rfl) (by omega) (fun _ => by have h8 := hi hpn; show i + 1 < (P.getD pq d4).2.2.1 - (P.getD pq d4).2.1; omega) (by omega) _) k_837 k_834 k_836 k_28 k_95 (nA := 2) (by decide +kernel) ⟨Nat.le_trans (by decide) hRf, Nat.le_trans (by decide) hRl⟩ hK hP hD hS hA hZ hN h_bk rfl rfl rfl hl.1 rfl (Nat.le_of_ble_eq_true rfl) dX0_weigh_105 ⟨(show cells + 0 ≤ R.cells by omega), (show slots + 0 ≤ R.slots by omega)⟩) (Nat.le_refl _) (Nat.le_refl _) (fun L g H locs hw hP hD hS => ?_)
              obtain ⟨fc2, fn2, w1, w2, w3, hf9, h_cf, h_nx⟩ := hw
              have h_pr := h_pr.fr hf9 (by decide)
              have h_bk := h_bk.fr hf9 (by decide)
              have h_bop := h_bop.fr hf9 (by decide)
              have h_lf := h_lf.fr hf9 (by decide)
              have hfr := hfr.tm hf9 (by decide)
              have h_pcs := h_pcs.frd hf9 (by decide)
              have h_pc := h_pc.frd hf9 (by decide)
              have h_es := h_es.frd hf9 (by decide)
              refine lv_iinc (v := nI (j + 1)) (lv' := [(5, .int (nI (j + 1))), (0, .ref bk), (1, .int (nI p0)), (2, .int (nI r0)), (3, .int (nI mo)), (4, .int (nI pl))]) hx hb dX0_weigh_108 hl (k := 0) rfl (nI_addE (a := j) (b := 1) (by omega)) (by decide) rfl (fun ls hl => ?_)
              refine lv_goto (tgt := 56) hx hb dX0_weigh_111 (by decide) ?_
              exact ih pq (i + 1) (lw + dd + 1) pq ((P.getD pq d4).2.1 + i + 1) (j + 1) _ fc2 fn2 cells slots _ _ H locs ls (by omega) (by omega) (by omega) (by omega) (by omega) (by omega) (fun _ => by omega) (Or.inl ⟨rfl, by omega, Or.inr (by omega)⟩) (by omega) (fun j9 h9 => ⟨(w1 j9 h9).1.trans (hkp j9 h9).1, (w1 j9 h9).2.trans (hkp j9 h9).2⟩) w2 w3 hRc hRs h_pr h_pcs h_pc h_es h_bk h_bop h_cf h_nx h_lf hfr hP hD hS (lv_sub hl (l' := [(5, .int (nI (j + 1))), (0, .ref bk), (1, .int (nI p0)), (2, .int (nI r0)), (3, .int (nI mo)), (4, .int (nI pl))]) [0, 1, 2, 3, 4, 5] rfl) (fun b2 f2 f3 x1 x2 x3 x4 x5 x6 L g H locs ls a1 => kk1 b2 f2 f3 x1 x2 x3 x4 x5 x6 L g H locs ls (a1.trans (bk_in (mb := 1) hpn (by omega) edd etb2 (fun _ => (pb_1 c_5).symm) (if_neg hz).symm (if_neg hz).symm (by rw [if_pos (show _ ∧ ¬ 1 = 0 from ⟨by omega, by decide⟩), ← ekc2]; rfl)))) (fun b2 f2 f3 x1 x2 x3 x4 x5 x6 L g H locs ls a1 => kk0 b2 f2 f3 x1 x2 x3 x4 x5 x6 L g H locs ls (a1.trans (bk_in (mb := 1) hpn (by omega) edd etb2 (fun _ => (pb_1 c_5).symm) (if_neg hz).symm (if_neg hz).symm (by rw [if_pos (show _ ∧ ¬ 1 = 0 from ⟨by omega, by decide⟩), ← ekc2]; rfl))))
            · rw [show r0 - (P.getD p0 d4).2.1 = r0 by omega, show (P.getD pq d4).2.1 + i + 1 - (P.getD pq d4).2.1 = i + 1 by omega] at c_5
              have hP := hP
              refine lv_if_eq (tgt := 108) hx hb dX0_weigh_98 (by decide) (fun _ => ?_) (fun hno => absurd hno (by decide))
              refine lv_iinc (v := nI (j + 1)) (lv' := [(5, .int (nI (j + 1))), (0, .ref bk), (1, .int (nI p0)), (2, .int (nI r0)), (3, .int (nI mo)), (4, .int (nI pl))]) hx hb dX0_weigh_108 hl (k := 0) rfl (nI_addE (a := j) (b := 1) (by omega)) (by decide) rfl (fun ls hl => ?_)
              refine lv_goto (tgt := 56) hx hb dX0_weigh_111 (by decide) ?_
              exact ih pq (i + 1) (lw + dd + 1) pq ((P.getD pq d4).2.1 + i + 1) (j + 1) b fc fn cells slots _ _ H locs ls (by omega) (by omega) (by omega) (by omega) (by omega) (by omega) (fun _ => by omega) (Or.inl ⟨rfl, by omega, Or.inr (by omega)⟩) (by omega) hkp hbi hbo hRc hRs h_pr h_pcs h_pc h_es h_bk h_bop h_cf h_nx h_lf hfr hP hD hS (lv_sub hl (l' := [(5, .int (nI (j + 1))), (0, .ref bk), (1, .int (nI p0)), (2, .int (nI r0)), (3, .int (nI mo)), (4, .int (nI pl))]) [0, 1, 2, 3, 4, 5] rfl) (fun b2 f2 f3 x1 x2 x3 x4 x5 x6 L g H locs ls a1 => kk1 b2 f2 f3 x1 x2 x3 x4 x5 x6 L g H locs ls (a1.trans (bk_in (mb := 0) hpn (by omega) edd etb2 (fun _ => (pb_0 c_5).symm) (if_neg hz).symm (if_neg hz).symm (if_neg (fun z9 => z9.2 rfl)).symm))) (fun b2 f2 f3 x1 x2 x3 x4 x5 x6 L g H locs ls a1 => kk0 b2 f2 f3 x1 x2 x3 x4 x5 x6 L g H locs ls (a1.trans (bk_in (mb := 0) hpn (by omega) edd etb2 (fun _ => (pb_0 c_5).symm) (if_neg hz).symm (if_neg hz).symm (if_neg (fun z9 => z9.2 rfl)).symm)))
        · have c_3 := q_nle (a := lw + dd + 1 + tb) (b := mo) (by omega) (by omega) c_3
          exact kk1 b fc fn (nI (pa.length)) (nI p0) (nI r0) (nI pq) (nI ((P.getD pq d4).2.1 + i + 1)) (nI (lw + dd + 1)) _ _ H locs ls (wg_stop hpn edd etb2 (by omega) htb).symm hkp hbi hbo h_pr h_pcs h_pc h_es h_bk h_bop h_cf h_nx h_lf hfr hP hD hS (lv_sub hl (l' := [(0, .ref bk)]) [1] rfl)
set_option maxHeartbeats 1000000 in
set_option maxRecDepth 100000 in
theorem bk_weigh (l : Launch) (D : va_G) (z : Nat → Nat) (cB cI_ cO : ClassId) (L0 : List Nat) (g0 : hG) (pr pcs spr nwh cp : Nat) (pa : List Nat) (ea : Nat → Nat) (P : List Q4) (ne : Nat) (EE : Nat → E5) (bk lf bop cf nx : Nat) (y7 y8 y9 y10 : Int32) (fb : Nat → Int32) (M : Nat) (fc fn : Nat → Int32) (x1 x2 x3 x4 x5 x6 : Int32) (mo p0 r0 pl : Nat) (C : Nat → Option Q4) (h_pr : ho L0 g0 pr 13 (.inr (7, [.ref pcs, .ref spr, .ref nwh]))) (h_pcs : alR cO (z 0) 14 15 L0 g0 pcs cp pa) (h_pc : pcR L0 g0 ea pa P) (h_es : esR cB cI_ L0 g0 ea ne EE) (h_bk : ho L0 g0 bk 21 (.inr (1, [.ref pr, .ref lf, .ref bop, .int (nI (pa.length)), .int (nI ((qS P pa.length))), .ref cf, .ref nx, .int y7, .int y8, .int y9, .int y10]))) (h_bop : ho L0 g0 bop 22 (.inl (cI_, 61, .inl fb))) (h_cf : ho L0 g0 cf 23 (.inl (cI_, M, .inl fc))) (h_nx : ho L0 g0 nx 24 (.inl (cI_, M, .inl fn))) (h_lf : ho L0 g0 lf 20 (.inr (4, [.ref pr, .int x1, .int x2, .int x3, .int x4, .int x5, .int x6]))) (hpa60 : pa.length ≤ 60) (hpa : pa.length ≤ 20000) (hQ : pq_ok ne EE P) (hU : pu_ok EE P) (hSb : ∀ i, i ≤ pa.length → qS P i ≤ 8000) (hFb : ∀ i, i ≤ pa.length → fb i = nI (qS P i)) (hMs : qS P pa.length < M) (hM : M ≤ 60000) (hmo1 : 10 ≤ mo) (hmo : mo ≤ 40) (hp0 : p0 < pa.length) (epl : pl = qS P p0 + r0) (hr0 : r0 < (P.getD p0 d4).2.2.1 - (P.getD p0 d4).2.1) (hC : cf_tab P pa.length C (pl + 1) fc fn) : eV l D yX0_weigh cX0_weigh 6 none 8 220 0 0 [.ref bk, .int (nI p0), .int (nI r0), .int (nI mo)] z cB cI_ cO L0 g0 (fun L g => ∃ (fc2 fn2 : Nat → Int32) (x1 x2 x3 x4 x5 x6 : Int32), cf_tab P pa.length (va_up C pl (bk_lay C (qK EE P) (qF P) (qT P) (qR EE P) p0 r0 pa.length mo 41 p0 r0 (pb (rp_ra (qK EE P p0) (qF P p0) p0 r0 0)) none)) pl fc2 fn2 ∧ fr [20, 23, 24] L0 g0 L g ∧ ho L g cf 23 (.inl (cI_, M, .inl fc2)) ∧ ho L g nx 24 (.inl (cI_, M, .inl fn2)) ∧ ho L g lf 20 (.inr (4, [.ref pr, .int x1, .int x2, .int x3, .int x4, .int x5, .int x6]))) := by
  refine o_sv (by decide) (Nat.le_of_ble_eq_true rfl) ?_
  intro p e s m below meth c A ls hf hr hlocks hin hK hP hD hS hA hZ hN hl
  obtain ⟨hx, hb, hml, hown, hts⟩ := id hf
  have hl : lv_has ls 6 [(0, .ref bk), (1, .int (nI p0)), (2, .int (nI r0)), (3, .int (nI mo))] := hl
  have hpl_ := h_pc.1
  have hu0 := hU p0 (by omega)
  have hq0 := hQ p0 (by omega)
  have hrb0 := h_es.rb hq0.1
  have hSn := hSb pa.length (Nat.le_refl _)
  have hSin0 := qS_in P hp0
  have hplS : pl < qS P pa.length := by omega
  have hfr : fr [20, 23, 24] L0 g0 L0 g0 := fr.rf
  refine lv_aload_n hx hb dX0_weigh_0 rfl (lv_at hl 0 rfl) ?_
  refine lv_iload_n hx hb dX0_weigh_1 rfl (lv_at hl 1 rfl) ?_
  refine o_cis (k := 0) (n := 0) hK hP hD hS hA (o_rV (As := [.int (nI p0)]) (rest := []) hf (bk_beg _ _ _ _ _ _ _ _ pr P bk lf bop cf nx (pa.length) ((qS P pa.length)) y7 y8 y9 y10 fb p0 h_bk h_bop (by omega) hFb (by omega) _) k_787 k_784 k_786 k_27 k_95 (nA := 1) (by decide +kernel) ⟨Nat.le_of_ble_eq_true rfl, Nat.le_of_ble_eq_true rfl⟩ hK hP hD hS hA hZ hN h_bk rfl rfl rfl hl.1 rfl (Nat.le_of_ble_eq_true rfl) dX0_weigh_2 ⟨(show 0 + 0 ≤ 0 by omega), (show 0 + 0 ≤ 0 by omega)⟩) (Nat.le_refl _) (Nat.le_refl _) (fun r H locs hw hP hD hS => ?_)
  obtain rfl := hw
  refine lv_iload_n hx hb dX0_weigh_5 rfl (lv_at hl 2 rfl) ?_
  refine lv_iadd hx hb dX0_weigh_6 ?_
  refine q_seti (y := nI (qS P p0 + r0)) (nI_addE (a := (qS P p0)) (b := r0) (by omega)) ?_
  refine q_seti (y := nI pl) (congrArg nI epl.symm) ?_
  refine lv_istore (lv' := [(4, .int (nI pl)), (0, .ref bk), (1, .int (nI p0)), (2, .int (nI r0)), (3, .int (nI mo))]) hx hb dX0_weigh_7 hl (by decide) rfl (fun ls hl => ?_)
  refine lv_iload hx hb dX0_weigh_9 (lv_at hl 0 rfl) ?_
  refine lv_if_lt (tgt := 23) hx hb dX0_weigh_11 (by decide) (fun c_1 => ?_) (fun c_1 => ?_)
  · have c_1 := q_lt (a := pl) (b := 0) (by omega) (by omega) c_1
    exact False.elim (by omega)
  · have c_1 := q_nlt (a := pl) (b := 0) (by omega) (by omega) c_1
    refine lv_iload hx hb dX0_weigh_14 (lv_at hl 0 rfl) ?_
    refine lv_aload_n hx hb dX0_weigh_16 rfl (lv_at hl 1 rfl) ?_
    refine o_get (D := D) (ci := 1) (v := .int (nI ((qS P pa.length)))) (C := RX0) (T := TX0) (N := 11) hx hb hts inX0 hown hK hP h_bk rfl 4 (by decide) (hts _ k_352) (fun _ h9 => h9) rfl dX0_weigh_17 ?_
    refine lv_icmp_lt (tgt := 24) hx hb dX0_weigh_20 (by decide) (fun c_2 => ?_) (fun c_2 => ?_)
    · have c_2 := q_lt (a := pl) (b := (qS P pa.length)) (by omega) (by omega) c_2
      refine lv_aload_n hx hb dX0_weigh_24 rfl (lv_at hl 1 rfl) ?_
      refine o_get (D := D) (ci := 1) (v := .ref cf) (C := RX0) (T := TX0) (N := 11) hx hb hts inX0 hown hK hP h_bk rfl 5 (by decide) (hts _ k_353) (fun _ h9 => h9) rfl dX0_weigh_25 ?_
      refine lv_iload hx hb dX0_weigh_28 (lv_at hl 0 rfl) ?_
      refine lv_iconst (v := (-1)) hx hb dX0_weigh_30 (by decide) ?_
      refine o_ist (X := pl) (x := (-1)) hx hb hK hP hD hS h_cf (by omega) (by omega) dX0_weigh_31 (fun g H locs h_cf hu hP hD hS => ?_)
      have h_pr := h_pr.up hu (by decide)
      have h_bk := h_bk.up hu (by decide)
      have h_bop := h_bop.up hu (by decide)
      have h_nx := h_nx.up hu (by decide)
      have h_lf := h_lf.up hu (by decide)
      have hfr := hfr.up hu (by decide)
      have h_pcs := h_pcs.frd hu.fr (by decide)
      have h_pc := h_pc.frd hu.fr (by decide)
      have h_es := h_es.frd hu.fr (by decide)
      refine lv_aload_n hx hb dX0_weigh_32 rfl (lv_at hl 1 rfl) ?_
      refine o_get (D := D) (ci := 1) (v := .ref nx) (C := RX0) (T := TX0) (N := 11) hx hb hts inX0 hown hK hP h_bk rfl 6 (by decide) (hts _ k_354) (fun _ h9 => h9) rfl dX0_weigh_33 ?_
      refine lv_iload hx hb dX0_weigh_36 (lv_at hl 0 rfl) ?_
      refine lv_iconst (v := (-1)) hx hb dX0_weigh_38 (by decide) ?_
      refine o_ist (X := pl) (x := (-1)) hx hb hK hP hD hS h_nx (by omega) (by omega) dX0_weigh_39 (fun g H locs h_nx hu hP hD hS => ?_)
      have h_pr := h_pr.up hu (by decide)
      have h_bk := h_bk.up hu (by decide)
      have h_bop := h_bop.up hu (by decide)
      have h_cf := h_cf.up hu (by decide)
      have h_lf := h_lf.up hu (by decide)
      have hfr := hfr.up hu (by decide)
      have h_pcs := h_pcs.frd hu.fr (by decide)
      have h_pc := h_pc.frd hu.fr (by decide)
      have h_es := h_es.frd hu.fr (by decide)
      refine lv_aload_n hx hb dX0_weigh_40 rfl (lv_at hl 1 rfl) ?_
      refine o_get (D := D) (ci := 1) (v := .ref lf) (C := RX0) (T := TX0) (N := 11) hx hb hts inX0 hown hK hP h_bk rfl 1 (by decide) (hts _ k_349) (fun _ h9 => h9) rfl dX0_weigh_41 ?_
      refine lv_iload_n hx hb dX0_weigh_44 rfl (lv_at hl 2 rfl) ?_
      refine lv_iload_n hx hb dX0_weigh_45 rfl (lv_at hl 3 rfl) ?_
      refine lv_aload_n hx hb dX0_weigh_46 rfl (lv_at hl 1 rfl) ?_
      refine o_get (D := D) (ci := 1) (v := .int (nI (pa.length))) (C := RX0) (T := TX0) (N := 11) hx hb hts inX0 hown hK hP h_bk rfl 3 (by decide) (hts _ k_351) (fun _ h9 => h9) rfl dX0_weigh_47 ?_
      refine o_cv (k := 0) (n := 0) hK hP hD hS hA (o_rV (As := [.int (nI p0), .int (nI r0), .int (nI (pa.length))]) (rest := []) hf (lf_open _ _ _ _ _ _ _ _ pr pcs spr nwh cp pa ea P ne EE lf x1 x2 x3 x4 x5 x6 p0 r0 (pa.length) h_lf h_pr h_pcs h_pc h_es hpa hQ (by omega) (by omega) _) k_791 k_788 k_789 k_790 k_94 (nA := 3) (by decide +kernel) ⟨Nat.le_of_ble_eq_true rfl, Nat.le_of_ble_eq_true rfl⟩ hK hP hD hS hA hZ hN h_lf rfl rfl rfl hl.1 rfl (Nat.le_of_ble_eq_true rfl) dX0_weigh_50 ⟨(show 0 + 0 ≤ 0 by omega), (show 0 + 0 ≤ 0 by omega)⟩) (Nat.le_refl _) (Nat.le_refl _) (fun L g H locs hw hP hD hS => ?_)
      obtain ⟨hf9, h_lf⟩ := hw
      have h_pr := h_pr.fr hf9 (by decide)
      have h_bk := h_bk.fr hf9 (by decide)
      have h_bop := h_bop.fr hf9 (by decide)
      have h_cf := h_cf.fr hf9 (by decide)
      have h_nx := h_nx.fr hf9 (by decide)
      have hfr := hfr.tm hf9 (by decide)
      have h_pcs := h_pcs.frd hf9 (by decide)
      have h_pc := h_pc.frd hf9 (by decide)
      have h_es := h_es.frd hf9 (by decide)
      refine lv_iconst (v := 0) hx hb dX0_weigh_53 (by decide) ?_
      refine lv_istore (lv' := [(5, .int 0), (4, .int (nI pl)), (0, .ref bk), (1, .int (nI p0)), (2, .int (nI r0)), (3, .int (nI mo))]) hx hb dX0_weigh_54 hl (by decide) rfl (fun ls hl => ?_)
      obtain ⟨lw, elw⟩ : ∃ x : Nat, x = pb ((EE (P.getD p0 d4).1).1 = 4 ∧ 0 < r0 ∧ r0 < eRw (EE (P.getD p0 d4).1)) := ⟨_, rfl⟩
      rw [← elw] at h_lf
      have hlw1 : lw ≤ 1 := by rw [elw]; exact pb_le _
      have era := elw.trans (ra_w (p := p0) hu0.1 hu0.2 hr0)
      have hkz : ∀ j, ¬ j = pl → upd fc pl (-1) j = fc j ∧ upd fn pl (-1) j = fn j := fun j h9 => ⟨pk_un h9, pk_un h9⟩
      refine wg_loop (L0 := L0) (g0 := g0) hpa60 hpa hQ hU hSb hFb hMs hM hmo hp0 epl hr0 hplS (cf_tab_k hC hkz hplS) (Nat.le_of_ble_eq_true rfl) (Nat.le_of_ble_eq_true rfl) hA hf hK hZ hN 41 p0 r0 lw p0 r0 0 none _ _ _ _ _ _ _ _ ls (by omega) (by omega) (by omega) (by omega) hp0 (by omega) (fun _ => hr0) (Or.inl ⟨rfl, by omega, Or.inl rfl⟩) (Or.inr ⟨rfl, Nat.le_refl _⟩) (fun j _ => ⟨rfl, rfl⟩) ⟨pk_us, pk_us⟩ bk_ok_n (by omega) (by omega) h_pr h_pcs h_pc h_es h_bk h_bop h_cf h_nx h_lf hfr hP hD hS (lv_sub hl (l' := [(5, .int 0), (0, .ref bk), (1, .int (nI p0)), (2, .int (nI r0)), (3, .int (nI mo)), (4, .int (nI pl))]) [0, 2, 3, 4, 5, 1] rfl) ?_ ?_
      · intro b2 fc2 fn2 x1 x2 x3 x4 x5 x6 L g H locs ls a1 a2 a3 a4 h_pr h_pcs h_pc h_es h_bk h_bop h_cf h_nx h_lf hfr hP hD hS hl
        exact o_rv hf hr hlocks hK hP hD hS (show 0 ≤ 0 by omega) (show 0 ≤ 0 by omega) ⟨fc2, fn2, x1, x2, x3, x4, x5, x6, (by rw [show pb (rp_ra (qK EE P p0) (qF P p0) p0 r0 0) = lw from era.symm, ← a1]; exact cf_tab_s (cf_tab_k hC hkz hplS) a2 hplS a3 a4), hfr, h_cf, h_nx, h_lf⟩ dX0_weigh_90
      · intro b2 fc2 fn2 x1 x2 x3 x4 x5 x6 L g H locs ls a1 a2 a3 a4 h_pr h_pcs h_pc h_es h_bk h_bop h_cf h_nx h_lf hfr hP hD hS hl
        exact o_rv hf hr hlocks hK hP hD hS (show 0 ≤ 0 by omega) (show 0 ≤ 0 by omega) ⟨fc2, fn2, x1, x2, x3, x4, x5, x6, (by rw [show pb (rp_ra (qK EE P p0) (qF P p0) p0 r0 0) = lw from era.symm, ← a1]; exact cf_tab_s (cf_tab_k hC hkz hplS) a2 hplS a3 a4), hfr, h_cf, h_nx, h_lf⟩ dX0_weigh_114
    · have c_2 := q_nlt (a := pl) (b := (qS P pa.length)) (by omega) (by omega) c_2
      exact False.elim (by omega)
