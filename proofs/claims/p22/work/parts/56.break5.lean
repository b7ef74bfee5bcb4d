theorem rs_hz {ne : Nat} {EE : Nat → E5} {P : List Q4} {n : Nat} (hQ : pq_ok ne EE P) (h : n = P.length) : ∀ p, p < n → 0 < qT P p - qF P p := pz_of hQ (Nat.le_of_eq h)
theorem rs_qS (P : List Q4) (k : Nat) : rs_S (qF P) (qT P) k = qS P k := rfl
theorem cl_step {EE : Nat → E5} {P : List Q4} {n pl pq r mo : Nat} {C : Nat → Option Q4} {fc fn : Nat → Int32} (hz : ∀ p, p < n → 0 < qT P p - qF P p) (hcl : bk_cl (qF P) (qT P) n C (pl + 1)) (hr : r < qT P pq - qF P pq) (hC : cf_tab P n (va_up C pl (bk_lay C (qK EE P) (qF P) (qT P) (qR EE P) pq r n mo 41 pq r (pb (rp_ra (qK EE P pq) (qF P pq) pq r 0)) none)) pl fc fn) : bk_cl (qF P) (qT P) n (va_up C pl (bk_lay C (qK EE P) (qF P) (qT P) (qR EE P) pq r n mo 41 pq r (pb (rp_ra (qK EE P pq) (qF P pq) pq r 0)) none)) pl :=
  bk_cl_s hcl (bk_lay_cl hz 41 pq r _ none (fun _ h => by cases h) (fun _ => hr)) (fun j h1 h2 => (hC.1 j h1 h2).2)
abbrev cX0_refresh : ByteArray := prog_2_method_3_code
def yX0_refresh : MethodName := ⟨RX0, "refresh", "(I)V"⟩
theorem k_24 : (Cond.selects RX0 yX0_numberPlaces yX0_numberPlaces) ∈ gT := gT_i 24 (by decide +kernel) rfl
theorem k_25 : (Cond.selects RX0 yX0_makeRoom yX0_makeRoom) ∈ gT := gT_i 25 (by decide +kernel) rfl
theorem k_26 : (Cond.selects RX0 yX0_weigh yX0_weigh) ∈ gT := gT_i 26 (by decide +kernel) rfl
theorem k_29 : (Cond.selects RX0 yX0_countPages yX0_countPages) ∈ gT := gT_i 29 (by decide +kernel) rfl
theorem k_355 : (Cond.fieldLink RX0 29 "ScriptDesk$Breaking" "known" "Z") ∈ gT := gT_i 355 (by decide +kernel) rfl
theorem k_766 : (Cond.methodLink RX0 33 yX0_numberPlaces) ∈ gT := gT_i 766 (by decide +kernel) rfl
theorem k_768 : (Cond.instanceMethod yX0_numberPlaces) ∈ gT := gT_i 768 (by decide +kernel) rfl
theorem k_769 : (Cond.code yX0_numberPlaces cX0_numberPlaces 2 none) ∈ gT := gT_i 769 (by decide +kernel) rfl
theorem k_776 : (Cond.methodLink RX0 36 yX0_makeRoom) ∈ gT := gT_i 776 (by decide +kernel) rfl
theorem k_778 : (Cond.instanceMethod yX0_makeRoom) ∈ gT := gT_i 778 (by decide +kernel) rfl
theorem k_779 : (Cond.code yX0_makeRoom cX0_makeRoom 1 none) ∈ gT := gT_i 779 (by decide +kernel) rfl
theorem k_780 : (Cond.methodLink RX0 57 yX0_weigh) ∈ gT := gT_i 780 (by decide +kernel) rfl
theorem k_782 : (Cond.instanceMethod yX0_weigh) ∈ gT := gT_i 782 (by decide +kernel) rfl
theorem k_783 : (Cond.code yX0_weigh cX0_weigh 6 none) ∈ gT := gT_i 783 (by decide +kernel) rfl
theorem k_851 : (Cond.methodLink RX0 61 yX0_countPages) ∈ gT := gT_i 851 (by decide +kernel) rfl
theorem k_853 : (Cond.instanceMethod yX0_countPages) ∈ gT := gT_i 853 (by decide +kernel) rfl
theorem k_854 : (Cond.code yX0_countPages cX0_countPages 3 none) ∈ gT := gT_i 854 (by decide +kernel) rfl
theorem dX0_refresh_61 : decode cX0_refresh 61 = .ok (.iload_n 3, 1) := by decide +kernel
theorem dX0_refresh_62 : decode cX0_refresh 62 = .ok (.ifCond .lt 16, 3) := by decide +kernel
theorem dX0_refresh_65 : decode cX0_refresh 65 = .ok (.aload_n 0, 1) := by decide +kernel
theorem dX0_refresh_66 : decode cX0_refresh 66 = .ok (.iload_n 2, 1) := by decide +kernel
theorem dX0_refresh_67 : decode cX0_refresh 67 = .ok (.iload_n 3, 1) := by decide +kernel
theorem dX0_refresh_68 : decode cX0_refresh 68 = .ok (.iload_n 1, 1) := by decide +kernel
theorem dX0_refresh_69 : decode cX0_refresh 69 = .ok (.invokevirtual 57, 3) := by decide +kernel
theorem dX0_refresh_72 : decode cX0_refresh 72 = .ok (.iinc 3 (-1), 3) := by decide +kernel
theorem dX0_refresh_75 : decode cX0_refresh 75 = .ok (.goto (-14), 3) := by decide +kernel
theorem dX0_refresh_43 : decode cX0_refresh 43 = .ok (.iload_n 2, 1) := by decide +kernel
theorem dX0_refresh_44 : decode cX0_refresh 44 = .ok (.ifCond .lt 40, 3) := by decide +kernel
theorem dX0_refresh_47 : decode cX0_refresh 47 = .ok (.aload_n 0, 1) := by decide +kernel
theorem dX0_refresh_48 : decode cX0_refresh 48 = .ok (.getfield 21, 3) := by decide +kernel
theorem dX0_refresh_51 : decode cX0_refresh 51 = .ok (.iload_n 2, 1) := by decide +kernel
theorem dX0_refresh_52 : decode cX0_refresh 52 = .ok (.invokevirtual 46, 3) := by decide +kernel
theorem dX0_refresh_55 : decode cX0_refresh 55 = .ok (.getfield 52, 3) := by decide +kernel
theorem dX0_refresh_58 : decode cX0_refresh 58 = .ok (.iconst 1, 1) := by decide +kernel
theorem dX0_refresh_59 : decode cX0_refresh 59 = .ok (.isub, 1) := by decide +kernel
theorem dX0_refresh_60 : decode cX0_refresh 60 = .ok (.istore_n 3, 1) := by decide +kernel
theorem dX0_refresh_78 : decode cX0_refresh 78 = .ok (.iinc 2 (-1), 3) := by decide +kernel
theorem dX0_refresh_81 : decode cX0_refresh 81 = .ok (.goto (-38), 3) := by decide +kernel
theorem dX0_refresh_0 : decode cX0_refresh 0 = .ok (.aload_n 0, 1) := by decide +kernel
theorem dX0_refresh_1 : decode cX0_refresh 1 = .ok (.getfield 29, 3) := by decide +kernel
theorem dX0_refresh_4 : decode cX0_refresh 4 = .ok (.ifCond .eq 4, 3) := by decide +kernel
theorem dX0_refresh_8 : decode cX0_refresh 8 = .ok (.aload_n 0, 1) := by decide +kernel
theorem dX0_refresh_9 : decode cX0_refresh 9 = .ok (.invokevirtual 33, 3) := by decide +kernel
theorem dX0_refresh_12 : decode cX0_refresh 12 = .ok (.aload_n 0, 1) := by decide +kernel
theorem dX0_refresh_13 : decode cX0_refresh 13 = .ok (.invokevirtual 36, 3) := by decide +kernel
theorem dX0_refresh_16 : decode cX0_refresh 16 = .ok (.aload_n 0, 1) := by decide +kernel
theorem dX0_refresh_17 : decode cX0_refresh 17 = .ok (.getfield 15, 3) := by decide +kernel
theorem dX0_refresh_20 : decode cX0_refresh 20 = .ok (.aload_n 0, 1) := by decide +kernel
theorem dX0_refresh_21 : decode cX0_refresh 21 = .ok (.getfield 39, 3) := by decide +kernel
theorem dX0_refresh_24 : decode cX0_refresh 24 = .ok (.iconst 0, 1) := by decide +kernel
theorem dX0_refresh_25 : decode cX0_refresh 25 = .ok (.iastore, 1) := by decide +kernel
theorem dX0_refresh_26 : decode cX0_refresh 26 = .ok (.aload_n 0, 1) := by decide +kernel
theorem dX0_refresh_27 : decode cX0_refresh 27 = .ok (.getfield 18, 3) := by decide +kernel
theorem dX0_refresh_30 : decode cX0_refresh 30 = .ok (.aload_n 0, 1) := by decide +kernel
theorem dX0_refresh_31 : decode cX0_refresh 31 = .ok (.getfield 39, 3) := by decide +kernel
theorem dX0_refresh_34 : decode cX0_refresh 34 = .ok (.iconst (-1), 1) := by decide +kernel
theorem dX0_refresh_35 : decode cX0_refresh 35 = .ok (.iastore, 1) := by decide +kernel
theorem dX0_refresh_36 : decode cX0_refresh 36 = .ok (.aload_n 0, 1) := by decide +kernel
theorem dX0_refresh_37 : decode cX0_refresh 37 = .ok (.getfield 43, 3) := by decide +kernel
theorem dX0_refresh_40 : decode cX0_refresh 40 = .ok (.iconst 1, 1) := by decide +kernel
theorem dX0_refresh_41 : decode cX0_refresh 41 = .ok (.isub, 1) := by decide +kernel
theorem dX0_refresh_42 : decode cX0_refresh 42 = .ok (.istore_n 2, 1) := by decide +kernel
theorem dX0_refresh_84 : decode cX0_refresh 84 = .ok (.aload_n 0, 1) := by decide +kernel
theorem dX0_refresh_85 : decode cX0_refresh 85 = .ok (.invokevirtual 61, 3) := by decide +kernel
theorem dX0_refresh_88 : decode cX0_refresh 88 = .ok (.aload_n 0, 1) := by decide +kernel
theorem dX0_refresh_89 : decode cX0_refresh 89 = .ok (.iconst 1, 1) := by decide +kernel
theorem dX0_refresh_90 : decode cX0_refresh 90 = .ok (.putfield 29, 3) := by decide +kernel
theorem dX0_refresh_93 : decode cX0_refresh 93 = .ok (.return_, 1) := by decide +kernel
theorem dX0_refresh_7 : decode cX0_refresh 7 = .ok (.return_, 1) := by decide +kernel
set_option maxHeartbeats 1000000 in
set_option maxRecDepth 100000 in
theorem rr_loop {p : Program} {l : Launch} {e : Env} {R : Room} {s : State} {m : MethodId} {args : Array Value} {below : List Frame} {meth : Method} {c : Code} {Q : State → Prop} {D : va_G} {A : Nat → Prop} {z : Nat → Nat} {cB cI_ cO : ClassId} {L0 : List Nat} {g0 : hG} {pr pcs spr nwh cp : Nat} {pa : List Nat} {ea : Nat → Nat} {P : List Q4} {ne : Nat} {EE : Nat → E5} {bk lf bop cf nx : Nat} {y7 y8 y9 y10 : Int32} {fb : Nat → Int32} {M mo : Nat} (hpa60 : pa.length ≤ 60) (hpa : pa.length ≤ 20000) (hQ : pq_ok ne EE P) (hU : pu_ok EE P) (hSb : ∀ i, i ≤ pa.length → qS P i ≤ 8000) (hFb : ∀ i, i ≤ pa.length → fb i = nI (qS P i)) (hMs : qS P pa.length < M) (hM : M ≤ 60000) (hmo1 : 10 ≤ mo) (hmo : mo ≤ 40) {pq : Nat} (hpn : pq < pa.length) (hRf : 10 ≤ R.frames) (hRl : 300 ≤ R.locals) (hA : ∀ q : Nat, s.heap.size ≤ q → A q) (hf : CallFix p m c cX0_refresh 4 s args gT yX0_refresh.cls) (hK : va_K D vcl (dT cB cI_ cO) s) (hZ : zA z A s s.heap) (hN : zB z s) :
    ∀ (k : Nat) (x : Int32) (C : Nat → Option Q4) (fc : Nat → Int32) (fn : Nat → Int32) (x1 : Int32) (x2 : Int32) (x3 : Int32) (x4 : Int32) (x5 : Int32) (x6 : Int32) (cells slots : Nat) (L : List Nat) (g : hG) (H : Heap) (locs : List Loc) (ls : Array Slot), k ≤ (P.getD pq d4).2.2.1 - (P.getD pq d4).2.1 → x = nI k - 1 → cf_tab P pa.length C (qS P pq + k) fc fn → bk_cl (qF P) (qT P) pa.length C (qS P pq + k) → cells ≤ R.cells → slots ≤ R.slots → ho L g pr 13 (.inr (7, [.ref pcs, .ref spr, .ref nwh])) → alR cO (z 0) 14 15 L g pcs cp pa → pcR L g ea pa P → esR cB cI_ L g ea ne EE → ho L g bk 21 (.inr (1, [.ref pr, .ref lf, .ref bop, .int (nI (pa.length)), .int (nI ((qS P pa.length))), .ref cf, .ref nx, .int y7, .int y8, .int y9, .int y10])) → ho L g bop 22 (.inl (cI_, 61, .inl fb)) → ho L g cf 23 (.inl (cI_, M, .inl fc)) → ho L g nx 24 (.inl (cI_, M, .inl fn)) → ho L g lf 20 (.inr (4, [.ref pr, .int x1, .int x2, .int x3, .int x4, .int x5, .int x6])) → fr [20, 23, 24] L0 g0 L g → va_P D vcl (dW L g) H → va_D A (dW L g) → va_S A s.heap H locs → lv_has ls 4 [(3, .int x), (0, .ref bk), (1, .int (nI mo)), (2, .int (nI pq))] →
    (∀ (C2 : Nat → Option Q4) (fc2 : Nat → Int32) (fn2 : Nat → Int32) (x1 : Int32) (x2 : Int32) (x3 : Int32) (x4 : Int32) (x5 : Int32) (x6 : Int32)  (L : List Nat) (g : hG) (H : Heap) (locs : List Loc) (ls : Array Slot), C2 = bk_row (qK EE P) (qF P) (qT P) (qR EE P) pa.length mo pq k C → cf_tab P pa.length C2 (qS P pq) fc2 fn2 → bk_cl (qF P) (qT P) pa.length C2 (qS P pq) → ho L g pr 13 (.inr (7, [.ref pcs, .ref spr, .ref nwh])) → alR cO (z 0) 14 15 L g pcs cp pa → pcR L g ea pa P → esR cB cI_ L g ea ne EE → ho L g bk 21 (.inr (1, [.ref pr, .ref lf, .ref bop, .int (nI (pa.length)), .int (nI ((qS P pa.length))), .ref cf, .ref nx, .int y7, .int y8, .int y9, .int y10])) → ho L g bop 22 (.inl (cI_, 61, .inl fb)) → ho L g cf 23 (.inl (cI_, M, .inl fc2)) → ho L g nx 24 (.inl (cI_, M, .inl fn2)) → ho L g lf 20 (.inr (4, [.ref pr, .int x1, .int x2, .int x3, .int x4, .int x5, .int x6])) → fr [20, 23, 24] L0 g0 L g → va_P D vcl (dW L g) H → va_D A (dW L g) → va_S A s.heap H locs → lv_has ls 4 [(0, .ref bk), (1, .int (nI mo)), (2, .int (nI pq))] → W p l e R s m args below meth c H locs cells slots Q (F0 m 78 ls [])) →
    W p l e R s m args below meth c H locs cells slots Q (F0 m 61 ls []) := by
  obtain ⟨hx, hb, hml, hown, hts⟩ := id hf
  intro k
  induction k with
  | zero =>
    intro x C fc fn x1 x2 x3 x4 x5 x6 cells slots L g H locs ls hk hx_ hC hcl hRc hRs h_pr h_pcs h_pc h_es h_bk h_bop h_cf h_nx h_lf hfr hP hD hS hl kk
    obtain rfl : x = (-1) := hx_.trans (by decide)
    have hpl_ := h_pc.1
    have hup := hU pq (by omega)
    have hqp := hQ pq (by omega)
    have hrp := h_es.rb hqp.1
    refine lv_iload_n hx hb dX0_refresh_61 rfl (lv_at hl 0 rfl) ?_
    refine lv_if_lt (tgt := 78) hx hb dX0_refresh_62 (by decide) (fun _ => ?_) (fun hno => absurd hno (by decide))
    exact kk C fc fn x1 x2 x3 x4 x5 x6 _ _ H locs ls rfl hC hcl h_pr h_pcs h_pc h_es h_bk h_bop h_cf h_nx h_lf hfr hP hD hS (lv_sub hl (l' := [(0, .ref bk), (1, .int (nI mo)), (2, .int (nI pq))]) [1, 2, 3] rfl)
  | succ k ih =>
    intro x C fc fn x1 x2 x3 x4 x5 x6 cells slots L g H locs ls hk hx_ hC hcl hRc hRs h_pr h_pcs h_pc h_es h_bk h_bop h_cf h_nx h_lf hfr hP hD hS hl kk
    obtain rfl : x = nI k := hx_.trans (nI_pred k)
    have hpl_ := h_pc.1
    have hup := hU pq (by omega)
    have hqp := hQ pq (by omega)
    have hrp := h_es.rb hqp.1
    refine lv_iload_n hx hb dX0_refresh_61 rfl (lv_at hl 0 rfl) ?_
    refine lv_if_lt (tgt := 78) hx hb dX0_refresh_62 (by decide) (fun c_1 => ?_) (fun c_1 => ?_)
    · have c_1 := q_lt (a := k) (b := 0) (by omega) (by omega) c_1
      exact False.elim (by omega)
    · have c_1 := q_nlt (a := k) (b := 0) (by omega) (by omega) c_1
      refine lv_aload_n hx hb dX0_refresh_65 rfl (lv_at hl 1 rfl) ?_
      refine lv_iload_n hx hb dX0_refresh_66 rfl (lv_at hl 3 rfl) ?_
      refine lv_iload_n hx hb dX0_refresh_67 rfl (lv_at hl 0 rfl) ?_
      refine lv_iload_n hx hb dX0_refresh_68 rfl (lv_at hl 2 rfl) ?_
      refine o_cv (k := cells) (n := slots) hK hP hD hS hA (o_rV (As := [.int (nI pq), .int (nI k), .int (nI mo)]) (rest := []) hf (bk_weigh _ _ _ _ _ _ _ _ pr pcs spr nwh cp pa ea P ne EE bk lf bop cf nx y7 y8 y9 y10 fb M fc fn x1 x2 x3 x4 x5 x6 mo pq k (qS P pq + k) C h_pr h_pcs h_pc h_es h_bk h_bop h_cf h_nx h_lf hpa60 hpa hQ hU hSb hFb hMs hM hmo1 hmo hpn rfl (by omega) hC _) k_783 k_780 k_782 k_26 k_95 (nA := 3) (by decide +kernel) ⟨Nat.le_trans (by decide) hRf, Nat.le_trans (by decide) hRl⟩ hK hP hD hS hA hZ hN h_bk rfl rfl rfl hl.1 rfl (Nat.le_of_ble_eq_true rfl) dX0_refresh_69 ⟨(show cells + 0 ≤ R.cells by omega), (show slots + 0 ≤ R.slots by omega)⟩) (Nat.le_refl _) (Nat.le_refl _) (fun L g H locs hw hP hD hS => ?_)
      obtain ⟨fc2, fn2, u1, u2, u3, u4, u5, u6, hC2, hf9, h_cf, h_nx, h_lf⟩ := hw
      have h_pr := h_pr.fr hf9 (by decide)
      have h_bk := h_bk.fr hf9 (by decide)
      have h_bop := h_bop.fr hf9 (by decide)
      have hfr := hfr.tr hf9
      have h_pcs := h_pcs.frd hf9 (by decide)
      have h_pc := h_pc.frd hf9 (by decide)
      have h_es := h_es.frd hf9 (by decide)
      refine lv_iinc (v := ((nI k) + (-1))) (lv' := [(3, .int ((nI k) + (-1))), (0, .ref bk), (1, .int (nI mo)), (2, .int (nI pq))]) hx hb dX0_refresh_72 hl (k := 0) rfl rfl (by decide) rfl (fun ls hl => ?_)
      refine lv_goto (tgt := 61) hx hb dX0_refresh_75 (by decide) ?_
      exact ih _ _ fc2 fn2 u1 u2 u3 u4 u5 u6 cells slots _ _ H locs ls (by omega) (q_dec _) hC2 (cl_step (pl := qS P pq + k) (rs_hz hQ hpl_) hcl (show k < (P.getD pq d4).2.2.1 - (P.getD pq d4).2.1 by omega) hC2) hRc hRs h_pr h_pcs h_pc h_es h_bk h_bop h_cf h_nx h_lf hfr hP hD hS (lv_sub hl (l' := [(3, .int ((nI k) + (-1))), (0, .ref bk), (1, .int (nI mo)), (2, .int (nI pq))]) [0, 1, 2, 3] rfl) kk
set_option maxHeartbeats 1000000 in
set_option maxRecDepth 100000 in
theorem ro_loop {p : Program} {l : Launch} {e : Env} {R : Room} {s : State} {m : MethodId} {args : Array Value} {below : List Frame} {meth : Method} {c : Code} {Q : State → Prop} {D : va_G} {A : Nat → Prop} {z : Nat → Nat} {cB cI_ cO : ClassId} {L0 : List Nat} {g0 : hG} {pr pcs spr nwh cp : Nat} {pa : List Nat} {ea : Nat → Nat} {P : List Q4} {ne : Nat} {EE : Nat → E5} {bk lf bop cf nx : Nat} {y7 y8 y9 y10 : Int32} {fb : Nat → Int32} {M mo : Nat} (hpa60 : pa.length ≤ 60) (hpa : pa.length ≤ 20000) (hQ : pq_ok ne EE P) (hU : pu_ok EE P) (hSb : ∀ i, i ≤ pa.length → qS P i ≤ 8000) (hFb : ∀ i, i ≤ pa.length → fb i = nI (qS P i)) (hMs : qS P pa.length < M) (hM : M ≤ 60000) (hmo1 : 10 ≤ mo) (hmo : mo ≤ 40) (hRf : 10 ≤ R.frames) (hRl : 300 ≤ R.locals) (hA : ∀ q : Nat, s.heap.size ≤ q → A q) (hf : CallFix p m c cX0_refresh 4 s args gT yX0_refresh.cls) (hK : va_K D vcl (dT cB cI_ cO) s) (hZ : zA z A s s.heap) (hN : zB z s) :
    ∀ (k : Nat) (x : Int32) (C : Nat → Option Q4) (fc : Nat → Int32) (fn : Nat → Int32) (x1 : Int32) (x2 : Int32) (x3 : Int32) (x4 : Int32) (x5 : Int32) (x6 : Int32) (cells slots : Nat) (L : List Nat) (g : hG) (H : Heap) (locs : List Loc) (ls : Array Slot), k ≤ pa.length → x = nI k - 1 → cf_tab P pa.length C (qS P k) fc fn → bk_cl (qF P) (qT P) pa.length C (qS P k) → cells ≤ R.cells → slots ≤ R.slots → ho L g pr 13 (.inr (7, [.ref pcs, .ref spr, .ref nwh])) → alR cO (z 0) 14 15 L g pcs cp pa → pcR L g ea pa P → esR cB cI_ L g ea ne EE → ho L g bk 21 (.inr (1, [.ref pr, .ref lf, .ref bop, .int (nI (pa.length)), .int (nI ((qS P pa.length))), .ref cf, .ref nx, .int y7, .int y8, .int y9, .int y10])) → ho L g bop 22 (.inl (cI_, 61, .inl fb)) → ho L g cf 23 (.inl (cI_, M, .inl fc)) → ho L g nx 24 (.inl (cI_, M, .inl fn)) → ho L g lf 20 (.inr (4, [.ref pr, .int x1, .int x2, .int x3, .int x4, .int x5, .int x6])) → fr [20, 23, 24] L0 g0 L g → va_P D vcl (dW L g) H → va_D A (dW L g) → va_S A s.heap H locs → lv_has ls 4 [(2, .int x), (0, .ref bk), (1, .int (nI mo))] →
    (∀ (C2 : Nat → Option Q4) (fc2 : Nat → Int32) (fn2 : Nat → Int32) (x1 : Int32) (x2 : Int32) (x3 : Int32) (x4 : Int32) (x5 : Int32) (x6 : Int32)  (L : List Nat) (g : hG) (H : Heap) (locs : List Loc) (ls : Array Slot), C2 = bk_all (qK EE P) (qF P) (qT P) (qR EE P) pa.length mo k C → cf_tab P pa.length C2 0 fc2 fn2 → bk_cl (qF P) (qT P) pa.length C2 0 → ho L g pr 13 (.inr (7, [.ref pcs, .ref spr, .ref nwh])) → alR cO (z 0) 14 15 L g pcs cp pa → pcR L g ea pa P → esR cB cI_ L g ea ne EE → ho L g bk 21 (.inr (1, [.ref pr, .ref lf, .ref bop, .int (nI (pa.length)), .int (nI ((qS P pa.length))), .ref cf, .ref nx, .int y7, .int y8, .int y9, .int y10])) → ho L g bop 22 (.inl (cI_, 61, .inl fb)) → ho L g cf 23 (.inl (cI_, M, .inl fc2)) → ho L g nx 24 (.inl (cI_, M, .inl fn2)) → ho L g lf 20 (.inr (4, [.ref pr, .int x1, .int x2, .int x3, .int x4, .int x5, .int x6])) → fr [20, 23, 24] L0 g0 L g → va_P D vcl (dW L g) H → va_D A (dW L g) → va_S A s.heap H locs → lv_has ls 4 [(0, .ref bk), (1, .int (nI mo))] → W p l e R s m args below meth c H locs cells slots Q (F0 m 84 ls [])) →
    W p l e R s m args below meth c H locs cells slots Q (F0 m 43 ls []) := by
  obtain ⟨hx, hb, hml, hown, hts⟩ := id hf
  intro k
  induction k with
  | zero =>
    intro x C fc fn x1 x2 x3 x4 x5 x6 cells slots L g H locs ls hk hx_ hC hcl hRc hRs h_pr h_pcs h_pc h_es h_bk h_bop h_cf h_nx h_lf hfr hP hD hS hl kk
    obtain rfl : x = (-1) := hx_.trans (by decide)
    refine lv_iload_n hx hb dX0_refresh_43 rfl (lv_at hl 0 rfl) ?_
    refine lv_if_lt (tgt := 84) hx hb dX0_refresh_44 (by decide) (fun _ => ?_) (fun hno => absurd hno (by decide))
    exact kk C fc fn x1 x2 x3 x4 x5 x6 _ _ H locs ls rfl hC hcl h_pr h_pcs h_pc h_es h_bk h_bop h_cf h_nx h_lf hfr hP hD hS (lv_sub hl (l' := [(0, .ref bk), (1, .int (nI mo))]) [1, 2] rfl)
  | succ k ih =>
    intro x C fc fn x1 x2 x3 x4 x5 x6 cells slots L g H locs ls hk hx_ hC hcl hRc hRs h_pr h_pcs h_pc h_es h_bk h_bop h_cf h_nx h_lf hfr hP hD hS hl kk
    obtain rfl : x = nI k := hx_.trans (nI_pred k)
    refine lv_iload_n hx hb dX0_refresh_43 rfl (lv_at hl 0 rfl) ?_
    refine lv_if_lt (tgt := 84) hx hb dX0_refresh_44 (by decide) (fun c_1 => ?_) (fun c_1 => ?_)
    · have c_1 := q_lt (a := k) (b := 0) (by omega) (by omega) c_1
      exact False.elim (by omega)
    · have c_1 := q_nlt (a := k) (b := 0) (by omega) (by omega) c_1
      refine lv_aload_n hx hb dX0_refresh_47 rfl (lv_at hl 1 rfl) ?_
      refine o_get (D := D) (ci := 1) (v := .ref pr) (C := RX0) (T := TX0) (N := 11) hx hb hts inX0 hown hK hP h_bk rfl 0 (by decide) (hts _ k_348) (fun _ h9 => h9) rfl dX0_refresh_48 ?_
      refine lv_iload_n hx hb dX0_refresh_51 rfl (lv_at hl 0 rfl) ?_
      refine o_crs (k := cells) (n := slots) hK hP hD hS hA (o_rV (As := [.int (nI k)]) (rest := []) hf (p_atI _ _ _ _ _ _ _ _ pr pcs spr nwh cp pa ea P k h_pr h_pcs h_pc hpa (by omega) _) k_775 k_772 k_773 k_774 k_92 (nA := 1) (by decide +kernel) ⟨Nat.le_trans (by decide) hRf, Nat.le_trans (by decide) hRl⟩ hK hP hD hS hA hZ hN h_pr rfl rfl rfl hl.1 rfl (Nat.le_of_ble_eq_true rfl) dX0_refresh_52 ⟨(show cells + 0 ≤ R.cells by omega), (show slots + 0 ≤ R.slots by omega)⟩) (Nat.le_refl _) (Nat.le_refl _) (fun r H locs hw hP hD hS => ?_)
      obtain rfl := hw
      have h_p2 := h_pc.2 k (by omega)
      have hpl_ := h_pc.1
      have hq_p2 := hQ k (by omega)
      have hr_p2 := h_es.rb hq_p2.1
      have hu_p2 := hU k (by omega)
      refine o_get (D := D) (ci := 6) (v := .int (nI ((P.getD k d4).2.2.1))) (C := RX5) (T := TX5) (N := 4) hx hb hts inX5 hown hK hP h_p2 rfl 2 (by decide) (hts _ k_290) (fun _ h9 => h9) rfl dX0_refresh_55 ?_
      refine lv_iconst (v := 1) hx hb dX0_refresh_58 (by decide) ?_
      refine lv_isub hx hb dX0_refresh_59 ?_
      refine lv_istore_n (lv' := [(3, .int ((nI ((P.getD k d4).2.2.1)) - 1)), (2, .int (nI k)), (0, .ref bk), (1, .int (nI mo))]) hx hb dX0_refresh_60 rfl hl (by decide) rfl (fun ls hl => ?_)
      have hpn : k < pa.length := by omega
      have hqs := qS_s P k
      have hpl_ := h_pc.1
      have hupk := hU k (by omega)
      have eT : (P.getD k d4).2.2.1 - (P.getD k d4).2.1 = (P.getD k d4).2.2.1 := by omega
      refine rr_loop (L0 := L0) (g0 := g0) hpa60 hpa hQ hU hSb hFb hMs hM hmo1 hmo hpn (Nat.le_trans (by decide) hRf) (Nat.le_trans (by decide) hRl) hA hf hK hZ hN (P.getD k d4).2.2.1 _ C fc fn x1 x2 x3 x4 x5 x6 cells slots _ _ _ _ ls (by omega) rfl (by rw [show qS P k + (P.getD k d4).2.2.1 = qS P (k + 1) by omega]; exact hC) (by rw [show qS P k + (P.getD k d4).2.2.1 = qS P (k + 1) by omega]; exact hcl) hRc hRs h_pr h_pcs h_pc h_es h_bk h_bop h_cf h_nx h_lf hfr hP hD hS (lv_sub hl (l' := [(3, .int ((nI ((P.getD k d4).2.2.1)) - 1)), (0, .ref bk), (1, .int (nI mo)), (2, .int (nI k))]) [0, 2, 3, 1] rfl) (fun C2 fc2 fn2 u1 u2 u3 u4 u5 u6 L g H locs ls a1 a2 a3 h_pr h_pcs h_pc h_es h_bk h_bop h_cf h_nx h_lf hfr hP hD hS hl => ?_)
      refine lv_iinc (v := ((nI k) + (-1))) (lv' := [(2, .int ((nI k) + (-1))), (0, .ref bk), (1, .int (nI mo))]) hx hb dX0_refresh_78 hl (k := 2) rfl rfl (by decide) rfl (fun ls hl => ?_)
      refine lv_goto (tgt := 43) hx hb dX0_refresh_81 (by decide) ?_
      exact ih _ C2 fc2 fn2 u1 u2 u3 u4 u5 u6 cells slots _ _ H locs ls (by omega) (q_dec _) a2 a3 hRc hRs h_pr h_pcs h_pc h_es h_bk h_bop h_cf h_nx h_lf hfr hP hD hS (lv_sub hl (l' := [(2, .int ((nI k) + (-1))), (0, .ref bk), (1, .int (nI mo))]) [0, 1, 2] rfl) (fun C3 f2 f3 x1 x2 x3 x4 x5 x6 L g H locs ls b1 => kk C3 f2 f3 x1 x2 x3 x4 x5 x6 L g H locs ls (b1.trans (by show bk_all _ _ _ _ _ _ k C2 = bk_all _ _ _ _ _ _ k (bk_row _ _ _ _ _ _ k ((P.getD k d4).2.2.1 - (P.getD k d4).2.1) C); rw [eT, a1])))
set_option maxHeartbeats 1000000 in
set_option maxRecDepth 100000 in
theorem bk_refr (l : Launch) (D : va_G) (z : Nat → Nat) (cB cI_ cO : ClassId) (L0 : List Nat) (g0 : hG) (pr pcs spr nwh cp : Nat) (pa : List Nat) (ea : Nat → Nat) (P : List Q4) (ne : Nat) (EE : Nat → E5) (bk lf bop cf nx bn bs : Nat) (y8 y9 y10 : Int32) (fb : Nat → Int32) (M : Nat) (fc fn : Nat → Int32) (x1 x2 x3 x4 x5 x6 : Int32) (mo : Nat) (h_pr : ho L0 g0 pr 13 (.inr (7, [.ref pcs, .ref spr, .ref nwh]))) (h_pcs : alR cO (z 0) 14 15 L0 g0 pcs cp pa) (h_pc : pcR L0 g0 ea pa P) (h_es : esR cB cI_ L0 g0 ea ne EE) (h_bk : ho L0 g0 bk 21 (.inr (1, [.ref pr, .ref lf, .ref bop, .int (nI bn), .int (nI bs), .ref cf, .ref nx, .int 0, .int y8, .int y9, .int y10]))) (h_bop : ho L0 g0 bop 22 (.inl (cI_, 61, .inl fb))) (h_cf : ho L0 g0 cf 23 (.inl (cI_, M, .inl fc))) (h_nx : ho L0 g0 nx 24 (.inl (cI_, M, .inl fn))) (h_lf : ho L0 g0 lf 20 (.inr (4, [.ref pr, .int x1, .int x2, .int x3, .int x4, .int x5, .int x6]))) (hpa60 : pa.length ≤ 60) (hpa : pa.length ≤ 20000) (hQ : pq_ok ne EE P) (hU : pu_ok EE P) (hSb : ∀ i, i ≤ pa.length → qS P i ≤ 8000) (hM : M ≤ 60000) (hM1 : 1 ≤ M) (hmo1 : 10 ≤ mo) (hmo : mo ≤ 40) : eV l D yX0_refresh cX0_refresh 4 none 10 300 2 (4 * qS P pa.length) [.ref bk, .int (nI mo)] z cB cI_ cO L0 g0 (fun L g => ∃ (c2 n2 M2 cn : Nat) (fb2 fc2 fn2 : Nat → Int32) (C2 : Nat → Option Q4) (u1 u2 u3 u4 u5 u6 : Int32), C2 = bk_all (qK EE P) (qF P) (qT P) (qR EE P) pa.length mo pa.length (fun _ => none) ∧ cn = (bk_pg (qF P) (qT P) pa.length C2 8000 0 0).length ∧ cf_tab P pa.length C2 0 fc2 fn2 ∧ bk_cl (qF P) (qT P) pa.length C2 0 ∧ (∀ j, j ≤ pa.length → fb2 j = nI (qS P j)) ∧ qS P pa.length < M2 ∧ M2 ≤ 60000 ∧ fr [20, 21, 22, 23, 24] L0 g0 L g ∧ ho L g bk 21 (.inr (1, [.ref pr, .ref lf, .ref bop, .int (nI (pa.length)), .int (nI ((qS P pa.length))), .ref c2, .ref n2, .int 1, .int (nI cn), .int y9, .int y10])) ∧ ho L g bop 22 (.inl (cI_, 61, .inl fb2)) ∧ ho L g c2 23 (.inl (cI_, M2, .inl fc2)) ∧ ho L g n2 24 (.inl (cI_, M2, .inl fn2)) ∧ ho L g lf 20 (.inr (4, [.ref pr, .int u1, .int u2, .int u3, .int u4, .int u5, .int u6]))) := by
  refine o_sv (by decide) (Nat.le_of_ble_eq_true rfl) ?_
  intro p e s m below meth c A ls hf hr hlocks hin hK hP hD hS hA hZ hN hl
  obtain ⟨hx, hb, hml, hown, hts⟩ := id hf
  have hl : lv_has ls 4 [(0, .ref bk), (1, .int (nI mo))] := hl
  have hpl_ := h_pc.1
  have hSn := hSb pa.length (Nat.le_refl _)
  have hfr : fr [20, 21, 22, 23, 24] L0 g0 L0 g0 := fr.rf
  refine lv_aload_n hx hb dX0_refresh_0 rfl (lv_at hl 0 rfl) ?_
  refine o_get (D := D) (ci := 1) (v := .int 0) (C := RX0) (T := TX0) (N := 11) hx hb hts inX0 hown hK hP h_bk rfl 7 (by decide) (hts _ k_355) (fun _ h9 => h9) rfl dX0_refresh_1 ?_
  refine lv_if_eq (tgt := 8) hx hb dX0_refresh_4 (by decide) (fun _ => ?_) (fun hno => absurd hno (by decide))
  refine lv_aload_n hx hb dX0_refresh_8 rfl (lv_at hl 0 rfl) ?_
  refine o_cv (k := 0) (n := 0) hK hP hD hS hA (o_rV (As := []) (rest := []) hf (bk_num _ _ _ _ _ _ _ _ pr pcs spr nwh cp pa ea P ne EE bk lf bop cf nx bn bs 0 y8 y9 y10 fb h_pr h_pcs h_pc h_es h_bk h_bop hpa60 hpa hQ hU hSb _) k_769 k_766 k_768 k_24 k_95 (nA := 0) (by decide +kernel) ⟨Nat.le_of_ble_eq_true rfl, Nat.le_of_ble_eq_true rfl⟩ hK hP hD hS hA hZ hN h_bk rfl rfl rfl hl.1 rfl (Nat.le_of_ble_eq_true rfl) dX0_refresh_9 ⟨(show 0 + 0 ≤ 2 by omega), (show 0 + 0 ≤ 4 * qS P pa.length by omega)⟩) (Nat.le_refl _) (Nat.le_refl _) (fun L g H locs hw hP hD hS => ?_)
  obtain ⟨fb2, hFb, hf9, h_bk, h_bop⟩ := hw
  have h_pr := h_pr.fr hf9 (by decide)
  have h_cf := h_cf.fr hf9 (by decide)
  have h_nx := h_nx.fr hf9 (by decide)
  have h_lf := h_lf.fr hf9 (by decide)
  have hfr := hfr.tm hf9 (by decide)
  have h_pcs := h_pcs.frd hf9 (by decide)
  have h_pc := h_pc.frd hf9 (by decide)
  have h_es := h_es.frd hf9 (by decide)
  refine lv_aload_n hx hb dX0_refresh_12 rfl (lv_at hl 0 rfl) ?_
  refine o_cv (k := 0 + 2) (n := 0 + (4 * ((qS P pa.length)))) hK hP hD hS hA (o_rV (As := []) (rest := []) hf (bk_room _ _ _ _ _ _ _ _ pr bk lf bop cf nx (pa.length) ((qS P pa.length)) 0 y8 y9 y10 M fc fn h_bk h_cf h_nx hM (by omega) (by omega) _) k_779 k_776 k_778 k_25 k_95 (nA := 0) (by decide +kernel) ⟨Nat.le_of_ble_eq_true rfl, Nat.le_of_ble_eq_true rfl⟩ hK hP hD hS hA hZ hN h_bk rfl rfl rfl hl.1 rfl (Nat.le_of_ble_eq_true rfl) dX0_refresh_13 ⟨(show 0 + 2 ≤ 2 by omega), (show 0 + (4 * ((qS P pa.length))) ≤ 4 * qS P pa.length by omega)⟩) (by omega) (by omega) (fun L g H locs hw hP hD hS => ?_)
  obtain ⟨c2, n2, M2, f1, f2, hMs, hM2, hf9, h_bk, h_cf, h_nx⟩ := hw
  have h_pr := h_pr.fr hf9 (by decide)
  have h_lf := h_lf.fr hf9 (by decide)
  have h_bop := h_bop.fr hf9 (by decide)
  have hfr := hfr.tm hf9 (by decide)
  have h_pcs := h_pcs.frd hf9 (by decide)
  have h_pc := h_pc.frd hf9 (by decide)
  have h_es := h_es.frd hf9 (by decide)
  refine lv_aload_n hx hb dX0_refresh_16 rfl (lv_at hl 0 rfl) ?_
  refine o_get (D := D) (ci := 1) (v := .ref c2) (C := RX0) (T := TX0) (N := 11) hx hb hts inX0 hown hK hP h_bk rfl 5 (by decide) (hts _ k_353) (fun _ h9 => h9) rfl dX0_refresh_17 ?_
  refine lv_aload_n hx hb dX0_refresh_20 rfl (lv_at hl 0 rfl) ?_
  refine o_get (D := D) (ci := 1) (v := .int (nI ((qS P pa.length)))) (C := RX0) (T := TX0) (N := 11) hx hb hts inX0 hown hK hP h_bk rfl 4 (by decide) (hts _ k_352) (fun _ h9 => h9) rfl dX0_refresh_21 ?_
  refine lv_iconst (v := 0) hx hb dX0_refresh_24 (by decide) ?_
  refine o_ist (X := (qS P pa.length)) (x := 0) hx hb hK hP hD hS h_cf (by omega) (by omega) dX0_refresh_25 (fun g H locs h_cf hu hP hD hS => ?_)
  have h_pr := h_pr.up hu (by decide)
  have h_lf := h_lf.up hu (by decide)
  have h_bop := h_bop.up hu (by decide)
  have h_bk := h_bk.up hu (by decide)
  have h_nx := h_nx.up hu (by decide)
  have hfr := hfr.up hu (by decide)
  have h_pcs := h_pcs.frd hu.fr (by decide)
  have h_pc := h_pc.frd hu.fr (by decide)
  have h_es := h_es.frd hu.fr (by decide)
  refine lv_aload_n hx hb dX0_refresh_26 rfl (lv_at hl 0 rfl) ?_
  refine o_get (D := D) (ci := 1) (v := .ref n2) (C := RX0) (T := TX0) (N := 11) hx hb hts inX0 hown hK hP h_bk rfl 6 (by decide) (hts _ k_354) (fun _ h9 => h9) rfl dX0_refresh_27 ?_
  refine lv_aload_n hx hb dX0_refresh_30 rfl (lv_at hl 0 rfl) ?_
  refine o_get (D := D) (ci := 1) (v := .int (nI ((qS P pa.length)))) (C := RX0) (T := TX0) (N := 11) hx hb hts inX0 hown hK hP h_bk rfl 4 (by decide) (hts _ k_352) (fun _ h9 => h9) rfl dX0_refresh_31 ?_
  refine lv_iconst (v := (-1)) hx hb dX0_refresh_34 (by decide) ?_
  refine o_ist (X := (qS P pa.length)) (x := (-1)) hx hb hK hP hD hS h_nx (by omega) (by omega) dX0_refresh_35 (fun g H locs h_nx hu hP hD hS => ?_)
  have h_pr := h_pr.up hu (by decide)
  have h_lf := h_lf.up hu (by decide)
  have h_bop := h_bop.up hu (by decide)
  have h_bk := h_bk.up hu (by decide)
  have h_cf := h_cf.up hu (by decide)
  have hfr := hfr.up hu (by decide)
  have h_pcs := h_pcs.frd hu.fr (by decide)
  have h_pc := h_pc.frd hu.fr (by decide)
  have h_es := h_es.frd hu.fr (by decide)
  refine lv_aload_n hx hb dX0_refresh_36 rfl (lv_at hl 0 rfl) ?_
  refine o_get (D := D) (ci := 1) (v := .int (nI (pa.length))) (C := RX0) (T := TX0) (N := 11) hx hb hts inX0 hown hK hP h_bk rfl 3 (by decide) (hts _ k_351) (fun _ h9 => h9) rfl dX0_refresh_37 ?_
  refine lv_iconst (v := 1) hx hb dX0_refresh_40 (by decide) ?_
  refine lv_isub hx hb dX0_refresh_41 ?_
  refine lv_istore_n (lv' := [(2, .int ((nI (pa.length)) - 1)), (0, .ref bk), (1, .int (nI mo))]) hx hb dX0_refresh_42 rfl hl (by decide) rfl (fun ls hl => ?_)
  have hC0 : cf_tab P pa.length (fun _ => none) (qS P pa.length) (upd f1 (qS P pa.length) 0) (upd f2 (qS P pa.length) (-1)) := ⟨fun j h1 h2 => absurd h2 (by omega), pk_us, pk_us⟩
  have hcl0 : bk_cl (qF P) (qT P) pa.length (fun _ => none) (qS P pa.length) := fun j y h1 h2 _ => absurd (show j < qS P pa.length from h2) (by omega)
  refine ro_loop (L0 := _) (g0 := _) hpa60 hpa hQ hU hSb hFb hMs hM2 hmo1 hmo (Nat.le_of_ble_eq_true rfl) (Nat.le_of_ble_eq_true rfl) hA hf hK hZ hN pa.length _ (fun _ => none) _ _ x1 x2 x3 x4 x5 x6 _ _ _ _ _ _ ls (Nat.le_refl _) rfl hC0 hcl0 (show 0 + 2 ≤ 2 by omega) (show 0 + 4 * qS P pa.length ≤ 4 * qS P pa.length by omega) h_pr h_pcs h_pc h_es h_bk h_bop h_cf h_nx h_lf fr.rf hP hD hS (lv_sub hl (l' := [(2, .int ((nI (pa.length)) - 1)), (0, .ref bk), (1, .int (nI mo))]) [0, 1, 2] rfl) (fun C2 fc2 fn2 u1 u2 u3 u4 u5 u6 L g H locs ls a1 a2 a3 h_pr h_pcs h_pc h_es h_bk h_bop h_cf h_nx h_lf hf9 hP hD hS hl => ?_)
  have hfr := hfr.tm hf9 (by decide)
  refine lv_aload_n hx hb dX0_refresh_84 rfl (lv_at hl 0 rfl) ?_
  refine o_cv (k := 0 + 2) (n := 0 + (4 * ((qS P pa.length)))) hK hP hD hS hA (o_rV (As := []) (rest := []) hf (bk_cnt _ _ _ _ _ _ _ _ pr pa P bk lf bop c2 n2 0 y8 y9 y10 M2 fc2 fn2 C2 h_bk h_cf h_nx (rs_hz hQ hpl_) hSn hMs hM2 a2 a3 _) k_854 k_851 k_853 k_29 k_95 (nA := 0) (by decide +kernel) ⟨Nat.le_of_ble_eq_true rfl, Nat.le_of_ble_eq_true rfl⟩ hK hP hD hS hA hZ hN h_bk rfl rfl rfl hl.1 rfl (Nat.le_of_ble_eq_true rfl) dX0_refresh_85 ⟨(show 0 + 2 + 0 ≤ 2 by omega), (show 0 + (4 * ((qS P pa.length))) + 0 ≤ 4 * qS P pa.length by omega)⟩) (Nat.le_refl _) (Nat.le_refl _) (fun L g H locs hw hP hD hS => ?_)
  obtain ⟨cn, ecn, hf9, h_bk, _, _⟩ := hw
  have h_pr := h_pr.fr hf9 (by decide)
  have h_lf := h_lf.fr hf9 (by decide)
  have h_bop := h_bop.fr hf9 (by decide)
  have h_cf := h_cf.fr hf9 (by decide)
  have h_nx := h_nx.fr hf9 (by decide)
  have hfr := hfr.tm hf9 (by decide)
  have h_pcs := h_pcs.frd hf9 (by decide)
  have h_pc := h_pc.frd hf9 (by decide)
  have h_es := h_es.frd hf9 (by decide)
  refine lv_aload_n hx hb dX0_refresh_88 rfl (lv_at hl 0 rfl) ?_
  refine lv_iconst (v := 1) hx hb dX0_refresh_89 (by decide) ?_
  refine o_put (D := D) (ci := 1) (v := .int 1) (ty := .boolean) (C := RX0) (T := TX0) (N := 11) (fs1 := [.ref pr, .ref lf, .ref bop, .int (nI (pa.length)), .int (nI ((qS P pa.length))), .ref c2, .ref n2, .int 1, .int (nI cn), .int y9, .int y10]) hx hb hts inX0 tyX0 tyX0_ok nmX0 hown hK hP hD hS h_bk rfl 7 (by decide) (hts _ k_355) (fun _ h9 => h9) rfl (by decide +kernel) rfl rfl (Nat.le_of_ble_eq_true rfl) rfl dX0_refresh_90 (fun g H locs h_bk hu hP hD hS => ?_)
  have h_pr := h_pr.up hu (by decide)
  have h_lf := h_lf.up hu (by decide)
  have h_bop := h_bop.up hu (by decide)
  have h_cf := h_cf.up hu (by decide)
  have h_nx := h_nx.up hu (by decide)
  have hfr := hfr.up hu (by decide)
  have h_pcs := h_pcs.frd hu.fr (by decide)
  have h_pc := h_pc.frd hu.fr (by decide)
  have h_es := h_es.frd hu.fr (by decide)
  exact o_rv hf hr hlocks hK hP hD hS (show 0 + 2 ≤ 2 by omega) (show 0 + (4 * ((qS P pa.length))) ≤ 4 * qS P pa.length by omega) ⟨c2, n2, M2, cn, fb2, fc2, fn2, C2, u1, u2, u3, u4, u5, u6, a1, ecn, a2, a3, hFb, hMs, hM2, hfr, h_bk, h_bop, h_cf, h_nx, h_lf⟩ dX0_refresh_93
set_option maxHeartbeats 1000000 in
set_option maxRecDepth 100000 in
theorem bk_refK (l : Launch) (D : va_G) (z : Nat → Nat) (cB cI_ cO : ClassId) (L0 : List Nat) (g0 : hG) (pr : Nat) (bk lf bop cf nx : Nat) (bn bs : Nat) (y8 y9 y10 : Int32) (mo : Nat) (h_bk : ho L0 g0 bk 21 (.inr (1, [.ref pr, .ref lf, .ref bop, .int (nI bn), .int (nI bs), .ref cf, .ref nx, .int 1, .int y8, .int y9, .int y10])))  : eVs l D yX0_refresh cX0_refresh 4 none 0 0 0 0 [.ref bk, .int (nI mo)] z cB cI_ cO L0 g0 (True) := by
  refine o_sv (by decide) (Nat.le_of_ble_eq_true rfl) ?_
  intro p e s m below meth c A ls hf hr hlocks hin hK hP hD hS hA hZ hN hl
  obtain ⟨hx, hb, hml, hown, hts⟩ := id hf
  have hl : lv_has ls 4 [(0, .ref bk), (1, .int (nI mo))] := hl
  refine lv_aload_n hx hb dX0_refresh_0 rfl (lv_at hl 0 rfl) ?_
  refine o_get (D := D) (ci := 1) (v := .int 1) (C := RX0) (T := TX0) (N := 11) hx hb hts inX0 hown hK hP h_bk rfl 7 (by decide) (hts _ k_355) (fun _ h9 => h9) rfl dX0_refresh_1 ?_
  refine lv_if_eq (tgt := 8) hx hb dX0_refresh_4 (by decide) (fun hno => absurd hno (by decide)) (fun _ => ?_)
  exact o_rv hf hr hlocks hK hP hD hS (show 0 ≤ 0 by omega) (show 0 ≤ 0 by omega) ⟨trivial, rfl, rfl⟩ dX0_refresh_7
