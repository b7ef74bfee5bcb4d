noncomputable def pgl (EE : Nat → E5) (P : List Q4) (n mo : Nat) : List (Nat × Nat × Nat) := bk_pg (qF P) (qT P) n (bk_all (qK EE P) (qF P) (qT P) (qR EE P) n mo n (fun _ => none)) 8000 0 0
theorem k_32 : (Cond.selects RX9 yX9_addPiecesOfPage yX9_addPiecesOfPage) ∈ gT := gT_i 32 (by decide +kernel) rfl
theorem k_920 : (Cond.methodLink RX9 188 yX9_addPiecesOfPage) ∈ gT := gT_i 920 (by decide +kernel) rfl
theorem k_922 : (Cond.instanceMethod yX9_addPiecesOfPage) ∈ gT := gT_i 922 (by decide +kernel) rfl
theorem k_923 : (Cond.code yX9_addPiecesOfPage cX9_addPiecesOfPage 8 none) ∈ gT := gT_i 923 (by decide +kernel) rfl
theorem dX9_lock_43 : decode cX9_lock 43 = .ok (.iload_n 1, 1) := by decide +kernel
theorem dX9_lock_44 : decode cX9_lock 44 = .ok (.aload_n 0, 1) := by decide +kernel
theorem dX9_lock_45 : decode cX9_lock 45 = .ok (.getfield 63, 3) := by decide +kernel
theorem dX9_lock_48 : decode cX9_lock 48 = .ok (.invokevirtual 156, 3) := by decide +kernel
theorem dX9_lock_51 : decode cX9_lock 51 = .ok (.if_icmp .ge 24, 3) := by decide +kernel
theorem dX9_lock_54 : decode cX9_lock 54 = .ok (.aload_n 0, 1) := by decide +kernel
theorem dX9_lock_55 : decode cX9_lock 55 = .ok (.getfield 63, 3) := by decide +kernel
theorem dX9_lock_58 : decode cX9_lock 58 = .ok (.iload_n 1, 1) := by decide +kernel
theorem dX9_lock_59 : decode cX9_lock 59 = .ok (.invokevirtual 162, 3) := by decide +kernel
theorem dX9_lock_62 : decode cX9_lock 62 = .ok (.aload_n 0, 1) := by decide +kernel
theorem dX9_lock_63 : decode cX9_lock 63 = .ok (.iload_n 1, 1) := by decide +kernel
theorem dX9_lock_64 : decode cX9_lock 64 = .ok (.iconst 1, 1) := by decide +kernel
theorem dX9_lock_65 : decode cX9_lock 65 = .ok (.iadd, 1) := by decide +kernel
theorem dX9_lock_66 : decode cX9_lock 66 = .ok (.invokevirtual 188, 3) := by decide +kernel
theorem dX9_lock_69 : decode cX9_lock 69 = .ok (.iinc 1 1, 3) := by decide +kernel
theorem dX9_lock_72 : decode cX9_lock 72 = .ok (.goto (-29), 3) := by decide +kernel
set_option maxHeartbeats 4000000 in
set_option maxRecDepth 100000 in
theorem lk_loop {p : Program} {l : Launch} {e : Env} {R : Room} {s : State} {m : MethodId} {args : Array Value} {below : List Frame} {meth : Method} {c : Code} {Q : State → Prop} {D : va_G} {A : Nat → Prop} {z : Nat → Nat} {cB cI_ cO : ClassId} {L0 : List Nat} {g0 : hG} {dk tp rd els reo nob pr bk gl sl mo pcs spr nwh cs cap lf bop cf nx cn M B cE sE SN ne : Nat} {v11 : Int32} {xs pa : List Nat} {P : List Q4} {Es : List E5} {EE : Nat → E5} {fb fc fn : Nat → Int32} {C : Nat → Option Q4} {Bp Br : Nat → Nat} (hxl : xs.length ≤ 60) (hplx : pa.length = xs.length) (hpa60 : pa.length ≤ 60) (hplu : pa.length = P.length) (hQ : pq_ok ne EE P) (hFb : ∀ i, i ≤ pa.length → fb i = nI (qS P i)) (hSb : ∀ i, i ≤ pa.length → qS P i ≤ 8000) (hPU : ∀ i, i < pa.length → (P.getD i d4).2.1 = 0 ∧ (P.getD i d4).2.2.1 = eRw (Es.getD i dE)) (hz0 : ∀ i, i < pa.length → 0 < (P.getD i d4).2.2.1 - (P.getD i d4).2.1) (hSN : SN ≤ 10000) (hB : 100 ≤ B) (hB2 : B ≤ 60000) (hBs2 : 3 * SN ≤ 2 * B) (hSNq : qS P pa.length ≤ SN) (hMs : qS P pa.length < M) (hM : M ≤ 60000) (hC : cf_tab P pa.length C 0 fc fn) (hcl : bk_cl (qF P) (qT P) pa.length C 0) (ecn : cn = (bk_pg (qF P) (qT P) pa.length C 8000 0 0).length) (hcn : cn ≤ 8000) (hnext : ∀ pg pq rr t y, pg < cn → (bk_pg (qF P) (qT P) pa.length C 8000 0 0).getD pg (0, 0, 0) = (pq, rr, t) → C (qS P pq + rr) = some y → Bp pg = pq ∧ Br pg = rr ∧ Bp (pg + 1) = y.2.1 ∧ Br (pg + 1) = y.2.2.1) (hcE : cE ≤ R.cells) (hsE : sE ≤ R.slots) (hRf : 9 ≤ R.frames) (hRl : 230 ≤ R.locals) (hA : ∀ q : Nat, s.heap.size ≤ q → A q) (hf : CallFix p m c cX9_lock 2 s args gT yX9_lock.cls) (hK : va_K D vcl (dT cB cI_ cO) s) (hZ : zA z A s s.heap) (hN : zB z s) :
    ∀ (k : Nat) (i : Nat) (qa : List Nat) (sa : List Nat) (QP : List Q4) (cp : Nat) (y9 : Int32) (y10 : Int32) (cells slots : Nat) (L : List Nat) (g : hG) (H : Heap) (locs : List Loc) (ls : Array Slot), i + k = cn → QP = lk_cls (qF P) (qT P) Bp Br i → (qa ++ sa).Nodup → qa.length + sa.length ≤ SN → cp ≤ B → (i < cn → qa.length ≤ qS P (Bp i) + Br i) → qa.length ≤ qS P pa.length → cells + ((SN - (qa.length + sa.length)) + (B - cp) / 5) ≤ cE → slots + (4 * (SN - (qa.length + sa.length)) + 4 * (B - cp)) ≤ sE → ho L g dk 1 (.inr (10, [.ref tp, .ref rd, .ref els, .ref reo, .ref nob, .ref pr, .ref bk, .ref gl, .ref sl, .int (nI mo), .int 0, .int v11])) → ho L g pr 13 (.inr (7, [.ref pcs, .ref spr, .ref nwh])) → alR cO (z 0) 14 15 L g pcs cp qa → alR cO (z 0) 16 17 L g spr cs sa → pcR L g (fun e => xs.getD e 0) qa QP → spR L g sa → alR cO (z 0) 5 6 L g els cap xs → elsR cB cI_ L g xs Es → ho L g bk 21 (.inr (1, [.ref pr, .ref lf, .ref bop, .int (nI (pa.length)), .int (nI ((qS P pa.length))), .ref cf, .ref nx, .int 1, .int (nI cn), .int y9, .int y10])) → ho L g bop 22 (.inl (cI_, 61, .inl fb)) → ho L g nx 24 (.inl (cI_, M, .inl fn)) → fr [14, 15, 16, 17, 18, 21] L0 g0 L g → va_P D vcl (dW L g) H → va_D A (dW L g) → va_S A s.heap H locs → lv_has ls 2 [(1, .int (nI i)), (0, .ref dk)] →
    (∀ (qa2 : List Nat) (sa2 : List Nat) (QP2 : List Q4) (cp2 : Nat) (y9 : Int32) (y10 : Int32)  (L : List Nat) (g : hG) (H : Heap) (locs : List Loc) (ls : Array Slot), QP2 = lk_cls (qF P) (qT P) Bp Br cn → (qa2 ++ sa2).Nodup → qa2.length + sa2.length ≤ SN ∧ cp2 ≤ B ∧ qa2.length ≤ qS P pa.length → ho L g dk 1 (.inr (10, [.ref tp, .ref rd, .ref els, .ref reo, .ref nob, .ref pr, .ref bk, .ref gl, .ref sl, .int (nI mo), .int 0, .int v11])) → ho L g pr 13 (.inr (7, [.ref pcs, .ref spr, .ref nwh])) → alR cO (z 0) 14 15 L g pcs cp2 qa2 → alR cO (z 0) 16 17 L g spr cs sa2 → pcR L g (fun e => xs.getD e 0) qa2 QP2 → spR L g sa2 → alR cO (z 0) 5 6 L g els cap xs → elsR cB cI_ L g xs Es → ho L g bk 21 (.inr (1, [.ref pr, .ref lf, .ref bop, .int (nI (pa.length)), .int (nI ((qS P pa.length))), .ref cf, .ref nx, .int 1, .int (nI cn), .int y9, .int y10])) → ho L g bop 22 (.inl (cI_, 61, .inl fb)) → ho L g nx 24 (.inl (cI_, M, .inl fn)) → fr [14, 15, 16, 17, 18, 21] L0 g0 L g → va_P D vcl (dW L g) H → va_D A (dW L g) → va_S A s.heap H locs → lv_has ls 2 [(0, .ref dk)] → W p l e R s m args below meth c H locs cE sE Q (F0 m 75 ls [])) →
    W p l e R s m args below meth c H locs cells slots Q (F0 m 43 ls []) := by
  obtain ⟨hx, hb, hml, hown, hts⟩ := id hf
  intro k
  induction k with
  | zero =>
    intro i qa sa QP cp y9 y10 cells slots L g H locs ls hik hQP hnd hsl hcpB hmd hle hRc hRs h_dk h_pr h_pcs h_spr h_pc h_sp h_els h_es h_bk h_bop h_nx hfr hP hD hS hl kk
    refine lv_iload_n hx hb dX9_lock_43 rfl (lv_at hl 0 rfl) ?_
    refine lv_aload_n hx hb dX9_lock_44 rfl (lv_at hl 1 rfl) ?_
    refine o_get (D := D) (ci := 10) (v := .ref bk) (C := RX9) (T := TX9) (N := 12) hx hb hts inX9 hown hK hP h_dk rfl 6 (by decide) (hts _ k_435) (fun _ h9 => h9) rfl dX9_lock_45 ?_
    refine o_cis (k := cells) (n := slots) hK hP hD hS hA (o_rV (As := []) (rest := [.int (nI i)]) hf (bk_pc _ _ _ _ _ _ _ _ pr bk lf bop cf nx pa.length (qS P pa.length) 1 y9 y10 cn h_bk _) k_862 k_859 k_860 k_861 k_95 (nA := 0) (by decide +kernel) ⟨Nat.le_trans (by decide) hRf, Nat.le_trans (by decide) hRl⟩ hK hP hD hS hA hZ hN h_bk rfl rfl rfl hl.1 rfl (Nat.le_of_ble_eq_true rfl) dX9_lock_48 ⟨(show cells + 0 ≤ R.cells by omega), (show slots + 0 ≤ R.slots by omega)⟩) (Nat.le_refl _) (Nat.le_refl _) (fun r H locs hw hP hD hS => ?_)
    obtain rfl := hw
    refine lv_icmp_ge (tgt := 75) hx hb dX9_lock_51 (by decide) (fun c_1 => ?_) (fun c_1 => ?_)
    · have c_1 := q_le (a := cn) (b := i) (by omega) (by omega) c_1
      obtain rfl : i = cn := by omega
      refine W.widen (k := cE) (n := sE) (by omega) (by omega) ?_
      exact kk qa sa QP cp _ _ _ _ H locs ls hQP hnd ⟨hsl, hcpB, hle⟩ h_dk h_pr h_pcs h_spr h_pc h_sp h_els h_es h_bk h_bop h_nx hfr hP hD hS (lv_sub hl (l' := [(0, .ref dk)]) [1] rfl)
    · have c_1 := q_nle (a := cn) (b := i) (by omega) (by omega) c_1
      exact False.elim (by omega)
  | succ k ih =>
    intro i qa sa QP cp y9 y10 cells slots L g H locs ls hik hQP hnd hsl hcpB hmd hle hRc hRs h_dk h_pr h_pcs h_spr h_pc h_sp h_els h_es h_bk h_bop h_nx hfr hP hD hS hl kk
    refine lv_iload_n hx hb dX9_lock_43 rfl (lv_at hl 0 rfl) ?_
    refine lv_aload_n hx hb dX9_lock_44 rfl (lv_at hl 1 rfl) ?_
    refine o_get (D := D) (ci := 10) (v := .ref bk) (C := RX9) (T := TX9) (N := 12) hx hb hts inX9 hown hK hP h_dk rfl 6 (by decide) (hts _ k_435) (fun _ h9 => h9) rfl dX9_lock_45 ?_
    refine o_cis (k := cells) (n := slots) hK hP hD hS hA (o_rV (As := []) (rest := [.int (nI i)]) hf (bk_pc _ _ _ _ _ _ _ _ pr bk lf bop cf nx pa.length (qS P pa.length) 1 y9 y10 cn h_bk _) k_862 k_859 k_860 k_861 k_95 (nA := 0) (by decide +kernel) ⟨Nat.le_trans (by decide) hRf, Nat.le_trans (by decide) hRl⟩ hK hP hD hS hA hZ hN h_bk rfl rfl rfl hl.1 rfl (Nat.le_of_ble_eq_true rfl) dX9_lock_48 ⟨(show cells + 0 ≤ R.cells by omega), (show slots + 0 ≤ R.slots by omega)⟩) (Nat.le_refl _) (Nat.le_refl _) (fun r H locs hw hP hD hS => ?_)
    obtain rfl := hw
    refine lv_icmp_ge (tgt := 75) hx hb dX9_lock_51 (by decide) (fun c_1 => ?_) (fun c_1 => ?_)
    · have c_1 := q_le (a := cn) (b := i) (by omega) (by omega) c_1
      exact False.elim (by omega)
    · have c_1 := q_nle (a := cn) (b := i) (by omega) (by omega) c_1
      have hSn9 := hSb pa.length (Nat.le_refl _)
      have hpcl := h_pc.1
      refine lv_aload_n hx hb dX9_lock_54 rfl (lv_at hl 1 rfl) ?_
      refine o_get (D := D) (ci := 10) (v := .ref bk) (C := RX9) (T := TX9) (N := 12) hx hb hts inX9 hown hK hP h_dk rfl 6 (by decide) (hts _ k_435) (fun _ h9 => h9) rfl dX9_lock_55 ?_
      refine lv_iload_n hx hb dX9_lock_58 rfl (lv_at hl 0 rfl) ?_
      refine o_cv (k := cells) (n := slots) hK hP hD hS hA (o_rV (As := [.int (nI i)]) (rest := []) hf (bk_turn _ _ _ _ _ _ _ _ pr pa P bk lf bop cf nx 1 y9 y10 M fc fn C cn i h_bk h_nx (rs_hz hQ hplu) hSn9 hMs hM hC hcl ecn (by omega) hcn _) k_878 k_875 k_876 k_877 k_95 (nA := 1) (by decide +kernel) ⟨Nat.le_trans (by decide) hRf, Nat.le_trans (by decide) hRl⟩ hK hP hD hS hA hZ hN h_bk rfl rfl rfl hl.1 rfl (Nat.le_of_ble_eq_true rfl) dX9_lock_59 ⟨(show cells + 0 ≤ R.cells by omega), (show slots + 0 ≤ R.slots by omega)⟩) (Nat.le_refl _) (Nat.le_refl _) (fun L g H locs hw hP hD hS => ?_)
      obtain ⟨pq, rr, f_, y, hgd, hdrp, hpn, hrr, hyC, hpgat, hlt9, hle9, hf9, h_bk⟩ := hw
      have h_dk := h_dk.fr hf9 (by decide)
      have h_pr := h_pr.fr hf9 (by decide)
      have h_bop := h_bop.fr hf9 (by decide)
      have h_nx := h_nx.fr hf9 (by decide)
      have hfr := hfr.tm hf9 (by decide)
      have h_pcs := h_pcs.frd hf9 (by decide)
      have h_spr := h_spr.frd hf9 (by decide)
      have h_pc := h_pc.frd hf9 (by decide)
      have h_sp := h_sp.frd hf9 (by decide)
      have h_els := h_els.frd hf9 (by decide)
      have h_es := h_es.frd hf9 (by decide)
      have hrr : rr < (P.getD pq d4).2.2.1 - (P.getD pq d4).2.1 := hrr
      obtain ⟨pe, re, hpen, hre, eY, hrel⟩ := pg_end (rs_hz hQ hplu) hpgat hlt9
      rw [eY] at h_bk hlt9 hle9
      refine lv_aload_n hx hb dX9_lock_62 rfl (lv_at hl 1 rfl) ?_
      refine lv_iload_n hx hb dX9_lock_63 rfl (lv_at hl 0 rfl) ?_
      refine lv_iconst (v := 1) hx hb dX9_lock_64 (by decide) ?_
      refine lv_iadd hx hb dX9_lock_65 ?_
      refine q_seti (y := nI (i + 1)) (nI_addE (a := i) (b := 1) (by omega)) ?_
      have hnx := hnext i pq rr _ y (by omega) hgd hyC
      have hrel2 : (0 < y.2.2.1 ∧ pe = y.2.1) ∨ (y.2.2.1 = 0 ∧ pe + 1 = y.2.1) := by omega
      have hlkn := lk_page_n (Fm := qF P) (To := qT P) (p0 := pq) (r0 := rr) (g := i + 1) hrel2 8001 pq
      have hqA := qS_s P pq
      have hqB := qS_s P pe
      have hqC := qS_m P (show pe + 1 ≤ pa.length by omega)
      have hqD : pq < pe → qS P (pq + 1) + (pe - (pq + 1)) ≤ qS P pe := fun h9 => by have h8 := qS_lin (i := pq + 1) hz0 (pe - (pq + 1)) (by omega); rw [show pq + 1 + (pe - (pq + 1)) = pe by omega] at h8; exact h8
      have hqE : pe < pq → qS P (pe + 1) ≤ qS P pq := fun h9 => qS_m P (show pe + 1 ≤ pq by omega)
      have hmid := hmd (by omega)
      rw [hnx.1, hnx.2.1] at hmid
      have hqF : qa.length + (lk_page (qF P) (qT P) pq rr y.2.1 y.2.2.1 (i + 1) 8001 pq).length ≤ qS P pe + re + 1 := by omega
      have hab := h_pcs.b
      have hcx := cpx_le (B := B) (lk_page (qF P) (qT P) pq rr y.2.1 y.2.2.1 (i + 1) 8001 pq).length qa.length cp hab.1 hab.2.2 (by omega) hcpB hB
      have hcg := cpx_ge (lk_page (qF P) (qT P) pq rr y.2.1 y.2.2.1 (i + 1) 8001 pq).length qa.length cp
      obtain ⟨Bc, eBc⟩ : ∃ x, x = cpx (lk_page (qF P) (qT P) pq rr y.2.1 y.2.2.1 (i + 1) 8001 pq).length qa.length cp := ⟨_, rfl⟩
      rw [← eBc] at hcx hcg
      refine o_cv (k := cells + (((lk_page (qF P) (qT P) pq rr y.2.1 y.2.2.1 (i + 1) 8001 pq).length - sa.length) + (Bc - cp) / 5)) (n := slots + (4 * ((lk_page (qF P) (qT P) pq rr y.2.1 y.2.2.1 (i + 1) 8001 pq).length - sa.length) + 4 * (Bc - cp))) hK hP hD hS hA (o_rV (As := [.int (nI (i + 1))]) (rest := []) hf (d_addP _ _ _ _ _ _ _ _ dk tp rd els reo nob pr bk gl sl mo pcs spr nwh cs cap lf bop cf nx cn B Bc SN v11 xs pa P Es fb pq rr pe re y.2.1 y.2.2.1 (i + 1) qa sa QP cp h_dk h_pr h_pcs h_spr h_pc h_sp h_els h_es h_bk h_bop hxl hplx hpa60 hFb hSb hpn hrr hpen hre hPU hrel (by omega) hSN hB hB2 hBs2 hSNq (by omega) hz0 eBc hnd hsl hcpB hmid _) k_923 k_920 k_922 k_32 k_84 (nA := 1) (by decide +kernel) ⟨Nat.le_trans (by decide) hRf, Nat.le_trans (by decide) hRl⟩ hK hP hD hS hA hZ hN h_dk rfl rfl rfl hl.1 rfl (Nat.le_of_ble_eq_true rfl) dX9_lock_66 ⟨(show cells + (((lk_page (qF P) (qT P) pq rr y.2.1 y.2.2.1 (i + 1) 8001 pq).length - sa.length) + (Bc - cp) / 5) ≤ R.cells by omega), (show slots + (4 * ((lk_page (qF P) (qT P) pq rr y.2.1 y.2.2.1 (i + 1) 8001 pq).length - sa.length) + 4 * (Bc - cp)) ≤ R.slots by omega)⟩) (by omega) (by omega) (fun L g H locs hw hP hD hS => ?_)
      obtain ⟨qa2, sa2, QP2, cp2, b1, b2, b3, b4, hf9, h_pcs, h_spr, h_pc, h_sp⟩ := hw
      have h_dk := h_dk.fr hf9 (by decide)
      have h_pr := h_pr.fr hf9 (by decide)
      have h_bop := h_bop.fr hf9 (by decide)
      have h_nx := h_nx.fr hf9 (by decide)
      have h_bk := h_bk.fr hf9 (by decide)
      have hfr := hfr.tm hf9 (by decide)
      have h_els := h_els.frd hf9 (by decide)
      have h_es := h_es.frd hf9 (by decide)
      refine lv_iinc (v := nI (i + 1)) (lv' := [(1, .int (nI (i + 1))), (0, .ref dk)]) hx hb dX9_lock_69 hl (k := 0) rfl (nI_addE (a := i) (b := 1) (by omega)) (by decide) rfl (fun ls hl => ?_)
      refine lv_goto (tgt := 43) hx hb dX9_lock_72 (by decide) ?_
      have hpl2 := h_pc.1
      rw [b3, List.length_append] at hpl2
      have hpl1 := hpcl
      have hQ2 : QP2 = lk_cls (qF P) (qT P) Bp Br (i + 1) := by rw [b3, hQP]; show _ = lk_cls (qF P) (qT P) Bp Br i ++ lk_page _ _ _ _ _ _ _ _ _; rw [hnx.1, hnx.2.1, hnx.2.2.1, hnx.2.2.2]
      refine W.widen (k := cells + (((lk_page (qF P) (qT P) pq rr y.2.1 y.2.2.1 (i + 1) 8001 pq).length - sa.length) + (Bc - cp) / 5)) (n := slots + (4 * ((lk_page (qF P) (qT P) pq rr y.2.1 y.2.2.1 (i + 1) 8001 pq).length - sa.length) + 4 * (Bc - cp))) (by omega) (by omega) ?_
      exact ih (i + 1) qa2 sa2 QP2 cp2 _ _ _ _ _ _ H locs ls (by omega) hQ2 b1 b2.1 b2.2.1 (fun h9 => by rw [hnx.2.2.1, hnx.2.2.2]; omega) (by omega) (by omega) (by omega) h_dk h_pr h_pcs h_spr h_pc h_sp h_els h_es h_bk h_bop h_nx hfr hP hD hS (lv_sub hl (l' := [(1, .int (nI (i + 1))), (0, .ref dk)]) [0, 1] rfl) kk
