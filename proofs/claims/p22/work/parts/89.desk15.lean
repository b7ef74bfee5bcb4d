/-- the room of the pieces' list behind m adds -/
def cpx : Nat → Nat → Nat → Nat
  | 0, _, cp => cp
  | m + 1, n, cp => cpx m (n + 1) (ncap n cp)
theorem cpx_ge : ∀ m n cp, cp ≤ cpx m n cp := by
  intro m
  induction m with
  | zero => intro n cp; exact Nat.le_refl _
  | succ m ih =>
    intro n cp
    have h1 := ih (n + 1) (ncap n cp)
    have h2 : cp ≤ ncap n cp := by
      unfold ncap
      by_cases c : n = cp
      · rw [if_pos c]
        by_cases c2 : cp = 0
        · rw [if_pos c2]; omega
        · rw [if_neg c2]; omega
      · rw [if_neg c]; exact Nat.le_refl _
    exact Nat.le_trans h2 h1
theorem lk_page_l {Fm To : Nat → Nat} {p0 r0 qq ss g f p : Nat} : (lk_page Fm To p0 r0 qq ss g f p).length ≤ f := by
  induction f generalizing p with
  | zero => exact Nat.le_refl _
  | succ f ih =>
    show (if p < qq then (p, (if p = p0 then r0 else 0), To p - Fm p, g) :: lk_page Fm To p0 r0 qq ss g f (p + 1) else if p = qq ∧ 0 < ss then [(p, (if p = p0 then r0 else 0), ss, g)] else []).length ≤ f + 1
    by_cases c : p < qq
    · rw [if_pos c, List.length_cons]
      have := ih (p := p + 1)
      omega
    · rw [if_neg c]
      by_cases c2 : p = qq ∧ 0 < ss
      · rw [if_pos c2]; exact Nat.succ_le_succ (Nat.zero_le f)
      · rw [if_neg c2]; exact Nat.zero_le _
abbrev cX9_addPiecesOfPage : ByteArray := prog_1_method_27_code
def yX9_addPiecesOfPage : MethodName := ⟨RX9, "addPiecesOfPage", "(I)V"⟩
theorem dX9_addPiecesOfPage_19 : decode cX9_addPiecesOfPage 19 = .ok (.iload 4, 2) := by decide +kernel
theorem dX9_addPiecesOfPage_21 : decode cX9_addPiecesOfPage 21 = .ok (.iload_n 3, 1) := by decide +kernel
theorem dX9_addPiecesOfPage_22 : decode cX9_addPiecesOfPage 22 = .ok (.if_icmp .gt 89, 3) := by decide +kernel
theorem dX9_addPiecesOfPage_25 : decode cX9_addPiecesOfPage 25 = .ok (.aload_n 0, 1) := by decide +kernel
theorem dX9_addPiecesOfPage_26 : decode cX9_addPiecesOfPage 26 = .ok (.iload 4, 2) := by decide +kernel
theorem dX9_addPiecesOfPage_28 : decode cX9_addPiecesOfPage 28 = .ok (.invokevirtual 123, 3) := by decide +kernel
theorem dX9_addPiecesOfPage_31 : decode cX9_addPiecesOfPage 31 = .ok (.ifCond .eq 80, 3) := by decide +kernel
theorem dX9_addPiecesOfPage_34 : decode cX9_addPiecesOfPage 34 = .ok (.aload_n 0, 1) := by decide +kernel
theorem dX9_addPiecesOfPage_35 : decode cX9_addPiecesOfPage 35 = .ok (.iload 4, 2) := by decide +kernel
theorem dX9_addPiecesOfPage_37 : decode cX9_addPiecesOfPage 37 = .ok (.invokevirtual 126, 3) := by decide +kernel
theorem dX9_addPiecesOfPage_40 : decode cX9_addPiecesOfPage 40 = .ok (.astore 5, 2) := by decide +kernel
theorem dX9_addPiecesOfPage_42 : decode cX9_addPiecesOfPage 42 = .ok (.iload 4, 2) := by decide +kernel
theorem dX9_addPiecesOfPage_44 : decode cX9_addPiecesOfPage 44 = .ok (.iload_n 2, 1) := by decide +kernel
theorem dX9_addPiecesOfPage_45 : decode cX9_addPiecesOfPage 45 = .ok (.if_icmp .ne 13, 3) := by decide +kernel
theorem dX9_addPiecesOfPage_58 : decode cX9_addPiecesOfPage 58 = .ok (.iconst 0, 1) := by decide +kernel
theorem dX9_addPiecesOfPage_59 : decode cX9_addPiecesOfPage 59 = .ok (.istore 6, 2) := by decide +kernel
theorem dX9_addPiecesOfPage_61 : decode cX9_addPiecesOfPage 61 = .ok (.iload 4, 2) := by decide +kernel
theorem dX9_addPiecesOfPage_63 : decode cX9_addPiecesOfPage 63 = .ok (.iload_n 3, 1) := by decide +kernel
theorem dX9_addPiecesOfPage_64 : decode cX9_addPiecesOfPage 64 = .ok (.if_icmp .ne 13, 3) := by decide +kernel
theorem dX9_addPiecesOfPage_77 : decode cX9_addPiecesOfPage 77 = .ok (.aload 5, 2) := by decide +kernel
theorem dX9_addPiecesOfPage_79 : decode cX9_addPiecesOfPage 79 = .ok (.invokevirtual 136, 3) := by decide +kernel
theorem dX9_addPiecesOfPage_82 : decode cX9_addPiecesOfPage 82 = .ok (.istore 7, 2) := by decide +kernel
theorem dX9_addPiecesOfPage_84 : decode cX9_addPiecesOfPage 84 = .ok (.aload_n 0, 1) := by decide +kernel
theorem dX9_addPiecesOfPage_85 : decode cX9_addPiecesOfPage 85 = .ok (.getfield 49, 3) := by decide +kernel
theorem dX9_addPiecesOfPage_88 : decode cX9_addPiecesOfPage 88 = .ok (.aload_n 0, 1) := by decide +kernel
theorem dX9_addPiecesOfPage_89 : decode cX9_addPiecesOfPage 89 = .ok (.getfield 49, 3) := by decide +kernel
theorem dX9_addPiecesOfPage_92 : decode cX9_addPiecesOfPage 92 = .ok (.invokevirtual 245, 3) := by decide +kernel
theorem dX9_addPiecesOfPage_95 : decode cX9_addPiecesOfPage 95 = .ok (.aload 5, 2) := by decide +kernel
theorem dX9_addPiecesOfPage_97 : decode cX9_addPiecesOfPage 97 = .ok (.iload 6, 2) := by decide +kernel
theorem dX9_addPiecesOfPage_99 : decode cX9_addPiecesOfPage 99 = .ok (.iload 7, 2) := by decide +kernel
theorem dX9_addPiecesOfPage_101 : decode cX9_addPiecesOfPage 101 = .ok (.iload_n 1, 1) := by decide +kernel
theorem dX9_addPiecesOfPage_102 : decode cX9_addPiecesOfPage 102 = .ok (.invokevirtual 210, 3) := by decide +kernel
theorem dX9_addPiecesOfPage_105 : decode cX9_addPiecesOfPage 105 = .ok (.iinc 4 1, 3) := by decide +kernel
theorem dX9_addPiecesOfPage_108 : decode cX9_addPiecesOfPage 108 = .ok (.goto (-89), 3) := by decide +kernel
theorem dX9_addPiecesOfPage_67 : decode cX9_addPiecesOfPage 67 = .ok (.aload_n 0, 1) := by decide +kernel
theorem dX9_addPiecesOfPage_68 : decode cX9_addPiecesOfPage 68 = .ok (.getfield 63, 3) := by decide +kernel
theorem dX9_addPiecesOfPage_71 : decode cX9_addPiecesOfPage 71 = .ok (.invokevirtual 177, 3) := by decide +kernel
theorem dX9_addPiecesOfPage_74 : decode cX9_addPiecesOfPage 74 = .ok (.goto 8, 3) := by decide +kernel
theorem dX9_addPiecesOfPage_48 : decode cX9_addPiecesOfPage 48 = .ok (.aload_n 0, 1) := by decide +kernel
theorem dX9_addPiecesOfPage_49 : decode cX9_addPiecesOfPage 49 = .ok (.getfield 63, 3) := by decide +kernel
theorem dX9_addPiecesOfPage_52 : decode cX9_addPiecesOfPage 52 = .ok (.invokevirtual 171, 3) := by decide +kernel
theorem dX9_addPiecesOfPage_55 : decode cX9_addPiecesOfPage 55 = .ok (.goto 4, 3) := by decide +kernel
set_option maxHeartbeats 4000000 in
set_option maxRecDepth 100000 in
theorem ap_loop {p : Program} {l : Launch} {e : Env} {R : Room} {s : State} {m : MethodId} {args : Array Value} {below : List Frame} {meth : Method} {c : Code} {Q : State → Prop} {D : va_G} {A : Nat → Prop} {z : Nat → Nat} {cB cI_ cO : ClassId} {L0 : List Nat} {g0 : hG} {dk tp rd els reo nob pr bk gl sl mo pcs spr nwh cs cap lf bop cf nx cn B Bc cE sE SN : Nat} {v11 : Int32} {xs pa : List Nat} {P : List Q4} {Es : List E5} {fb : Nat → Int32} {pq rr pe re qq ss gg : Nat} (hxl : xs.length ≤ 60) (hplx : pa.length = xs.length) (hpa60 : pa.length ≤ 60) (hFb : ∀ i, i ≤ pa.length → fb i = nI (qS P i)) (hSb : ∀ i, i ≤ pa.length → qS P i ≤ 8000) (hpn : pq < pa.length) (hrr : rr < (P.getD pq d4).2.2.1 - (P.getD pq d4).2.1) (hpen : pe < pa.length) (hre : re < (P.getD pe d4).2.2.1 - (P.getD pe d4).2.1) (hPU : ∀ i, i < pa.length → (P.getD i d4).2.1 = 0 ∧ (P.getD i d4).2.2.1 = eRw (Es.getD i dE)) (hrel : (0 < ss ∧ pe = qq ∧ re + 1 = ss) ∨ (ss = 0 ∧ pe + 1 = qq ∧ re + 1 = (P.getD pe d4).2.2.1 - (P.getD pe d4).2.1)) (hgg : gg ≤ 20000) (hSN : SN ≤ 10000) (hB : 100 ≤ B) (hB2 : B ≤ 60000) (hBs2 : 3 * SN ≤ 2 * B) (hSNq : qS P pa.length ≤ SN) (hlt9 : qS P pq + rr < qS P pe + re + 1) (hz0 : ∀ i, i < pa.length → 0 < (P.getD i d4).2.2.1 - (P.getD i d4).2.1) (hcE : cE ≤ R.cells) (hsE : sE ≤ R.slots) (hRf : 8 ≤ R.frames) (hRl : 200 ≤ R.locals) (hA : ∀ q : Nat, s.heap.size ≤ q → A q) (hf : CallFix p m c cX9_addPiecesOfPage 8 s args gT yX9_addPiecesOfPage.cls) (hK : va_K D vcl (dT cB cI_ cO) s) (hZ : zA z A s s.heap) (hN : zB z s) :
    ∀ (k : Nat) (i : Nat) (qa : List Nat) (sa : List Nat) (QP : List Q4) (cp : Nat) (cells slots : Nat) (L : List Nat) (g : hG) (H : Heap) (locs : List Loc) (ls : Array Slot), qq + 1 ≤ i + k → pq ≤ i ∧ i ≤ pe + 1 → (qa ++ sa).Nodup → qa.length + sa.length ≤ SN → cp ≤ B → (pe < i → qa.length ≤ qS P pe + re + 1) → (i ≤ pe → qa.length ≤ qS P i + (if i = pq then rr else 0)) → Bc = cpx (lk_page (qF P) (qT P) pq rr qq ss gg k i).length qa.length cp → cells + (((lk_page (qF P) (qT P) pq rr qq ss gg k i).length - sa.length) + (Bc - cp) / 5) ≤ cE → slots + (4 * ((lk_page (qF P) (qT P) pq rr qq ss gg k i).length - sa.length) + 4 * (Bc - cp)) ≤ sE → ho L g dk 1 (.inr (10, [.ref tp, .ref rd, .ref els, .ref reo, .ref nob, .ref pr, .ref bk, .ref gl, .ref sl, .int (nI mo), .int 0, .int v11])) → ho L g pr 13 (.inr (7, [.ref pcs, .ref spr, .ref nwh])) → alR cO (z 0) 14 15 L g pcs cp qa → alR cO (z 0) 16 17 L g spr cs sa → pcR L g (fun e => xs.getD e 0) qa QP → spR L g sa → alR cO (z 0) 5 6 L g els cap xs → elsR cB cI_ L g xs Es → ho L g bk 21 (.inr (1, [.ref pr, .ref lf, .ref bop, .int (nI (pa.length)), .int (nI ((qS P pa.length))), .ref cf, .ref nx, .int 1, .int (nI cn), .int (nI ((qS P pq + rr))), .int (nI ((qS P pe + re + 1)))])) → ho L g bop 22 (.inl (cI_, 61, .inl fb)) → fr [14, 15, 16, 17, 18] L0 g0 L g → va_P D vcl (dW L g) H → va_D A (dW L g) → va_S A s.heap H locs → lv_has ls 8 [(4, .int (nI i)), (2, .int (nI pq)), (3, .int (nI pe)), (1, .int (nI gg)), (0, .ref dk)] →
    (∀ (qa2 : List Nat) (sa2 : List Nat) (QP2 : List Q4) (cp2 : Nat)  (L : List Nat) (g : hG) (H : Heap) (locs : List Loc) (ls : Array Slot), (qa2 ++ sa2).Nodup → qa2.length + sa2.length ≤ SN ∧ cp2 ≤ B ∧ qa2.length ≤ qS P pe + re + 1 → QP2 = QP ++ lk_page (qF P) (qT P) pq rr qq ss gg k i → cp2 = Bc ∧ sa2.length = sa.length - (lk_page (qF P) (qT P) pq rr qq ss gg k i).length → ho L g dk 1 (.inr (10, [.ref tp, .ref rd, .ref els, .ref reo, .ref nob, .ref pr, .ref bk, .ref gl, .ref sl, .int (nI mo), .int 0, .int v11])) → ho L g pr 13 (.inr (7, [.ref pcs, .ref spr, .ref nwh])) → alR cO (z 0) 14 15 L g pcs cp2 qa2 → alR cO (z 0) 16 17 L g spr cs sa2 → pcR L g (fun e => xs.getD e 0) qa2 QP2 → spR L g sa2 → alR cO (z 0) 5 6 L g els cap xs → elsR cB cI_ L g xs Es → ho L g bk 21 (.inr (1, [.ref pr, .ref lf, .ref bop, .int (nI (pa.length)), .int (nI ((qS P pa.length))), .ref cf, .ref nx, .int 1, .int (nI cn), .int (nI ((qS P pq + rr))), .int (nI ((qS P pe + re + 1)))])) → ho L g bop 22 (.inl (cI_, 61, .inl fb)) → fr [14, 15, 16, 17, 18] L0 g0 L g → va_P D vcl (dW L g) H → va_D A (dW L g) → va_S A s.heap H locs → lv_has ls 8 [(0, .ref dk)] → W p l e R s m args below meth c H locs cE sE Q (F0 m 111 ls [])) →
    W p l e R s m args below meth c H locs cells slots Q (F0 m 19 ls []) := by
  obtain ⟨hx, hb, hml, hown, hts⟩ := id hf
  intro k
  induction k with
  | zero =>
    intro i qa sa QP cp cells slots L g H locs ls hik hipe hnd hsl hcpB hexit hmid hBc hRc hRs h_dk h_pr h_pcs h_spr h_pc h_sp h_els h_es h_bk h_bop hfr hP hD hS hl kk
    refine lv_iload hx hb dX9_addPiecesOfPage_19 (lv_at hl 0 rfl) ?_
    refine lv_iload_n hx hb dX9_addPiecesOfPage_21 rfl (lv_at hl 2 rfl) ?_
    refine lv_icmp_gt (tgt := 111) hx hb dX9_addPiecesOfPage_22 (by decide) (fun c_1 => ?_) (fun c_1 => ?_)
    · have c_1 := q_lt (a := pe) (b := i) (by omega) (by omega) c_1
      have hlo : lk_page (qF P) (qT P) pq rr qq ss gg 0 i = [] := lk_page_out (show ¬ i < qq by omega) (by omega)
      have hB7 : cp = Bc := by rw [hBc, hlo]; rfl
      rw [hlo] at hRc hRs
      refine W.widen (k := cE) (n := sE) (by omega) (by omega) ?_
      exact kk qa sa QP cp _ _ H locs ls hnd ⟨hsl, hcpB, hexit (by omega)⟩ (by rw [hlo, List.append_nil]) ⟨hB7, by rw [hlo]; rfl⟩ h_dk h_pr h_pcs h_spr h_pc h_sp h_els h_es h_bk h_bop hfr hP hD hS (lv_sub hl (l' := [(0, .ref dk)]) [4] rfl)
    · have c_1 := q_nlt (a := pe) (b := i) (by omega) (by omega) c_1
      have hab := h_pcs.b
      have hnb := ncap_b hab.1 hab.2.2
      have hpw := pnew_c sa
      have hpu := hPU i (by omega)
      have hpcl := h_pc.1
      have hqi := qS_s P i
      have hqn := qS_m P (show i + 1 ≤ pa.length by omega)
      have hqpe := qS_s P pe
      have hqpn := qS_m P (show pe + 1 ≤ pa.length by omega)
      have hqie : i < pe → qS P (i + 1) ≤ qS P pe := fun h9 => qS_m P (show i + 1 ≤ pe by omega)
      have hz1 := hz0 i (by omega)
      have hmi := hmid (by omega)
      have hmj : qa.length < qS P (i + 1) ∧ (i = pe → qa.length ≤ qS P pe + re) := by
        by_cases c9 : i = pq
        · rw [if_pos c9] at hmi; subst c9; exact ⟨by omega, fun h8 => by subst h8; omega⟩
        · rw [if_neg c9] at hmi; exact ⟨by omega, fun h8 => by subst h8; omega⟩
      exact False.elim (by omega)
  | succ k ih =>
    intro i qa sa QP cp cells slots L g H locs ls hik hipe hnd hsl hcpB hexit hmid hBc hRc hRs h_dk h_pr h_pcs h_spr h_pc h_sp h_els h_es h_bk h_bop hfr hP hD hS hl kk
    refine lv_iload hx hb dX9_addPiecesOfPage_19 (lv_at hl 0 rfl) ?_
    refine lv_iload_n hx hb dX9_addPiecesOfPage_21 rfl (lv_at hl 2 rfl) ?_
    refine lv_icmp_gt (tgt := 111) hx hb dX9_addPiecesOfPage_22 (by decide) (fun c_1 => ?_) (fun c_1 => ?_)
    · have c_1 := q_lt (a := pe) (b := i) (by omega) (by omega) c_1
      have hlo : lk_page (qF P) (qT P) pq rr qq ss gg (k + 1) i = [] := lk_page_out (show ¬ i < qq by omega) (by omega)
      have hB7 : cp = Bc := by rw [hBc, hlo]; rfl
      rw [hlo] at hRc hRs
      refine W.widen (k := cE) (n := sE) (by omega) (by omega) ?_
      exact kk qa sa QP cp _ _ H locs ls hnd ⟨hsl, hcpB, hexit (by omega)⟩ (by rw [hlo, List.append_nil]) ⟨hB7, by rw [hlo]; rfl⟩ h_dk h_pr h_pcs h_spr h_pc h_sp h_els h_es h_bk h_bop hfr hP hD hS (lv_sub hl (l' := [(0, .ref dk)]) [4] rfl)
    · have c_1 := q_nlt (a := pe) (b := i) (by omega) (by omega) c_1
      have hab := h_pcs.b
      have hnb := ncap_b hab.1 hab.2.2
      have hpw := pnew_c sa
      have hpu := hPU i (by omega)
      have hpcl := h_pc.1
      have hqi := qS_s P i
      have hqn := qS_m P (show i + 1 ≤ pa.length by omega)
      have hqpe := qS_s P pe
      have hqpn := qS_m P (show pe + 1 ≤ pa.length by omega)
      have hqie : i < pe → qS P (i + 1) ≤ qS P pe := fun h9 => qS_m P (show i + 1 ≤ pe by omega)
      have hz1 := hz0 i (by omega)
      have hmi := hmid (by omega)
      have hmj : qa.length < qS P (i + 1) ∧ (i = pe → qa.length ≤ qS P pe + re) := by
        by_cases c9 : i = pq
        · rw [if_pos c9] at hmi; subst c9; exact ⟨by omega, fun h8 => by subst h8; omega⟩
        · rw [if_neg c9] at hmi; exact ⟨by omega, fun h8 => by subst h8; omega⟩
      obtain ⟨x8, hx8⟩ : ∃ x, lk_page (qF P) (qT P) pq rr qq ss gg (k + 1) i = x :: lk_page (qF P) (qT P) pq rr qq ss gg k (i + 1) := by
        by_cases c8 : i < qq
        · exact ⟨_, lk_page_lt c8 rfl⟩
        · exact ⟨_, lk_page_eq (show i = qq by omega) (by omega) rfl⟩
      have hlen8 : (lk_page (qF P) (qT P) pq rr qq ss gg (k + 1) i).length = (lk_page (qF P) (qT P) pq rr qq ss gg k (i + 1)).length + 1 := by rw [hx8, List.length_cons]
      have hBc8 : ncap qa.length cp ≤ Bc := by rw [hBc, hlen8]; exact cpx_ge _ _ _
      refine lv_aload_n hx hb dX9_addPiecesOfPage_25 rfl (lv_at hl 4 rfl) ?_
      refine lv_iload hx hb dX9_addPiecesOfPage_26 (lv_at hl 0 rfl) ?_
      refine o_cis (k := cells) (n := slots) hK hP hD hS hA (o_rV (As := [.int (nI i)]) (rest := []) hf (d_isE1 _ _ _ _ _ _ _ _ dk tp rd els reo nob pr bk gl sl mo 0 v11 cap xs Es i h_dk h_els h_es hxl (by omega) _) k_736 k_733 k_735 k_22 k_84 (nA := 1) (by decide +kernel) ⟨Nat.le_trans (by decide) hRf, Nat.le_trans (by decide) hRl⟩ hK hP hD hS hA hZ hN h_dk rfl rfl rfl hl.1 rfl (Nat.le_of_ble_eq_true rfl) dX9_addPiecesOfPage_28 ⟨(show cells + 0 ≤ R.cells by omega), (show slots + 0 ≤ R.slots by omega)⟩) (Nat.le_refl _) (Nat.le_refl _) (fun r H locs hw hP hD hS => ?_)
      obtain rfl := hw
      refine lv_if_eq (tgt := 111) hx hb dX9_addPiecesOfPage_31 (by decide) (fun hno => absurd hno (by decide)) (fun _ => ?_)
      refine lv_aload_n hx hb dX9_addPiecesOfPage_34 rfl (lv_at hl 4 rfl) ?_
      refine lv_iload hx hb dX9_addPiecesOfPage_35 (lv_at hl 0 rfl) ?_
      refine o_crs (k := cells) (n := slots) hK hP hD hS hA (o_rV (As := [.int (nI i)]) (rest := []) hf (d_elAt _ _ _ _ _ _ _ _ dk tp rd els reo nob pr bk gl sl mo 0 v11 cap xs Es i h_dk h_els h_es hxl (by omega) _) k_740 k_737 k_739 k_23 k_84 (nA := 1) (by decide +kernel) ⟨Nat.le_trans (by decide) hRf, Nat.le_trans (by decide) hRl⟩ hK hP hD hS hA hZ hN h_dk rfl rfl rfl hl.1 rfl (Nat.le_of_ble_eq_true rfl) dX9_addPiecesOfPage_37 ⟨(show cells + 0 ≤ R.cells by omega), (show slots + 0 ≤ R.slots by omega)⟩) (Nat.le_refl _) (Nat.le_refl _) (fun r H locs hw hP hD hS => ?_)
      obtain rfl := hw
      obtain ⟨⟨txg2, rfg2, rtg2, h_eg2⟩, hr_g2⟩ := h_es.o2 (show i < xs.length by omega)
      refine lv_astore (lv' := [(5, .ref (xs.getD i 0)), (4, .int (nI i)), (2, .int (nI pq)), (3, .int (nI pe)), (1, .int (nI gg)), (0, .ref dk)]) hx hb dX9_addPiecesOfPage_40 hl (by decide) rfl (fun ls hl => ?_)
      refine lv_iload hx hb dX9_addPiecesOfPage_42 (lv_at hl 1 rfl) ?_
      refine lv_iload_n hx hb dX9_addPiecesOfPage_44 rfl (lv_at hl 2 rfl) ?_
      refine lv_icmp_ne (tgt := 58) hx hb dX9_addPiecesOfPage_45 (by decide) (fun c_3 => ?_) (fun c_3 => ?_)
      · have c_3 := q_nen (a := i) (b := pq) (by omega) (by omega) c_3
        refine lv_iconst (v := 0) hx hb dX9_addPiecesOfPage_58 (by decide) ?_
        refine lv_istore (lv' := [(6, .int 0), (5, .ref (xs.getD i 0)), (4, .int (nI i)), (2, .int (nI pq)), (3, .int (nI pe)), (1, .int (nI gg)), (0, .ref dk)]) hx hb dX9_addPiecesOfPage_59 hl (by decide) rfl (fun ls hl => ?_)
        refine lv_iload hx hb dX9_addPiecesOfPage_61 (lv_at hl 2 rfl) ?_
        refine lv_iload_n hx hb dX9_addPiecesOfPage_63 rfl (lv_at hl 4 rfl) ?_
        refine lv_icmp_ne (tgt := 77) hx hb dX9_addPiecesOfPage_64 (by decide) (fun c_4 => ?_) (fun c_4 => ?_)
        · have c_4 := q_nen (a := i) (b := pe) (by omega) (by omega) c_4
          refine lv_aload hx hb dX9_addPiecesOfPage_77 (lv_at hl 1 rfl) ?_
          refine o_cis (k := cells) (n := slots) hK hP hD hS hA (o_rV (As := []) (rest := []) hf (l_rows _ _ _ _ _ _ _ _ (xs.getD i 0) ((Es.getD i dE).1) ((Es.getD i dE).2.1) ((Es.getD i dE).2.2.1) txg2 ((Es.getD i dE).2.2.2.2.length) ((Es.getD i dE).2.2.2.1) rfg2 rtg2 ((eRw (Es.getD i dE))) h_eg2 _) k_695 k_692 k_693 k_694 k_90 (nA := 0) (by decide +kernel) ⟨Nat.le_trans (by decide) hRf, Nat.le_trans (by decide) hRl⟩ hK hP hD hS hA hZ hN h_eg2 rfl rfl rfl hl.1 rfl (Nat.le_of_ble_eq_true rfl) dX9_addPiecesOfPage_79 ⟨(show cells + 0 ≤ R.cells by omega), (show slots + 0 ≤ R.slots by omega)⟩) (Nat.le_refl _) (Nat.le_refl _) (fun r H locs hw hP hD hS => ?_)
          obtain rfl := hw
          refine lv_istore (lv' := [(7, .int (nI ((eRw (Es.getD i dE))))), (6, .int 0), (5, .ref (xs.getD i 0)), (4, .int (nI i)), (2, .int (nI pq)), (3, .int (nI pe)), (1, .int (nI gg)), (0, .ref dk)]) hx hb dX9_addPiecesOfPage_82 hl (by decide) rfl (fun ls hl => ?_)
          refine lv_aload_n hx hb dX9_addPiecesOfPage_84 rfl (lv_at hl 7 rfl) ?_
          refine o_get (D := D) (ci := 10) (v := .ref pr) (C := RX9) (T := TX9) (N := 12) hx hb hts inX9 hown hK hP h_dk rfl 5 (by decide) (hts _ k_434) (fun _ h9 => h9) rfl dX9_addPiecesOfPage_85 ?_
          refine lv_aload_n hx hb dX9_addPiecesOfPage_88 rfl (lv_at hl 7 rfl) ?_
          refine o_get (D := D) (ci := 10) (v := .ref pr) (C := RX9) (T := TX9) (N := 12) hx hb hts inX9 hown hK hP h_dk rfl 5 (by decide) (hts _ k_434) (fun _ h9 => h9) rfl dX9_addPiecesOfPage_89 ?_
          refine o_cis (k := cells) (n := slots) hK hP hD hS hA (o_rV (As := []) (rest := [.ref pr]) hf (p_size _ _ _ _ _ _ _ _ pr pcs spr nwh cp qa (fun e => xs.getD e 0) [] h_pr h_pcs _) k_691 k_688 k_689 k_690 k_92 (nA := 0) (by decide +kernel) ⟨Nat.le_trans (by decide) hRf, Nat.le_trans (by decide) hRl⟩ hK hP hD hS hA hZ hN h_pr rfl rfl rfl hl.1 rfl (Nat.le_of_ble_eq_true rfl) dX9_addPiecesOfPage_92 ⟨(show cells + 0 ≤ R.cells by omega), (show slots + 0 ≤ R.slots by omega)⟩) (Nat.le_refl _) (Nat.le_refl _) (fun r H locs hw hP hD hS => ?_)
          obtain rfl := hw
          refine lv_aload hx hb dX9_addPiecesOfPage_95 (lv_at hl 2 rfl) ?_
          refine lv_iload hx hb dX9_addPiecesOfPage_97 (lv_at hl 1 rfl) ?_
          refine lv_iload hx hb dX9_addPiecesOfPage_99 (lv_at hl 0 rfl) ?_
          refine lv_iload_n hx hb dX9_addPiecesOfPage_101 rfl (lv_at hl 6 rfl) ?_
          refine o_cv (k := cells + (pnew sa + gcel qa.length cp)) (n := slots + (4 * pnew sa + gslo qa.length cp)) hK hP hD hS hA (o_rV (As := [.int (nI (qa.length)), .ref (xs.getD i 0), .int 0, .int (nI ((eRw (Es.getD i dE)))), .int (nI gg)]) (rest := []) hf (p_put _ _ _ _ _ _ _ _ pr pcs spr nwh cp cs qa sa (fun e => xs.getD e 0) QP (qa.length) i 0 ((eRw (Es.getD i dE))) gg h_pr h_pcs h_spr h_pc h_sp (by omega) (by omega) hnd (by omega) (by omega) _) k_699 k_696 k_697 k_698 k_92 (nA := 5) (by decide +kernel) ⟨Nat.le_trans (by decide) hRf, Nat.le_trans (by decide) hRl⟩ hK hP hD hS hA hZ hN h_pr rfl rfl rfl hl.1 rfl (Nat.le_of_ble_eq_true rfl) dX9_addPiecesOfPage_102 ⟨(show cells + (pnew sa + gcel qa.length cp) ≤ R.cells by omega), (show slots + (4 * pnew sa + gslo qa.length cp) ≤ R.slots by omega)⟩) (by omega) (by omega) (fun L g H locs hw hP hD hS => ?_)
          obtain ⟨x9, s9, hf9, h_pcs, h_spr, h_pc, h_sp, hnd9, hln9⟩ := hw
          have h_dk := h_dk.fr hf9 (by decide)
          have h_pr := h_pr.fr hf9 (by decide)
          have h_bk := h_bk.fr hf9 (by decide)
          have h_bop := h_bop.fr hf9 (by decide)
          have h_eg2 := h_eg2.fr hf9 (by decide)
          have hfr := hfr.tr hf9
          have h_els := h_els.frd hf9 (by decide)
          have h_es := h_es.frd hf9 (by decide)
          refine lv_iinc (v := nI (i + 1)) (lv' := [(4, .int (nI (i + 1))), (7, .int (nI ((eRw (Es.getD i dE))))), (6, .int 0), (5, .ref (xs.getD i 0)), (2, .int (nI pq)), (3, .int (nI pe)), (1, .int (nI gg)), (0, .ref dk)]) hx hb dX9_addPiecesOfPage_105 hl (k := 3) rfl (nI_addE (a := i) (b := 1) (by omega)) (by decide) rfl (fun ls hl => ?_)
          refine lv_goto (tgt := 19) hx hb dX9_addPiecesOfPage_108 (by decide) ?_
          have hJ : lsJ QP qa.length (i, 0, eRw (Es.getD i dE), gg) = QP ++ [(i, 0, eRw (Es.getD i dE), gg)] := lsJ_end (by omega)
          rw [hJ] at h_pc
          have hIl := lsI_len (xs := qa) (x := x9) (Nat.le_refl qa.length)
          have hte : qT P i - qF P i = (P.getD i d4).2.2.1 - (P.getD i d4).2.1 := rfl
          have hlk : lk_page (qF P) (qT P) pq rr qq ss gg (k + 1) i = (i, 0, eRw (Es.getD i dE), gg) :: lk_page (qF P) (qT P) pq rr qq ss gg k (i + 1) := by rw [lk_page_lt (show i < qq by omega) (show 0 = (if i = pq then rr else 0) by rw [if_neg (show ¬ i = pq by omega)]), show qT P i - qF P i = eRw (Es.getD i dE) by omega]
          have hlen : (lk_page (qF P) (qT P) pq rr qq ss gg (k + 1) i).length = (lk_page (qF P) (qT P) pq rr qq ss gg k (i + 1)).length + 1 := by rw [hlk, List.length_cons]
          have hBc2 : Bc = cpx (lk_page (qF P) (qT P) pq rr qq ss gg k (i + 1)).length (qa.length + 1) (ncap qa.length cp) := by rw [hBc, hlen]; rfl
          have hBc3 : ncap qa.length cp ≤ Bc := by rw [hBc2]; exact cpx_ge _ _ _
          rw [hlen] at hRc hRs
          refine W.widen (k := cells + (pnew sa + gcel qa.length cp)) (n := slots + (4 * pnew sa + gslo qa.length cp)) (by omega) (by omega) ?_
          exact ih (i + 1) (lsI qa qa.length x9) s9 (QP ++ [(i, 0, eRw (Es.getD i dE), gg)]) (ncap qa.length cp) _ _ _ _ H locs ls (by omega) (by omega) hnd9 (by omega) (by omega) (by omega) (fun h9 => by rw [hIl, if_neg (show ¬ i + 1 = pq by omega)]; omega) (by rw [hIl]; exact hBc2) (by omega) (by omega) h_dk h_pr h_pcs h_spr h_pc h_sp h_els h_es h_bk h_bop hfr hP hD hS (lv_sub hl (l' := [(4, .int (nI (i + 1))), (2, .int (nI pq)), (3, .int (nI pe)), (1, .int (nI gg)), (0, .ref dk)]) [0, 4, 5, 6, 7] rfl) (fun qa2 sa2 QP2 cp2 L g H locs ls b1 b2 b3 b4 => kk qa2 sa2 QP2 cp2 L g H locs ls b1 b2 (b3.trans (by rw [hlk, List.append_assoc]; rfl)) ⟨b4.1, by rw [hlen]; omega⟩)
        · have c_4 := q_eqn (a := i) (b := pe) (by omega) (by omega) c_4
          refine lv_aload_n hx hb dX9_addPiecesOfPage_67 rfl (lv_at hl 6 rfl) ?_
          refine o_get (D := D) (ci := 10) (v := .ref bk) (C := RX9) (T := TX9) (N := 12) hx hb hts inX9 hown hK hP h_dk rfl 6 (by decide) (hts _ k_435) (fun _ h9 => h9) rfl dX9_addPiecesOfPage_68 ?_
          refine o_cis (k := cells) (n := slots) hK hP hD hS hA (o_rV (As := []) (rest := []) hf (bk_er _ _ _ _ _ _ _ _ pr pa P bk lf bop cf nx 1 (nI cn) fb pq rr pe re h_bk h_bop hpa60 hFb hSb (by omega) (by omega) (by omega) (by omega) _) k_904 k_901 k_902 k_903 k_95 (nA := 0) (by decide +kernel) ⟨Nat.le_trans (by decide) hRf, Nat.le_trans (by decide) hRl⟩ hK hP hD hS hA hZ hN h_bk rfl rfl rfl hl.1 rfl (Nat.le_of_ble_eq_true rfl) dX9_addPiecesOfPage_71 ⟨(show cells + 0 ≤ R.cells by omega), (show slots + 0 ≤ R.slots by omega)⟩) (Nat.le_refl _) (Nat.le_refl _) (fun r H locs hw hP hD hS => ?_)
          obtain rfl := hw
          refine lv_goto (tgt := 82) hx hb dX9_addPiecesOfPage_74 (by decide) ?_
          refine lv_istore (lv' := [(7, .int (nI (re + 1))), (6, .int 0), (5, .ref (xs.getD i 0)), (4, .int (nI i)), (2, .int (nI pq)), (3, .int (nI pe)), (1, .int (nI gg)), (0, .ref dk)]) hx hb dX9_addPiecesOfPage_82 hl (by decide) rfl (fun ls hl => ?_)
          refine lv_aload_n hx hb dX9_addPiecesOfPage_84 rfl (lv_at hl 7 rfl) ?_
          refine o_get (D := D) (ci := 10) (v := .ref pr) (C := RX9) (T := TX9) (N := 12) hx hb hts inX9 hown hK hP h_dk rfl 5 (by decide) (hts _ k_434) (fun _ h9 => h9) rfl dX9_addPiecesOfPage_85 ?_
          refine lv_aload_n hx hb dX9_addPiecesOfPage_88 rfl (lv_at hl 7 rfl) ?_
          refine o_get (D := D) (ci := 10) (v := .ref pr) (C := RX9) (T := TX9) (N := 12) hx hb hts inX9 hown hK hP h_dk rfl 5 (by decide) (hts _ k_434) (fun _ h9 => h9) rfl dX9_addPiecesOfPage_89 ?_
          refine o_cis (k := cells) (n := slots) hK hP hD hS hA (o_rV (As := []) (rest := [.ref pr]) hf (p_size _ _ _ _ _ _ _ _ pr pcs spr nwh cp qa (fun e => xs.getD e 0) [] h_pr h_pcs _) k_691 k_688 k_689 k_690 k_92 (nA := 0) (by decide +kernel) ⟨Nat.le_trans (by decide) hRf, Nat.le_trans (by decide) hRl⟩ hK hP hD hS hA hZ hN h_pr rfl rfl rfl hl.1 rfl (Nat.le_of_ble_eq_true rfl) dX9_addPiecesOfPage_92 ⟨(show cells + 0 ≤ R.cells by omega), (show slots + 0 ≤ R.slots by omega)⟩) (Nat.le_refl _) (Nat.le_refl _) (fun r H locs hw hP hD hS => ?_)
          obtain rfl := hw
          refine lv_aload hx hb dX9_addPiecesOfPage_95 (lv_at hl 2 rfl) ?_
          refine lv_iload hx hb dX9_addPiecesOfPage_97 (lv_at hl 1 rfl) ?_
          refine lv_iload hx hb dX9_addPiecesOfPage_99 (lv_at hl 0 rfl) ?_
          refine lv_iload_n hx hb dX9_addPiecesOfPage_101 rfl (lv_at hl 6 rfl) ?_
          refine o_cv (k := cells + (pnew sa + gcel qa.length cp)) (n := slots + (4 * pnew sa + gslo qa.length cp)) hK hP hD hS hA (o_rV (As := [.int (nI (qa.length)), .ref (xs.getD i 0), .int 0, .int (nI (re + 1)), .int (nI gg)]) (rest := []) hf (p_put _ _ _ _ _ _ _ _ pr pcs spr nwh cp cs qa sa (fun e => xs.getD e 0) QP (qa.length) i 0 (re + 1) gg h_pr h_pcs h_spr h_pc h_sp (by omega) (by omega) hnd (by omega) (by omega) _) k_699 k_696 k_697 k_698 k_92 (nA := 5) (by decide +kernel) ⟨Nat.le_trans (by decide) hRf, Nat.le_trans (by decide) hRl⟩ hK hP hD hS hA hZ hN h_pr rfl rfl rfl hl.1 rfl (Nat.le_of_ble_eq_true rfl) dX9_addPiecesOfPage_102 ⟨(show cells + (pnew sa + gcel qa.length cp) ≤ R.cells by omega), (show slots + (4 * pnew sa + gslo qa.length cp) ≤ R.slots by omega)⟩) (by omega) (by omega) (fun L g H locs hw hP hD hS => ?_)
          obtain ⟨x9, s9, hf9, h_pcs, h_spr, h_pc, h_sp, hnd9, hln9⟩ := hw
          have h_dk := h_dk.fr hf9 (by decide)
          have h_pr := h_pr.fr hf9 (by decide)
          have h_bk := h_bk.fr hf9 (by decide)
          have h_bop := h_bop.fr hf9 (by decide)
          have h_eg2 := h_eg2.fr hf9 (by decide)
          have hfr := hfr.tr hf9
          have h_els := h_els.frd hf9 (by decide)
          have h_es := h_es.frd hf9 (by decide)
          refine lv_iinc (v := nI (i + 1)) (lv' := [(4, .int (nI (i + 1))), (7, .int (nI (re + 1))), (6, .int 0), (5, .ref (xs.getD i 0)), (2, .int (nI pq)), (3, .int (nI pe)), (1, .int (nI gg)), (0, .ref dk)]) hx hb dX9_addPiecesOfPage_105 hl (k := 3) rfl (nI_addE (a := i) (b := 1) (by omega)) (by decide) rfl (fun ls hl => ?_)
          refine lv_goto (tgt := 19) hx hb dX9_addPiecesOfPage_108 (by decide) ?_
          have hJ : lsJ QP qa.length (i, 0, re + 1, gg) = QP ++ [(i, 0, re + 1, gg)] := lsJ_end (by omega)
          rw [hJ] at h_pc
          have hIl := lsI_len (xs := qa) (x := x9) (Nat.le_refl qa.length)
          have hte : qT P i - qF P i = (P.getD i d4).2.2.1 - (P.getD i d4).2.1 := rfl
          have hie : i = pe := by omega
          have hlk : lk_page (qF P) (qT P) pq rr qq ss gg (k + 1) i = (i, 0, re + 1, gg) :: lk_page (qF P) (qT P) pq rr qq ss gg k (i + 1) := by
            rcases hrel with ⟨h1, h2, h3⟩ | ⟨h1, h2, h3⟩
            · rw [lk_page_eq (show i = qq by omega) h1 (show 0 = (if i = pq then rr else 0) by rw [if_neg (show ¬ i = pq by omega)]), h3]
            · rw [← hie] at h3
              rw [lk_page_lt (show i < qq by omega) (show 0 = (if i = pq then rr else 0) by rw [if_neg (show ¬ i = pq by omega)]), show qT P i - qF P i = re + 1 by omega]
          have hlen : (lk_page (qF P) (qT P) pq rr qq ss gg (k + 1) i).length = (lk_page (qF P) (qT P) pq rr qq ss gg k (i + 1)).length + 1 := by rw [hlk, List.length_cons]
          have hBc2 : Bc = cpx (lk_page (qF P) (qT P) pq rr qq ss gg k (i + 1)).length (qa.length + 1) (ncap qa.length cp) := by rw [hBc, hlen]; rfl
          have hBc3 : ncap qa.length cp ≤ Bc := by rw [hBc2]; exact cpx_ge _ _ _
          rw [hlen] at hRc hRs
          refine W.widen (k := cells + (pnew sa + gcel qa.length cp)) (n := slots + (4 * pnew sa + gslo qa.length cp)) (by omega) (by omega) ?_
          exact ih (i + 1) (lsI qa qa.length x9) s9 (QP ++ [(i, 0, re + 1, gg)]) (ncap qa.length cp) _ _ _ _ H locs ls (by omega) (by omega) hnd9 (by omega) (by omega) (by omega) (fun h9 => by rw [hIl, if_neg (show ¬ i + 1 = pq by omega)]; omega) (by rw [hIl]; exact hBc2) (by omega) (by omega) h_dk h_pr h_pcs h_spr h_pc h_sp h_els h_es h_bk h_bop hfr hP hD hS (lv_sub hl (l' := [(4, .int (nI (i + 1))), (2, .int (nI pq)), (3, .int (nI pe)), (1, .int (nI gg)), (0, .ref dk)]) [0, 4, 5, 6, 7] rfl) (fun qa2 sa2 QP2 cp2 L g H locs ls b1 b2 b3 b4 => kk qa2 sa2 QP2 cp2 L g H locs ls b1 b2 (b3.trans (by rw [hlk, List.append_assoc]; rfl)) ⟨b4.1, by rw [hlen]; omega⟩)
      · have c_3 := q_eqn (a := i) (b := pq) (by omega) (by omega) c_3
        refine lv_aload_n hx hb dX9_addPiecesOfPage_48 rfl (lv_at hl 5 rfl) ?_
        refine o_get (D := D) (ci := 10) (v := .ref bk) (C := RX9) (T := TX9) (N := 12) hx hb hts inX9 hown hK hP h_dk rfl 6 (by decide) (hts _ k_435) (fun _ h9 => h9) rfl dX9_addPiecesOfPage_49 ?_
        refine o_cis (k := cells) (n := slots) hK hP hD hS hA (o_rV (As := []) (rest := []) hf (bk_fr _ _ _ _ _ _ _ _ pr pa P bk lf bop cf nx 1 (nI cn) fb pq rr pe re h_bk h_bop hpa60 hFb hSb (by omega) (by omega) (by omega) (by omega) _) k_894 k_896 k_892 k_893 k_95 (nA := 0) (by decide +kernel) ⟨Nat.le_trans (by decide) hRf, Nat.le_trans (by decide) hRl⟩ hK hP hD hS hA hZ hN h_bk rfl rfl rfl hl.1 rfl (Nat.le_of_ble_eq_true rfl) dX9_addPiecesOfPage_52 ⟨(show cells + 0 ≤ R.cells by omega), (show slots + 0 ≤ R.slots by omega)⟩) (Nat.le_refl _) (Nat.le_refl _) (fun r H locs hw hP hD hS => ?_)
        obtain rfl := hw
        refine lv_goto (tgt := 59) hx hb dX9_addPiecesOfPage_55 (by decide) ?_
        refine lv_istore (lv' := [(6, .int (nI rr)), (5, .ref (xs.getD i 0)), (4, .int (nI i)), (2, .int (nI pq)), (3, .int (nI pe)), (1, .int (nI gg)), (0, .ref dk)]) hx hb dX9_addPiecesOfPage_59 hl (by decide) rfl (fun ls hl => ?_)
        refine lv_iload hx hb dX9_addPiecesOfPage_61 (lv_at hl 2 rfl) ?_
        refine lv_iload_n hx hb dX9_addPiecesOfPage_63 rfl (lv_at hl 4 rfl) ?_
        refine lv_icmp_ne (tgt := 77) hx hb dX9_addPiecesOfPage_64 (by decide) (fun c_5 => ?_) (fun c_5 => ?_)
        · have c_5 := q_nen (a := i) (b := pe) (by omega) (by omega) c_5
          refine lv_aload hx hb dX9_addPiecesOfPage_77 (lv_at hl 1 rfl) ?_
          refine o_cis (k := cells) (n := slots) hK hP hD hS hA (o_rV (As := []) (rest := []) hf (l_rows _ _ _ _ _ _ _ _ (xs.getD i 0) ((Es.getD i dE).1) ((Es.getD i dE).2.1) ((Es.getD i dE).2.2.1) txg2 ((Es.getD i dE).2.2.2.2.length) ((Es.getD i dE).2.2.2.1) rfg2 rtg2 ((eRw (Es.getD i dE))) h_eg2 _) k_695 k_692 k_693 k_694 k_90 (nA := 0) (by decide +kernel) ⟨Nat.le_trans (by decide) hRf, Nat.le_trans (by decide) hRl⟩ hK hP hD hS hA hZ hN h_eg2 rfl rfl rfl hl.1 rfl (Nat.le_of_ble_eq_true rfl) dX9_addPiecesOfPage_79 ⟨(show cells + 0 ≤ R.cells by omega), (show slots + 0 ≤ R.slots by omega)⟩) (Nat.le_refl _) (Nat.le_refl _) (fun r H locs hw hP hD hS => ?_)
          obtain rfl := hw
          refine lv_istore (lv' := [(7, .int (nI ((eRw (Es.getD i dE))))), (6, .int (nI rr)), (5, .ref (xs.getD i 0)), (4, .int (nI i)), (2, .int (nI pq)), (3, .int (nI pe)), (1, .int (nI gg)), (0, .ref dk)]) hx hb dX9_addPiecesOfPage_82 hl (by decide) rfl (fun ls hl => ?_)
          refine lv_aload_n hx hb dX9_addPiecesOfPage_84 rfl (lv_at hl 7 rfl) ?_
          refine o_get (D := D) (ci := 10) (v := .ref pr) (C := RX9) (T := TX9) (N := 12) hx hb hts inX9 hown hK hP h_dk rfl 5 (by decide) (hts _ k_434) (fun _ h9 => h9) rfl dX9_addPiecesOfPage_85 ?_
          refine lv_aload_n hx hb dX9_addPiecesOfPage_88 rfl (lv_at hl 7 rfl) ?_
          refine o_get (D := D) (ci := 10) (v := .ref pr) (C := RX9) (T := TX9) (N := 12) hx hb hts inX9 hown hK hP h_dk rfl 5 (by decide) (hts _ k_434) (fun _ h9 => h9) rfl dX9_addPiecesOfPage_89 ?_
          refine o_cis (k := cells) (n := slots) hK hP hD hS hA (o_rV (As := []) (rest := [.ref pr]) hf (p_size _ _ _ _ _ _ _ _ pr pcs spr nwh cp qa (fun e => xs.getD e 0) [] h_pr h_pcs _) k_691 k_688 k_689 k_690 k_92 (nA := 0) (by decide +kernel) ⟨Nat.le_trans (by decide) hRf, Nat.le_trans (by decide) hRl⟩ hK hP hD hS hA hZ hN h_pr rfl rfl rfl hl.1 rfl (Nat.le_of_ble_eq_true rfl) dX9_addPiecesOfPage_92 ⟨(show cells + 0 ≤ R.cells by omega), (show slots + 0 ≤ R.slots by omega)⟩) (Nat.le_refl _) (Nat.le_refl _) (fun r H locs hw hP hD hS => ?_)
          obtain rfl := hw
          refine lv_aload hx hb dX9_addPiecesOfPage_95 (lv_at hl 2 rfl) ?_
          refine lv_iload hx hb dX9_addPiecesOfPage_97 (lv_at hl 1 rfl) ?_
          refine lv_iload hx hb dX9_addPiecesOfPage_99 (lv_at hl 0 rfl) ?_
          refine lv_iload_n hx hb dX9_addPiecesOfPage_101 rfl (lv_at hl 6 rfl) ?_
          refine o_cv (k := cells + (pnew sa + gcel qa.length cp)) (n := slots + (4 * pnew sa + gslo qa.length cp)) hK hP hD hS hA (o_rV (As := [.int (nI (qa.length)), .ref (xs.getD i 0), .int (nI rr), .int (nI ((eRw (Es.getD i dE)))), .int (nI gg)]) (rest := []) hf (p_put _ _ _ _ _ _ _ _ pr pcs spr nwh cp cs qa sa (fun e => xs.getD e 0) QP (qa.length) i rr ((eRw (Es.getD i dE))) gg h_pr h_pcs h_spr h_pc h_sp (by omega) (by omega) hnd (by omega) (by omega) _) k_699 k_696 k_697 k_698 k_92 (nA := 5) (by decide +kernel) ⟨Nat.le_trans (by decide) hRf, Nat.le_trans (by decide) hRl⟩ hK hP hD hS hA hZ hN h_pr rfl rfl rfl hl.1 rfl (Nat.le_of_ble_eq_true rfl) dX9_addPiecesOfPage_102 ⟨(show cells + (pnew sa + gcel qa.length cp) ≤ R.cells by omega), (show slots + (4 * pnew sa + gslo qa.length cp) ≤ R.slots by omega)⟩) (by omega) (by omega) (fun L g H locs hw hP hD hS => ?_)
          obtain ⟨x9, s9, hf9, h_pcs, h_spr, h_pc, h_sp, hnd9, hln9⟩ := hw
          have h_dk := h_dk.fr hf9 (by decide)
          have h_pr := h_pr.fr hf9 (by decide)
          have h_bk := h_bk.fr hf9 (by decide)
          have h_bop := h_bop.fr hf9 (by decide)
          have h_eg2 := h_eg2.fr hf9 (by decide)
          have hfr := hfr.tr hf9
          have h_els := h_els.frd hf9 (by decide)
          have h_es := h_es.frd hf9 (by decide)
          refine lv_iinc (v := nI (i + 1)) (lv' := [(4, .int (nI (i + 1))), (7, .int (nI ((eRw (Es.getD i dE))))), (6, .int (nI rr)), (5, .ref (xs.getD i 0)), (2, .int (nI pq)), (3, .int (nI pe)), (1, .int (nI gg)), (0, .ref dk)]) hx hb dX9_addPiecesOfPage_105 hl (k := 3) rfl (nI_addE (a := i) (b := 1) (by omega)) (by decide) rfl (fun ls hl => ?_)
          refine lv_goto (tgt := 19) hx hb dX9_addPiecesOfPage_108 (by decide) ?_
          have hJ : lsJ QP qa.length (i, rr, eRw (Es.getD i dE), gg) = QP ++ [(i, rr, eRw (Es.getD i dE), gg)] := lsJ_end (by omega)
          rw [hJ] at h_pc
          have hIl := lsI_len (xs := qa) (x := x9) (Nat.le_refl qa.length)
          have hte : qT P i - qF P i = (P.getD i d4).2.2.1 - (P.getD i d4).2.1 := rfl
          have hlk : lk_page (qF P) (qT P) pq rr qq ss gg (k + 1) i = (i, rr, eRw (Es.getD i dE), gg) :: lk_page (qF P) (qT P) pq rr qq ss gg k (i + 1) := by rw [lk_page_lt (show i < qq by omega) (show rr = (if i = pq then rr else 0) by rw [if_pos (show i = pq by omega)]), show qT P i - qF P i = eRw (Es.getD i dE) by omega]
          have hlen : (lk_page (qF P) (qT P) pq rr qq ss gg (k + 1) i).length = (lk_page (qF P) (qT P) pq rr qq ss gg k (i + 1)).length + 1 := by rw [hlk, List.length_cons]
          have hBc2 : Bc = cpx (lk_page (qF P) (qT P) pq rr qq ss gg k (i + 1)).length (qa.length + 1) (ncap qa.length cp) := by rw [hBc, hlen]; rfl
          have hBc3 : ncap qa.length cp ≤ Bc := by rw [hBc2]; exact cpx_ge _ _ _
          rw [hlen] at hRc hRs
          refine W.widen (k := cells + (pnew sa + gcel qa.length cp)) (n := slots + (4 * pnew sa + gslo qa.length cp)) (by omega) (by omega) ?_
          exact ih (i + 1) (lsI qa qa.length x9) s9 (QP ++ [(i, rr, eRw (Es.getD i dE), gg)]) (ncap qa.length cp) _ _ _ _ H locs ls (by omega) (by omega) hnd9 (by omega) (by omega) (by omega) (fun h9 => by rw [hIl, if_neg (show ¬ i + 1 = pq by omega)]; omega) (by rw [hIl]; exact hBc2) (by omega) (by omega) h_dk h_pr h_pcs h_spr h_pc h_sp h_els h_es h_bk h_bop hfr hP hD hS (lv_sub hl (l' := [(4, .int (nI (i + 1))), (2, .int (nI pq)), (3, .int (nI pe)), (1, .int (nI gg)), (0, .ref dk)]) [0, 4, 5, 6, 7] rfl) (fun qa2 sa2 QP2 cp2 L g H locs ls b1 b2 b3 b4 => kk qa2 sa2 QP2 cp2 L g H locs ls b1 b2 (b3.trans (by rw [hlk, List.append_assoc]; rfl)) ⟨b4.1, by rw [hlen]; omega⟩)
        · have c_5 := q_eqn (a := i) (b := pe) (by omega) (by omega) c_5
          refine lv_aload_n hx hb dX9_addPiecesOfPage_67 rfl (lv_at hl 6 rfl) ?_
          refine o_get (D := D) (ci := 10) (v := .ref bk) (C := RX9) (T := TX9) (N := 12) hx hb hts inX9 hown hK hP h_dk rfl 6 (by decide) (hts _ k_435) (fun _ h9 => h9) rfl dX9_addPiecesOfPage_68 ?_
          refine o_cis (k := cells) (n := slots) hK hP hD hS hA (o_rV (As := []) (rest := []) hf (bk_er _ _ _ _ _ _ _ _ pr pa P bk lf bop cf nx 1 (nI cn) fb pq rr pe re h_bk h_bop hpa60 hFb hSb (by omega) (by omega) (by omega) (by omega) _) k_904 k_901 k_902 k_903 k_95 (nA := 0) (by decide +kernel) ⟨Nat.le_trans (by decide) hRf, Nat.le_trans (by decide) hRl⟩ hK hP hD hS hA hZ hN h_bk rfl rfl rfl hl.1 rfl (Nat.le_of_ble_eq_true rfl) dX9_addPiecesOfPage_71 ⟨(show cells + 0 ≤ R.cells by omega), (show slots + 0 ≤ R.slots by omega)⟩) (Nat.le_refl _) (Nat.le_refl _) (fun r H locs hw hP hD hS => ?_)
          obtain rfl := hw
          refine lv_goto (tgt := 82) hx hb dX9_addPiecesOfPage_74 (by decide) ?_
          refine lv_istore (lv' := [(7, .int (nI (re + 1))), (6, .int (nI rr)), (5, .ref (xs.getD i 0)), (4, .int (nI i)), (2, .int (nI pq)), (3, .int (nI pe)), (1, .int (nI gg)), (0, .ref dk)]) hx hb dX9_addPiecesOfPage_82 hl (by decide) rfl (fun ls hl => ?_)
          refine lv_aload_n hx hb dX9_addPiecesOfPage_84 rfl (lv_at hl 7 rfl) ?_
          refine o_get (D := D) (ci := 10) (v := .ref pr) (C := RX9) (T := TX9) (N := 12) hx hb hts inX9 hown hK hP h_dk rfl 5 (by decide) (hts _ k_434) (fun _ h9 => h9) rfl dX9_addPiecesOfPage_85 ?_
          refine lv_aload_n hx hb dX9_addPiecesOfPage_88 rfl (lv_at hl 7 rfl) ?_
          refine o_get (D := D) (ci := 10) (v := .ref pr) (C := RX9) (T := TX9) (N := 12) hx hb hts inX9 hown hK hP h_dk rfl 5 (by decide) (hts _ k_434) (fun _ h9 => h9) rfl dX9_addPiecesOfPage_89 ?_
          refine o_cis (k := cells) (n := slots) hK hP hD hS hA (o_rV (As := []) (rest := [.ref pr]) hf (p_size _ _ _ _ _ _ _ _ pr pcs spr nwh cp qa (fun e => xs.getD e 0) [] h_pr h_pcs _) k_691 k_688 k_689 k_690 k_92 (nA := 0) (by decide +kernel) ⟨Nat.le_trans (by decide) hRf, Nat.le_trans (by decide) hRl⟩ hK hP hD hS hA hZ hN h_pr rfl rfl rfl hl.1 rfl (Nat.le_of_ble_eq_true rfl) dX9_addPiecesOfPage_92 ⟨(show cells + 0 ≤ R.cells by omega), (show slots + 0 ≤ R.slots by omega)⟩) (Nat.le_refl _) (Nat.le_refl _) (fun r H locs hw hP hD hS => ?_)
          obtain rfl := hw
          refine lv_aload hx hb dX9_addPiecesOfPage_95 (lv_at hl 2 rfl) ?_
          refine lv_iload hx hb dX9_addPiecesOfPage_97 (lv_at hl 1 rfl) ?_
          refine lv_iload hx hb dX9_addPiecesOfPage_99 (lv_at hl 0 rfl) ?_
          refine lv_iload_n hx hb dX9_addPiecesOfPage_101 rfl (lv_at hl 6 rfl) ?_
          refine o_cv (k := cells + (pnew sa + gcel qa.length cp)) (n := slots + (4 * pnew sa + gslo qa.length cp)) hK hP hD hS hA (o_rV (As := [.int (nI (qa.length)), .ref (xs.getD i 0), .int (nI rr), .int (nI (re + 1)), .int (nI gg)]) (rest := []) hf (p_put _ _ _ _ _ _ _ _ pr pcs spr nwh cp cs qa sa (fun e => xs.getD e 0) QP (qa.length) i rr (re + 1) gg h_pr h_pcs h_spr h_pc h_sp (by omega) (by omega) hnd (by omega) (by omega) _) k_699 k_696 k_697 k_698 k_92 (nA := 5) (by decide +kernel) ⟨Nat.le_trans (by decide) hRf, Nat.le_trans (by decide) hRl⟩ hK hP hD hS hA hZ hN h_pr rfl rfl rfl hl.1 rfl (Nat.le_of_ble_eq_true rfl) dX9_addPiecesOfPage_102 ⟨(show cells + (pnew sa + gcel qa.length cp) ≤ R.cells by omega), (show slots + (4 * pnew sa + gslo qa.length cp) ≤ R.slots by omega)⟩) (by omega) (by omega) (fun L g H locs hw hP hD hS => ?_)
          obtain ⟨x9, s9, hf9, h_pcs, h_spr, h_pc, h_sp, hnd9, hln9⟩ := hw
          have h_dk := h_dk.fr hf9 (by decide)
          have h_pr := h_pr.fr hf9 (by decide)
          have h_bk := h_bk.fr hf9 (by decide)
          have h_bop := h_bop.fr hf9 (by decide)
          have h_eg2 := h_eg2.fr hf9 (by decide)
          have hfr := hfr.tr hf9
          have h_els := h_els.frd hf9 (by decide)
          have h_es := h_es.frd hf9 (by decide)
          refine lv_iinc (v := nI (i + 1)) (lv' := [(4, .int (nI (i + 1))), (7, .int (nI (re + 1))), (6, .int (nI rr)), (5, .ref (xs.getD i 0)), (2, .int (nI pq)), (3, .int (nI pe)), (1, .int (nI gg)), (0, .ref dk)]) hx hb dX9_addPiecesOfPage_105 hl (k := 3) rfl (nI_addE (a := i) (b := 1) (by omega)) (by decide) rfl (fun ls hl => ?_)
          refine lv_goto (tgt := 19) hx hb dX9_addPiecesOfPage_108 (by decide) ?_
          have hJ : lsJ QP qa.length (i, rr, re + 1, gg) = QP ++ [(i, rr, re + 1, gg)] := lsJ_end (by omega)
          rw [hJ] at h_pc
          have hIl := lsI_len (xs := qa) (x := x9) (Nat.le_refl qa.length)
          have hte : qT P i - qF P i = (P.getD i d4).2.2.1 - (P.getD i d4).2.1 := rfl
          have hie : i = pe := by omega
          have hlk : lk_page (qF P) (qT P) pq rr qq ss gg (k + 1) i = (i, rr, re + 1, gg) :: lk_page (qF P) (qT P) pq rr qq ss gg k (i + 1) := by
            rcases hrel with ⟨h1, h2, h3⟩ | ⟨h1, h2, h3⟩
            · rw [lk_page_eq (show i = qq by omega) h1 (show rr = (if i = pq then rr else 0) by rw [if_pos (show i = pq by omega)]), h3]
            · rw [← hie] at h3
              rw [lk_page_lt (show i < qq by omega) (show rr = (if i = pq then rr else 0) by rw [if_pos (show i = pq by omega)]), show qT P i - qF P i = re + 1 by omega]
          have hlen : (lk_page (qF P) (qT P) pq rr qq ss gg (k + 1) i).length = (lk_page (qF P) (qT P) pq rr qq ss gg k (i + 1)).length + 1 := by rw [hlk, List.length_cons]
          have hBc2 : Bc = cpx (lk_page (qF P) (qT P) pq rr qq ss gg k (i + 1)).length (qa.length + 1) (ncap qa.length cp) := by rw [hBc, hlen]; rfl
          have hBc3 : ncap qa.length cp ≤ Bc := by rw [hBc2]; exact cpx_ge _ _ _
          rw [hlen] at hRc hRs
          refine W.widen (k := cells + (pnew sa + gcel qa.length cp)) (n := slots + (4 * pnew sa + gslo qa.length cp)) (by omega) (by omega) ?_
          exact ih (i + 1) (lsI qa qa.length x9) s9 (QP ++ [(i, rr, re + 1, gg)]) (ncap qa.length cp) _ _ _ _ H locs ls (by omega) (by omega) hnd9 (by omega) (by omega) (by omega) (fun h9 => by rw [hIl, if_neg (show ¬ i + 1 = pq by omega)]; omega) (by rw [hIl]; exact hBc2) (by omega) (by omega) h_dk h_pr h_pcs h_spr h_pc h_sp h_els h_es h_bk h_bop hfr hP hD hS (lv_sub hl (l' := [(4, .int (nI (i + 1))), (2, .int (nI pq)), (3, .int (nI pe)), (1, .int (nI gg)), (0, .ref dk)]) [0, 4, 5, 6, 7] rfl) (fun qa2 sa2 QP2 cp2 L g H locs ls b1 b2 b3 b4 => kk qa2 sa2 QP2 cp2 L g H locs ls b1 b2 (b3.trans (by rw [hlk, List.append_assoc]; rfl)) ⟨b4.1, by rw [hlen]; omega⟩)
