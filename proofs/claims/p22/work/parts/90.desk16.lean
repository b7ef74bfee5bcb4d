theorem cpx_le {B : Nat} : ∀ m n cp, n ≤ cp → (cp = 0 ∨ 10 ≤ cp) → 3 * (n + m) ≤ 2 * B → cp ≤ B → 100 ≤ B → cpx m n cp ≤ B := by
  intro m
  induction m with
  | zero => intro n cp _ _ _ h _; exact h
  | succ m ih =>
    intro n cp h1 h2 h3 h4 h5
    have h6 := ncap_b h1 h2
    exact ih (n + 1) (ncap n cp) (by omega) (by omega) (by omega) (by omega) h5
theorem qS_lin {P : List Q4} {n i : Nat} (hz : ∀ i, i < n → 0 < (P.getD i d4).2.2.1 - (P.getD i d4).2.1) : ∀ d, i + d ≤ n → qS P i + d ≤ qS P (i + d) := by
  intro d
  induction d with
  | zero => intro _; exact Nat.le_refl _
  | succ d ih =>
    intro h
    have h1 := ih (by omega)
    have h2 := hz (i + d) (by omega)
    have h3 := qS_s P (i + d)
    rw [show i + (d + 1) = i + d + 1 by omega]
    omega
theorem lk_page_n {Fm To : Nat → Nat} {p0 r0 qq ss g pe : Nat} (h : (0 < ss ∧ pe = qq) ∨ (ss = 0 ∧ pe + 1 = qq)) : ∀ f p, (lk_page Fm To p0 r0 qq ss g f p).length ≤ pe + 1 - p := by
  intro f
  induction f with
  | zero => intro p; exact Nat.zero_le _
  | succ f ih =>
    intro p
    show (if p < qq then (p, (if p = p0 then r0 else 0), To p - Fm p, g) :: lk_page Fm To p0 r0 qq ss g f (p + 1) else if p = qq ∧ 0 < ss then [(p, (if p = p0 then r0 else 0), ss, g)] else []).length ≤ pe + 1 - p
    by_cases c : p < qq
    · rw [if_pos c, List.length_cons]
      have := ih (p + 1)
      omega
    · rw [if_neg c]
      by_cases c2 : p = qq ∧ 0 < ss
      · rw [if_pos c2]
        show 1 ≤ _
        omega
      · rw [if_neg c2]; exact Nat.zero_le _
/-- the pieces of the first pages, locked: groups from 1 on -/
def lk_cls (Fm To Bp Br : Nat → Nat) : Nat → List Q4
  | 0 => []
  | g + 1 => lk_cls Fm To Bp Br g ++ lk_page Fm To (Bp g) (Br g) (Bp (g + 1)) (Br (g + 1)) (g + 1) 8001 (Bp g)
def bf1 (b : Option Q4) : Int32 := match b with | none => -1 | some y => nI y.1
def bf2 (b : Option Q4) : Int32 := match b with | none => 0 | some y => nI y.2.1
def bf3 (b : Option Q4) : Int32 := match b with | none => 0 | some y => nI y.2.2.1
def bf4 (b : Option Q4) : Int32 := match b with | none => 0 | some y => nI y.2.2.2
theorem cf_bk {P : List Q4} {n : Nat} {C : Nat → Option Q4} {fc fn : Nat → Int32} (h : cf_tab P n C 0 fc fn) : bk_tab (qF P) (qT P) n C 0 (fun j => bf1 (C j)) (fun j => bf2 (C j)) (fun j => bf3 (C j)) (fun j => bf4 (C j)) := by
  intro j h1 h2
  refine ⟨?_, (h.1 j h1 h2).2⟩
  show bk_is (C j) (bf1 (C j)) (bf2 (C j)) (bf3 (C j)) (bf4 (C j))
  cases C j with
  | none => exact rfl
  | some y => exact ⟨rfl, rfl, rfl, rfl⟩
theorem pg_next {Fm To : Nat → Nat} {pn : Nat} {C : Nat → Option Q4} {f1 f2 f3 f4 : Nat → Int32} (hz : ∀ p, p < pn → 0 < To p - Fm p) (htab : bk_tab Fm To pn C 0 f1 f2 f3 f4) (hcl : bk_cl Fm To pn C 0) : ∀ f p r j, pg_at Fm To pn C p r → rs_S Fm To pn ≤ rs_S Fm To p + r + f → j < (bk_pg Fm To pn C f p r).length → ∀ pq rr t y, (bk_pg Fm To pn C f p r).getD j (0, 0, 0) = (pq, rr, t) → C (rs_S Fm To pq + rr) = some y → pg_B pn (bk_pg Fm To pn C f p r) j = pq ∧ pg_R pn (bk_pg Fm To pn C f p r) j = rr ∧ pg_B pn (bk_pg Fm To pn C f p r) (j + 1) = y.2.1 ∧ pg_R pn (bk_pg Fm To pn C f p r) (j + 1) = y.2.2.1 := by
  intro f
  induction f with
  | zero => intro p r j _ _ hj; exact absurd hj (Nat.not_lt_zero j)
  | succ f ih =>
    intro p r j h hf hj pq rr t y hg hy
    by_cases hp : p < pn
    · obtain ⟨hr, y2, hy2⟩ := h.2.2 hp
      have hn := pg_nx hz htab hcl hp hr hy2
      rw [bk_pg_in hp hy2] at hj hg ⊢
      cases j with
      | zero =>
        have hg : (p, r, y2.2.2.2) = (pq, rr, t) := hg
        cases hg
        rw [hy2] at hy
        cases hy
        have h1 := pg_ok hz htab hcl f y.2.1 y.2.2.1 hn.1 (by omega)
        exact ⟨rfl, rfl, h1.1, h1.2.1⟩
      | succ j => exact ih y2.2.1 y2.2.2.1 j hn.1 (by omega) (by rw [List.length_cons] at hj; omega) pq rr t y hg hy
    · rw [bk_pg_out hp] at hj
      exact absurd hj (Nat.not_lt_zero j)
/-- Breaking as it stands, whatever it knows -/
def bkZ (cI_ : ClassId) (L : List Nat) (g : hG) (pr bk lf : Nat) : Prop := ∃ (bop cf nx bn bs M : Nat) (y7 y8 y9 y10 : Int32) (fb fc fn : Nat → Int32), ho L g bk 21 (.inr (1, [.ref pr, .ref lf, .ref bop, .int (nI bn), .int (nI bs), .ref cf, .ref nx, .int y7, .int y8, .int y9, .int y10])) ∧ ho L g bop 22 (.inl (cI_, 61, .inl fb)) ∧ ho L g cf 23 (.inl (cI_, M, .inl fc)) ∧ ho L g nx 24 (.inl (cI_, M, .inl fn)) ∧ 1 ≤ M ∧ M ≤ 60000
theorem dX9_addPiecesOfPage_0 : decode cX9_addPiecesOfPage 0 = .ok (.aload_n 0, 1) := by decide +kernel
theorem dX9_addPiecesOfPage_1 : decode cX9_addPiecesOfPage 1 = .ok (.getfield 63, 3) := by decide +kernel
theorem dX9_addPiecesOfPage_4 : decode cX9_addPiecesOfPage 4 = .ok (.invokevirtual 168, 3) := by decide +kernel
theorem dX9_addPiecesOfPage_7 : decode cX9_addPiecesOfPage 7 = .ok (.istore_n 2, 1) := by decide +kernel
theorem dX9_addPiecesOfPage_8 : decode cX9_addPiecesOfPage 8 = .ok (.aload_n 0, 1) := by decide +kernel
theorem dX9_addPiecesOfPage_9 : decode cX9_addPiecesOfPage 9 = .ok (.getfield 63, 3) := by decide +kernel
theorem dX9_addPiecesOfPage_12 : decode cX9_addPiecesOfPage 12 = .ok (.invokevirtual 174, 3) := by decide +kernel
theorem dX9_addPiecesOfPage_15 : decode cX9_addPiecesOfPage 15 = .ok (.istore_n 3, 1) := by decide +kernel
theorem dX9_addPiecesOfPage_16 : decode cX9_addPiecesOfPage 16 = .ok (.iload_n 2, 1) := by decide +kernel
theorem dX9_addPiecesOfPage_17 : decode cX9_addPiecesOfPage 17 = .ok (.istore 4, 2) := by decide +kernel
theorem dX9_addPiecesOfPage_111 : decode cX9_addPiecesOfPage 111 = .ok (.return_, 1) := by decide +kernel
set_option maxHeartbeats 1000000 in
set_option maxRecDepth 100000 in
theorem d_addP (l : Launch) (D : va_G) (z : Nat → Nat) (cB cI_ cO : ClassId) (L0 : List Nat) (g0 : hG) (dk tp rd els reo nob pr bk gl sl mo pcs spr nwh cs cap lf bop cf nx cn B Bc SN : Nat) (v11 : Int32) (xs pa : List Nat) (P : List Q4) (Es : List E5) (fb : Nat → Int32) (pq rr pe re qq ss gg : Nat) (qa sa : List Nat) (QP : List Q4) (cp : Nat) (h_dk : ho L0 g0 dk 1 (.inr (10, [.ref tp, .ref rd, .ref els, .ref reo, .ref nob, .ref pr, .ref bk, .ref gl, .ref sl, .int (nI mo), .int 0, .int v11]))) (h_pr : ho L0 g0 pr 13 (.inr (7, [.ref pcs, .ref spr, .ref nwh]))) (h_pcs : alR cO (z 0) 14 15 L0 g0 pcs cp qa) (h_spr : alR cO (z 0) 16 17 L0 g0 spr cs sa) (h_pc : pcR L0 g0 (fun e => xs.getD e 0) qa QP) (h_sp : spR L0 g0 sa) (h_els : alR cO (z 0) 5 6 L0 g0 els cap xs) (h_es : elsR cB cI_ L0 g0 xs Es) (h_bk : ho L0 g0 bk 21 (.inr (1, [.ref pr, .ref lf, .ref bop, .int (nI (pa.length)), .int (nI ((qS P pa.length))), .ref cf, .ref nx, .int 1, .int (nI cn), .int (nI ((qS P pq + rr))), .int (nI ((qS P pe + re + 1)))]))) (h_bop : ho L0 g0 bop 22 (.inl (cI_, 61, .inl fb))) (hxl : xs.length ≤ 60) (hplx : pa.length = xs.length) (hpa60 : pa.length ≤ 60) (hFb : ∀ i, i ≤ pa.length → fb i = nI (qS P i)) (hSb : ∀ i, i ≤ pa.length → qS P i ≤ 8000) (hpn : pq < pa.length) (hrr : rr < (P.getD pq d4).2.2.1 - (P.getD pq d4).2.1) (hpen : pe < pa.length) (hre : re < (P.getD pe d4).2.2.1 - (P.getD pe d4).2.1) (hPU : ∀ i, i < pa.length → (P.getD i d4).2.1 = 0 ∧ (P.getD i d4).2.2.1 = eRw (Es.getD i dE)) (hrel : (0 < ss ∧ pe = qq ∧ re + 1 = ss) ∨ (ss = 0 ∧ pe + 1 = qq ∧ re + 1 = (P.getD pe d4).2.2.1 - (P.getD pe d4).2.1)) (hgg : gg ≤ 20000) (hSN : SN ≤ 10000) (hB : 100 ≤ B) (hB2 : B ≤ 60000) (hBs2 : 3 * SN ≤ 2 * B) (hSNq : qS P pa.length ≤ SN) (hlt9 : qS P pq + rr < qS P pe + re + 1) (hz0 : ∀ i, i < pa.length → 0 < (P.getD i d4).2.2.1 - (P.getD i d4).2.1) (hBc : Bc = cpx (lk_page (qF P) (qT P) pq rr qq ss gg 8001 pq).length qa.length cp) (hnd : (qa ++ sa).Nodup) (hsl : qa.length + sa.length ≤ SN) (hcpB : cp ≤ B) (hm0 : qa.length ≤ qS P pq + rr) : eV l D yX9_addPiecesOfPage cX9_addPiecesOfPage 8 none 8 200 (((lk_page (qF P) (qT P) pq rr qq ss gg 8001 pq).length - sa.length) + (Bc - cp) / 5) (4 * ((lk_page (qF P) (qT P) pq rr qq ss gg 8001 pq).length - sa.length) + 4 * (Bc - cp)) [.ref dk, .int (nI gg)] z cB cI_ cO L0 g0 (fun L g => ∃ (qa2 sa2 : List Nat) (QP2 : List Q4) (cp2 : Nat), (qa2 ++ sa2).Nodup ∧ (qa2.length + sa2.length ≤ SN ∧ cp2 ≤ B ∧ qa2.length ≤ qS P pe + re + 1) ∧ QP2 = QP ++ lk_page (qF P) (qT P) pq rr qq ss gg 8001 pq ∧ (cp2 = Bc ∧ sa2.length = sa.length - (lk_page (qF P) (qT P) pq rr qq ss gg 8001 pq).length) ∧ fr [14, 15, 16, 17, 18] L0 g0 L g ∧ alR cO (z 0) 14 15 L g pcs cp2 qa2 ∧ alR cO (z 0) 16 17 L g spr cs sa2 ∧ pcR L g (fun e => xs.getD e 0) qa2 QP2 ∧ spR L g sa2) := by
  refine o_sv (by decide) (Nat.le_of_ble_eq_true rfl) ?_
  intro p e s m below meth c A ls hf hr hlocks hin hK hP hD hS hA hZ hN hl
  obtain ⟨hx, hb, hml, hown, hts⟩ := id hf
  have hl : lv_has ls 8 [(0, .ref dk), (1, .int (nI gg))] := hl
  have hfr : fr [14, 15, 16, 17, 18] L0 g0 L0 g0 := fr.rf
  refine lv_aload_n hx hb dX9_addPiecesOfPage_0 rfl (lv_at hl 0 rfl) ?_
  refine o_get (D := D) (ci := 10) (v := .ref bk) (C := RX9) (T := TX9) (N := 12) hx hb hts inX9 hown hK hP h_dk rfl 6 (by decide) (hts _ k_435) (fun _ h9 => h9) rfl dX9_addPiecesOfPage_1 ?_
  refine o_cis (k := 0) (n := 0) hK hP hD hS hA (o_rV (As := []) (rest := []) hf (bk_fp _ _ _ _ _ _ _ _ pr pa P bk lf bop cf nx 1 (nI cn) fb pq rr pe re h_bk h_bop hpa60 hFb hSb (by omega) (by omega) (by omega) (by omega) _) k_886 k_895 k_884 k_885 k_95 (nA := 0) (by decide +kernel) ⟨Nat.le_of_ble_eq_true rfl, Nat.le_of_ble_eq_true rfl⟩ hK hP hD hS hA hZ hN h_bk rfl rfl rfl hl.1 rfl (Nat.le_of_ble_eq_true rfl) dX9_addPiecesOfPage_4 ⟨(show 0 + 0 ≤ ((lk_page (qF P) (qT P) pq rr qq ss gg 8001 pq).length - sa.length) + (Bc - cp) / 5 by omega), (show 0 + 0 ≤ 4 * ((lk_page (qF P) (qT P) pq rr qq ss gg 8001 pq).length - sa.length) + 4 * (Bc - cp) by omega)⟩) (Nat.le_refl _) (Nat.le_refl _) (fun r H locs hw hP hD hS => ?_)
  obtain rfl := hw
  refine lv_istore_n (lv' := [(2, .int (nI pq)), (0, .ref dk), (1, .int (nI gg))]) hx hb dX9_addPiecesOfPage_7 rfl hl (by decide) rfl (fun ls hl => ?_)
  refine lv_aload_n hx hb dX9_addPiecesOfPage_8 rfl (lv_at hl 1 rfl) ?_
  refine o_get (D := D) (ci := 10) (v := .ref bk) (C := RX9) (T := TX9) (N := 12) hx hb hts inX9 hown hK hP h_dk rfl 6 (by decide) (hts _ k_435) (fun _ h9 => h9) rfl dX9_addPiecesOfPage_9 ?_
  refine o_cis (k := 0) (n := 0) hK hP hD hS hA (o_rV (As := []) (rest := []) hf (bk_lp _ _ _ _ _ _ _ _ pr pa P bk lf bop cf nx 1 (nI cn) fb pq rr pe re h_bk h_bop hpa60 hFb hSb (by omega) (by omega) (by omega) (by omega) _) k_900 k_897 k_898 k_899 k_95 (nA := 0) (by decide +kernel) ⟨Nat.le_of_ble_eq_true rfl, Nat.le_of_ble_eq_true rfl⟩ hK hP hD hS hA hZ hN h_bk rfl rfl rfl hl.1 rfl (Nat.le_of_ble_eq_true rfl) dX9_addPiecesOfPage_12 ⟨(show 0 + 0 ≤ ((lk_page (qF P) (qT P) pq rr qq ss gg 8001 pq).length - sa.length) + (Bc - cp) / 5 by omega), (show 0 + 0 ≤ 4 * ((lk_page (qF P) (qT P) pq rr qq ss gg 8001 pq).length - sa.length) + 4 * (Bc - cp) by omega)⟩) (Nat.le_refl _) (Nat.le_refl _) (fun r H locs hw hP hD hS => ?_)
  obtain rfl := hw
  refine lv_istore_n (lv' := [(3, .int (nI pe)), (2, .int (nI pq)), (0, .ref dk), (1, .int (nI gg))]) hx hb dX9_addPiecesOfPage_15 rfl hl (by decide) rfl (fun ls hl => ?_)
  refine lv_iload_n hx hb dX9_addPiecesOfPage_16 rfl (lv_at hl 1 rfl) ?_
  refine lv_istore (lv' := [(4, .int (nI pq)), (3, .int (nI pe)), (2, .int (nI pq)), (0, .ref dk), (1, .int (nI gg))]) hx hb dX9_addPiecesOfPage_17 hl (by decide) rfl (fun ls hl => ?_)
  have hqpp := qS_s P pq
  have hqpp2 : pe < pq → qS P (pe + 1) ≤ qS P pq := fun h9 => qS_m P (show pe + 1 ≤ pq by omega)
  have hqpe := qS_s P pe
  refine ap_loop (L0 := L0) (g0 := g0) (B := B) (Bc := Bc) (SN := SN) (qq := qq) (ss := ss) (re := re) (rr := rr) (cE := ((lk_page (qF P) (qT P) pq rr qq ss gg 8001 pq).length - sa.length) + (Bc - cp) / 5) (sE := 4 * ((lk_page (qF P) (qT P) pq rr qq ss gg 8001 pq).length - sa.length) + 4 * (Bc - cp)) hxl hplx hpa60 hFb hSb hpn hrr hpen hre hPU hrel hgg hSN hB hB2 hBs2 hSNq hlt9 hz0 (Nat.le_refl _) (Nat.le_refl _) (Nat.le_of_ble_eq_true rfl) (Nat.le_of_ble_eq_true rfl) hA hf hK hZ hN 8001 pq qa sa QP cp 0 0 _ _ _ _ ls (by omega) (by omega) hnd hsl hcpB (fun h9 => absurd h9 (by omega)) (fun h9 => by rw [if_pos rfl]; exact hm0) hBc (by omega) (by omega) h_dk h_pr h_pcs h_spr h_pc h_sp h_els h_es h_bk h_bop hfr hP hD hS (lv_sub hl (l' := [(4, .int (nI pq)), (2, .int (nI pq)), (3, .int (nI pe)), (1, .int (nI gg)), (0, .ref dk)]) [0, 2, 1, 4, 3] rfl) (fun qa2 sa2 QP2 cp2 L g H locs ls b1 b2 b3 b4 h_dk h_pr h_pcs h_spr h_pc h_sp h_els h_es h_bk h_bop hfr hP hD hS hl => ?_)
  exact o_rv hf hr hlocks hK hP hD hS (show ((lk_page (qF P) (qT P) pq rr qq ss gg 8001 pq).length - sa.length) + (Bc - cp) / 5 ≤ ((lk_page (qF P) (qT P) pq rr qq ss gg 8001 pq).length - sa.length) + (Bc - cp) / 5 by omega) (show 4 * ((lk_page (qF P) (qT P) pq rr qq ss gg 8001 pq).length - sa.length) + 4 * (Bc - cp) ≤ 4 * ((lk_page (qF P) (qT P) pq rr qq ss gg 8001 pq).length - sa.length) + 4 * (Bc - cp) by omega) ⟨qa2, sa2, QP2, cp2, b1, b2, b3, b4, hfr, h_pcs, h_spr, h_pc, h_sp⟩ dX9_addPiecesOfPage_111
