/-- Breaking knows the pages -/
def bkK (cI_ : ClassId) (L : List Nat) (g : hG) (pr bk lf : Nat) (EE : Nat → E5) (P : List Q4) (n mo : Nat) (y9 y10 : Int32) (C : Nat → Option Q4) (cn : Nat) : Prop := ∃ (bop cf nx M : Nat) (fb fc fn : Nat → Int32), ho L g bk 21 (.inr (1, [.ref pr, .ref lf, .ref bop, .int (nI n), .int (nI ((qS P n))), .ref cf, .ref nx, .int 1, .int (nI cn), .int y9, .int y10])) ∧ ho L g bop 22 (.inl (cI_, 61, .inl fb)) ∧ ho L g cf 23 (.inl (cI_, M, .inl fc)) ∧ ho L g nx 24 (.inl (cI_, M, .inl fn)) ∧ (∀ j, j ≤ n → fb j = nI (qS P j)) ∧ qS P n < M ∧ M ≤ 60000 ∧ C = bk_all (qK EE P) (qF P) (qT P) (qR EE P) n mo n (fun _ => none) ∧ cn = (bk_pg (qF P) (qT P) n C 8000 0 0).length ∧ cf_tab P n C 0 fc fn ∧ bk_cl (qF P) (qT P) n C 0
/-- Breaking knows nothing -/
def bkU (cI_ : ClassId) (L : List Nat) (g : hG) (pr bk lf : Nat) : Prop := ∃ (bop cf nx bn bs M : Nat) (y8 y9 y10 : Int32) (fb fc fn : Nat → Int32), ho L g bk 21 (.inr (1, [.ref pr, .ref lf, .ref bop, .int (nI bn), .int (nI bs), .ref cf, .ref nx, .int 0, .int y8, .int y9, .int y10])) ∧ ho L g bop 22 (.inl (cI_, 61, .inl fb)) ∧ ho L g cf 23 (.inl (cI_, M, .inl fc)) ∧ ho L g nx 24 (.inl (cI_, M, .inl fn)) ∧ 1 ≤ M ∧ M ≤ 60000
def bkS (cI_ : ClassId) (L : List Nat) (g : hG) (pr bk lf : Nat) (EE : Nat → E5) (P : List Q4) (n mo : Nat) : Prop := bkU cI_ L g pr bk lf ∨ ∃ (y9 y10 : Int32) (C : Nat → Option Q4) (cn : Nat), bkK cI_ L g pr bk lf EE P n mo y9 y10 C cn

set_option maxHeartbeats 1000000 in
set_option maxRecDepth 100000 in
theorem bk_refK2 (l : Launch) (D : va_G) (z : Nat → Nat) (cB cI_ cO : ClassId) (L0 : List Nat) (g0 : hG) (pr : Nat) (bk lf bop cf nx : Nat) (bn bs : Nat) (y8 y9 y10 : Int32) (mo sq : Nat) (h_bk : ho L0 g0 bk 21 (.inr (1, [.ref pr, .ref lf, .ref bop, .int (nI bn), .int (nI bs), .ref cf, .ref nx, .int 1, .int y8, .int y9, .int y10])))  : eVs l D yX0_refresh cX0_refresh 4 none 10 300 2 (4 * sq) [.ref bk, .int (nI mo)] z cB cI_ cO L0 g0 (True) := by
  refine o_sv (by decide) (Nat.le_of_ble_eq_true rfl) ?_
  intro p e s m below meth c A ls hf hr hlocks hin hK hP hD hS hA hZ hN hl
  obtain ⟨hx, hb, hml, hown, hts⟩ := id hf
  have hl : lv_has ls 4 [(0, .ref bk), (1, .int (nI mo))] := hl
  refine lv_aload_n hx hb dX0_refresh_0 rfl (lv_at hl 0 rfl) ?_
  refine o_get (D := D) (ci := 1) (v := .int 1) (C := RX0) (T := TX0) (N := 11) hx hb hts inX0 hown hK hP h_bk rfl 7 (by decide) (hts _ k_355) (fun _ h9 => h9) rfl dX0_refresh_1 ?_
  refine lv_if_eq (tgt := 8) hx hb dX0_refresh_4 (by decide) (fun hno => absurd hno (by decide)) (fun _ => ?_)
  exact o_rv hf hr hlocks hK hP hD hS (show 0 ≤ 2 by omega) (show 0 ≤ 4 * sq by omega) ⟨trivial, rfl, rfl⟩ dX0_refresh_7
theorem bk_ref (l : Launch) (D : va_G) (z : Nat → Nat) (cB cI_ cO : ClassId) (L0 : List Nat) (g0 : hG) (pr pcs spr nwh cp : Nat) (pa : List Nat) (ea : Nat → Nat) (P : List Q4) (ne : Nat) (EE : Nat → E5) (bk lf : Nat) (x1 x2 x3 x4 x5 x6 : Int32) (mo : Nat) (h_pr : ho L0 g0 pr 13 (.inr (7, [.ref pcs, .ref spr, .ref nwh]))) (h_pcs : alR cO (z 0) 14 15 L0 g0 pcs cp pa) (h_pc : pcR L0 g0 ea pa P) (h_es : esR cB cI_ L0 g0 ea ne EE) (h_lf : ho L0 g0 lf 20 (.inr (4, [.ref pr, .int x1, .int x2, .int x3, .int x4, .int x5, .int x6]))) (h_bs : bkS cI_ L0 g0 pr bk lf EE P pa.length mo) (hpa60 : pa.length ≤ 60) (hpa : pa.length ≤ 20000) (hQ : pq_ok ne EE P) (hU : pu_ok EE P) (hSb : ∀ i, i ≤ pa.length → qS P i ≤ 8000) (hmo1 : 10 ≤ mo) (hmo : mo ≤ 40) : eV l D yX0_refresh cX0_refresh 4 none 10 300 2 (4 * qS P pa.length) [.ref bk, .int (nI mo)] z cB cI_ cO L0 g0 (fun L g => ∃ (y9 y10 u1 u2 u3 u4 u5 u6 : Int32) (C : Nat → Option Q4) (cn : Nat), fr [20, 21, 22, 23, 24] L0 g0 L g ∧ bkK cI_ L g pr bk lf EE P pa.length mo y9 y10 C cn ∧ ho L g lf 20 (.inr (4, [.ref pr, .int u1, .int u2, .int u3, .int u4, .int u5, .int u6]))) := by
  rcases h_bs with h | ⟨y9, y10, C, cn, h⟩
  · obtain ⟨bop, cf, nx, bn, bs, M, y8, y9, y10, fb, fc, fn, h1, h2, h3, h4, h5, h6⟩ := h
    refine eV_mo (bk_refr l D z cB cI_ cO L0 g0 pr pcs spr nwh cp pa ea P ne EE bk lf bop cf nx bn bs y8 y9 y10 fb M fc fn x1 x2 x3 x4 x5 x6 mo h_pr h_pcs h_pc h_es h1 h2 h3 h4 h_lf hpa60 hpa hQ hU hSb h6 h5 hmo1 hmo) (fun L g h => ?_)
    obtain ⟨c2, n2, M2, cn, fb2, fc2, fn2, C2, u1, u2, u3, u4, u5, u6, a1, a2, a3, a4, a5, a6, a7, a8, b1, b2, b3, b4, b5⟩ := h
    exact ⟨y9, y10, u1, u2, u3, u4, u5, u6, C2, cn, a8, ⟨bop, c2, n2, M2, fb2, fc2, fn2, b1, b2, b3, b4, a5, a6, a7, a1, a2, a3, a4⟩, b5⟩
  · obtain ⟨bop, cf, nx, M, fb, fc, fn, h1, h2⟩ := id h
    refine eV_mo (bk_refK2 l D z cB cI_ cO L0 g0 pr bk lf bop cf nx pa.length (qS P pa.length) (nI cn) y9 y10 mo (qS P pa.length) h1) (fun L g h9 => ?_)
    obtain ⟨_, rfl, rfl⟩ := h9
    exact ⟨y9, y10, x1, x2, x3, x4, x5, x6, C, cn, fr.rf, h, h_lf⟩
