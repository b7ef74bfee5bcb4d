noncomputable def rs_L (K : Nat → Int32) (Fm To Rr Gp : Nat → Nat) (pn mo g : Nat) : List I3 := if rg_first Gp g pn 0 < rg_first Gp (g + 1) pn 0 then rs_sh K Fm To Rr (rg_first Gp g pn 0) (rg_first Gp (g + 1) pn 0) mo 8000 (rg_first Gp g pn 0) 0 else [(0, -1, -1)]
theorem rsL_len {K : Nat → Int32} {Fm To Rr Gp : Nat → Nat} {pn mo g : Nat} : (rs_L K Fm To Rr Gp pn mo g).length = rs_nm K Fm To Rr Gp pn mo g := by
  unfold rs_L rs_nm rs_num
  rw [rs_cnt_sh]
  by_cases c : rg_first Gp g pn 0 < rg_first Gp (g + 1) pn 0
  · rw [if_pos c, if_neg]
    show ¬ (rs_sh _ _ _ _ _ _ _ (7999 + 1) _ _).length = 0
    unfold rs_sh
    rw [if_pos c, List.length_cons]
    omega
  · rw [if_neg c, rs_sh_out c]
    rfl
noncomputable def stV (pe : Nat → Int32) (e : I3) (w : Int32) : Int32 := if w = 0 then e.1 else if w = 1 then (if e.2.1 = -1 then 0 else e.2.2 - e.2.1 + 1) else if w = 2 then (if e.2.1 = -1 then -1 else pe e.2.1.toNatClampNeg) else (if e.2.1 = -1 then -1 else pe e.2.2.toNatClampNeg)
theorem nI_n1 {a : Nat} (h : a ≤ 20000) : ¬ nI a = -1 := fun z9 => by
  have h1 := congrArg Int32.toInt z9
  rw [nI_toInt (by omega)] at h1
  have h2 : ((-1 : Int32)).toInt = -1 := by decide
  omega
theorem stV_0 {pe : Nat → Int32} {e : I3} {w : Int32} (h : w = 0) : stV pe e w = e.1 := if_pos h
theorem stV_1 {pe : Nat → Int32} {e : I3} {w : Int32} (h : w = 1) : stV pe e w = (if e.2.1 = -1 then 0 else e.2.2 - e.2.1 + 1) := by
  rw [h]; unfold stV; rw [if_neg (by decide), if_pos rfl]
theorem stV_2 {pe : Nat → Int32} {e : I3} {w : Int32} (h : w = 2) : stV pe e w = (if e.2.1 = -1 then -1 else pe e.2.1.toNatClampNeg) := by
  rw [h]; unfold stV; rw [if_neg (by decide), if_neg (by decide), if_pos rfl]
theorem stV_3 {pe : Nat → Int32} {e : I3} {w : Int32} (n0 : ¬ w = 0) (n1 : ¬ w = 1) (n2 : ¬ w = 2) : stV pe e w = (if e.2.1 = -1 then -1 else pe e.2.2.toNatClampNeg) := by
  unfold stV; rw [if_neg n0, if_neg n1, if_neg n2]
theorem stV_1n {pe : Nat → Int32} {e : I3} {w : Int32} (h : w = 1) (e1 : e.2.1 = -1) : 0 = stV pe e w := by rw [stV_1 h, if_pos e1]
theorem stV_2n {pe : Nat → Int32} {e : I3} {w : Int32} (h : w = 2) (e1 : e.2.1 = -1) : -1 = stV pe e w := by rw [stV_2 h, if_pos e1]
theorem stV_3n {pe : Nat → Int32} {e : I3} {w : Int32} (n : ¬ w = 0 ∧ ¬ w = 1 ∧ ¬ w = 2) (e1 : e.2.1 = -1) : -1 = stV pe e w := by rw [stV_3 n.1 n.2.1 n.2.2, if_pos e1]
theorem stV_1p {pe : Nat → Int32} {e : I3} {w : Int32} {a b : Nat} (h : w = 1) (e1 : e.2.1 = nI a) (e2 : e.2.2 = nI b) (ha : a ≤ 20000) (hab : a ≤ b) : nI (b - a + 1) = stV pe e w := by
  rw [stV_1 h, if_neg (by rw [e1]; exact nI_n1 ha), e1, e2, pk_sub hab]
  exact (nI_add _ 1).symm
theorem stV_2p {pe : Nat → Int32} {e : I3} {w : Int32} {a : Nat} (h : w = 2) (e1 : e.2.1 = nI a) (ha : a ≤ 20000) : pe a = stV pe e w := by
  rw [stV_2 h, if_neg (by rw [e1]; exact nI_n1 ha), e1, nI_clamp (by omega)]
theorem stV_3p {pe : Nat → Int32} {e : I3} {w : Int32} {a b : Nat} (n : ¬ w = 0 ∧ ¬ w = 1 ∧ ¬ w = 2) (e1 : e.2.1 = nI a) (e2 : e.2.2 = nI b) (ha : a ≤ 20000) (hb : b ≤ 20000) : pe b = stV pe e w := by
  rw [stV_3 n.1 n.2.1 n.2.2, if_neg (by rw [e1]; exact nI_n1 ha), e2, nI_clamp (by omega)]
theorem sw_o2 {w : Int32} (h : w.toInt < 0 ∨ 2 < w.toInt) : ¬ w = 0 ∧ ¬ w = 1 ∧ ¬ w = 2 := ⟨fun z9 => by rw [z9] at h; revert h; decide, fun z9 => by rw [z9] at h; revert h; decide, fun z9 => by rw [z9] at h; revert h; decide⟩
theorem stN_lo {pe : Nat → Int32} {w : Int32} (h0 : ¬ w < 0) (h : w < 2) : 0 = stV pe (0, -1, -1) w := by
  rcases q_sw_0_3 w with c | c | c | c | c
  · exact (stV_0 (pe := pe) (e := ((0 : Int32), (-1 : Int32), (-1 : Int32))) c).symm
  · exact stV_1n c rfl
  · rw [c] at h; exact absurd h (by decide)
  · rw [c] at h; exact absurd h (by decide)
  · have e0 : (0 : Int32).toInt = 0 := by decide
    have e2 : (2 : Int32).toInt = 2 := by decide
    rw [Int32.lt_iff_toInt_lt] at h h0
    exact False.elim (by omega)
theorem stN_hi {pe : Nat → Int32} {w : Int32} (h : ¬ w < 2) : -1 = stV pe (0, -1, -1) w := by
  have n0 : ¬ w = 0 := fun z9 => by rw [z9] at h; exact h (by decide)
  have n1 : ¬ w = 1 := fun z9 => by rw [z9] at h; exact h (by decide)
  by_cases c : w = 2
  · exact stV_2n c rfl
  · exact stV_3n ⟨n0, n1, c⟩ rfl
theorem lp_e1 {x : N3} (h : 0 < x.2.1) : rs_lp x = x.1 := if_neg (by omega)
theorem lp_e0 {x : N3} (h : x.2.1 = 0) : rs_lp x = x.1 - 1 := if_pos h
/-- sheet: the answer -/
def stC (lk gs : Nat) (L : Nat → List I3) (pe : Nat → Int32) (x1 x2 x3 r : Int32) : Prop := ((x3 < 0 ∨ 3 < x3) ∧ r = (-2)) ∨ (¬ (x3 < 0 ∨ 3 < x3) ∧ lk = 0 ∧ r = (-3)) ∨ (¬ (x3 < 0 ∨ 3 < x3) ∧ 0 < lk ∧ ¬ (∃ g s : Nat, g < gs ∧ x1 = nI (g + 1) ∧ s < (L g).length ∧ x2 = nI s) ∧ r = (-2)) ∨ (∃ g s : Nat, ¬ (x3 < 0 ∨ 3 < x3) ∧ 0 < lk ∧ (g < gs ∧ x1 = nI (g + 1) ∧ s < (L g).length ∧ x2 = nI s) ∧ r = stV pe ((L g).getD s (0, 0, 0)) x3)
theorem stC_det {lk gs : Nat} {L : Nat → List I3} {pe : Nat → Int32} {x1 x2 x3 r1 r2 : Int32} (hg : 0 < lk → gs ≤ 8000) (hl : ∀ g, (L g).length ≤ 20000) (h1 : stC lk gs L pe x1 x2 x3 r1) (h2 : stC lk gs L pe x1 x2 x3 r2) : r1 = r2 := by
  rcases h1 with ⟨a1, a2⟩ | ⟨a1, a2, a3⟩ | ⟨a1, a2, a3, a4⟩ | ⟨g, s, a1, a2, a3, a4⟩ <;> rcases h2 with ⟨b1, b2⟩ | ⟨b1, b2, b3⟩ | ⟨b1, b2, b3, b4⟩ | ⟨g2, s2, b1, b2, b3, b4⟩
  · rw [a2, b2]
  · exact absurd a1 b1
  · exact absurd a1 b1
  · exact absurd a1 b1
  · exact absurd b1 a1
  · rw [a3, b3]
  · exact False.elim (by omega)
  · exact False.elim (by omega)
  · exact absurd b1 a1
  · exact False.elim (by omega)
  · rw [a4, b4]
  · exact absurd ⟨g2, s2, b3⟩ a3
  · exact absurd b1 a1
  · exact False.elim (by omega)
  · exact absurd ⟨g, s, a3⟩ b3
  · have h9 := hg a2
    have e9 := q_eqn (a := g + 1) (b := g2 + 1) (by omega) (by omega) (a3.2.1.symm.trans b3.2.1)
    have e8 : g = g2 := by omega
    have l1 := hl g
    have l2 := hl g2
    have e7 := q_eqn (a := s) (b := s2) (by omega) (by omega) (a3.2.2.2.symm.trans b3.2.2.2)
    rw [a4, b4, e8, e7]
theorem st_no1 {gs : Nat} {L : Nat → List I3} {x1 x2 : Int32} (h : ¬ (∃ g : Nat, g < gs ∧ x1 = nI (g + 1))) : ¬ (∃ g s : Nat, g < gs ∧ x1 = nI (g + 1) ∧ s < (L g).length ∧ x2 = nI s) := fun ⟨g, _, h1, h2, _⟩ => h ⟨g, h1, h2⟩
theorem st_no2 {gs : Nat} {L : Nat → List I3} {x1 x2 : Int32} (hl : ∀ g, (L g).length ≤ 20000) (h : x2 < 0) : ¬ (∃ g s : Nat, g < gs ∧ x1 = nI (g + 1) ∧ s < (L g).length ∧ x2 = nI s) := fun ⟨g, s, _, _, h3, h4⟩ => by
  rw [h4] at h
  have := hl g
  have := q_lt (a := s) (b := 0) (by omega) (by decide) h
  omega
theorem st_no3 {gs g1 ns : Nat} {L : Nat → List I3} {x2 : Int32} (hg : gs ≤ 8000) (hg1 : g1 < gs) (hn : ns ≤ 20000) (hl : (L g1).length = ns) (h : ¬ (∃ s : Nat, s < ns ∧ x2 = nI s)) : ¬ (∃ g s : Nat, g < gs ∧ nI (g1 + 1) = nI (g + 1) ∧ s < (L g).length ∧ x2 = nI s) := fun ⟨g, s, h1, h2, h3, h4⟩ => by
  have e9 := q_eqn (a := g1 + 1) (b := g + 1) (by omega) (by omega) h2
  have e8 : g1 = g := by omega
  rw [← e8, hl] at h3
  exact h ⟨s, h3, h4⟩

set_option maxHeartbeats 1000000 in
set_option maxRecDepth 100000 in
theorem lso2_ {p : Program} {l : Launch} {e : Env} {R : Room} {s : State} {m : MethodId} {args : Array Value} {below : List Frame} {meth : Method} {c : Code} {cells slots : Nat} {Q : State → Prop} {D : va_G} {A : Nat → Prop} {h0 : Nat} {q : Nat → Nat} {cB cI cZ : ClassId} {I : Nat → Int32} {F : Nat → Nat → Int32} {pn : Nat} {pe sl : Nat → Nat} {K : Nat → Int32} {Fm To Rr : Nat → Nat} {SL : List I3} {fi en mo s1 nn gg : Nat} {x3 : Int32} (hpv : rp_ok F pn pe sl K Fm To Rr) (hI2 : I 2 = nI mo) (hmo1 : 10 ≤ mo) (hmo : mo ≤ 40) (hen : en ≤ pn) (hfi : fi ≤ 8000) (hs1 : s1 < nn) (hnn : nn ≤ 8000) (hRf : 4 ≤ R.frames) (hRl : 130 ≤ R.locals) (hRc : cells ≤ R.cells) (hRs : slots ≤ R.slots) (hA : ∀ q : Nat, s.heap.size ≤ q → A q) (hf : CallFix p m c cX10_sheetOf 9 s args gT yX10_sheetOf.cls) (hK : va_K D vcl (mT cB cI cZ) s) :
    ∀ (k : Nat) (i : Nat) (pp : Nat) (rr : Nat) (v25 : Int32) (v26 : Int32) (v27 : Int32) (H : Heap) (locs : List Loc) (ls : Array Slot), i + k = s1 → pp ≤ en → (pp < en → rr < To pp - Fm pp) → i + rs_cnt K Fm To Rr fi en mo (8000 - i) pp rr = nn → SL.drop i = rs_sh K Fm To Rr fi en mo (8000 - i) pp rr →  va_P D vcl (mW h0 q cB cI cZ (upd (upd (upd I 25 v25) 26 v26) 27 v27) F) H → va_D A (mW h0 q cB cI cZ (upd (upd (upd I 25 v25) 26 v26) 27 v27) F) → va_S A s.heap H locs → lv_has ls 9 [(8, .int (nI i)), (7, .int (nI rr)), (6, .int (nI pp)), (5, .int (nI en)), (4, .int (nI fi)), (3, .int x3), (2, .int (nI s1)), (0, .ref h0)] →
    (∀ (pp : Nat) (rr : Nat) (v1 : Int32) (v2 : Int32) (v3 : Int32) (H : Heap) (locs : List Loc) (ls : Array Slot), pp < en → rr < To pp - Fm pp → SL.drop s1 = rs_sh K Fm To Rr fi en mo (8000 - s1) pp rr → va_P D vcl (mW h0 q cB cI cZ (upd (upd (upd I 25 v1) 26 v2) 27 v3) F) H → va_D A (mW h0 q cB cI cZ (upd (upd (upd I 25 v1) 26 v2) 27 v3) F) → va_S A s.heap H locs → lv_has ls 9 [(7, .int (nI rr)), (6, .int (nI pp)), (5, .int (nI en)), (4, .int (nI fi)), (3, .int x3), (0, .ref h0)] → W p l e R s m args below meth c H locs cells slots Q (F0 m 80 ls [])) →
    W p l e R s m args below meth c H locs cells slots Q (F0 m 44 ls []) := by
  obtain ⟨hx, hb, hml, hown, hts⟩ := id hf
  have hpn8 := hpv.1
  have hzz : ∀ p, p < en → 0 < To p - Fm p := fun p hp => by have := hpv.2 p (by omega); omega
  intro k
  induction k with
  | zero =>
    intro i pp rr v25 v26 v27 H locs ls hik hpp hrr hcn hdr hP hD hS hl kk
    refine lv_iload hx hb dX10_sheetOf_44 (lv_at hl 0 rfl) ?_
    refine lv_iload_n hx hb dX10_sheetOf_46 rfl (lv_at hl 6 rfl) ?_
    refine lv_icmp_ge (tgt := 80) hx hb dX10_sheetOf_47 (by decide) (fun c_1 => ?_) (fun c_1 => ?_)
    · have c_1 := q_le (a := s1) (b := i) (by omega) (by omega) c_1
      have hpe : pp < en := by
        rcases Nat.lt_or_ge pp en with h9 | h9
        · exact h9
        · rw [rs_cnt_out (by omega)] at hcn; omega
      obtain rfl : i = s1 := by omega
      exact kk pp rr v25 v26 v27 H locs ls hpe (hrr hpe) hdr hP hD hS (lv_sub hl (l' := [(7, .int (nI rr)), (6, .int (nI pp)), (5, .int (nI en)), (4, .int (nI fi)), (3, .int x3), (0, .ref h0)]) [1, 2, 3, 4, 5, 7] rfl)
    · have c_1 := q_nle (a := s1) (b := i) (by omega) (by omega) c_1
      exact absurd hik (by omega)
  | succ k ih =>
    intro i pp rr v25 v26 v27 H locs ls hik hpp hrr hcn hdr hP hD hS hl kk
    refine lv_iload hx hb dX10_sheetOf_44 (lv_at hl 0 rfl) ?_
    refine lv_iload_n hx hb dX10_sheetOf_46 rfl (lv_at hl 6 rfl) ?_
    refine lv_icmp_ge (tgt := 80) hx hb dX10_sheetOf_47 (by decide) (fun c_1 => ?_) (fun c_1 => ?_)
    · have c_1 := q_le (a := s1) (b := i) (by omega) (by omega) c_1
      exact absurd hik (by omega)
    · have c_1 := q_nle (a := s1) (b := i) (by omega) (by omega) c_1
      have hpe : pp < en := by
        rcases Nat.lt_or_ge pp en with h9 | h9
        · exact h9
        · rw [rs_cnt_out (by omega)] at hcn; omega
      have hrp := hrr hpe
      refine lv_aload_n hx hb dX10_sheetOf_50 rfl (lv_at hl 7 rfl) ?_
      refine lv_iload hx hb dX10_sheetOf_51 (lv_at hl 2 rfl) ?_
      refine lv_iload hx hb dX10_sheetOf_53 (lv_at hl 1 rfl) ?_
      refine lv_iload hx hb dX10_sheetOf_55 (lv_at hl 4 rfl) ?_
      refine lv_iload hx hb dX10_sheetOf_57 (lv_at hl 3 rfl) ?_
      refine q_cv (k := cells) (n := slots) hK hP hD hS hA (fun hPc hKc hDc => q_rV (As := [.int (nI pp), .int (nI rr), .int (nI fi), .int (nI en)]) (rest := []) hf (r_laySheet _ D h0 q cB cI cZ (upd (upd (upd I 25 v25) 26 v26) 27 v27) F pn pe sl K Fm To Rr pp rr fi en mo hpv hI2 hmo1 hmo (by omega) (by omega) (hrr (by omega)) (by omega) _) k_1455 k_1452 k_1454 k_73 k_98 (nA := 4) (by decide +kernel) ⟨Nat.le_trans (by decide) hRf, Nat.le_trans (by decide) hRl⟩ hK hP (ci := 11) (q0 := 0) rfl rfl rfl hPc hKc hDc (fun _ _ _ _ h => h) (fun _ _ _ => trivial) rfl hl.1 rfl (Nat.le_of_ble_eq_true rfl) dX10_sheetOf_59 ⟨hRc, hRs⟩) (Nat.le_refl _) (Nat.le_refl _) (fun u H locs hw hK hP hD hS => ?_)
      obtain ⟨b2, v1, v2, v3, a1, a2, rfl⟩ := hw
      obtain ⟨x, ex, hxf⟩ := rs_some (K := K) (Rr := Rr) (f := 40) hzz hmo1 hmo (show pp < en by omega) (hrr (by omega)) (pb_le (rp_ra (K pp) (Fm pp) pp rr fi))
      rw [a1.trans ex] at a2
      obtain ⟨rfl, rfl, rfl⟩ := a2
      have hP : va_P D vcl (mW h0 q cB cI cZ (upd (upd (upd I 25 (nI (x.1))) 26 (nI (x.2.1))) 27 (nI (x.2.2))) F) H := hP
      have hD : va_D A (mW h0 q cB cI cZ (upd (upd (upd I 25 (nI (x.1))) 26 (nI (x.2.1))) 27 (nI (x.2.2))) F) := hD
      refine lv_aload_n hx hb dX10_sheetOf_62 rfl (lv_at hl 7 rfl) ?_
      refine va_get (D := D) (ci := 11) (v := .int (nI (x.1))) (C := RX10) (T := TX10) (N := 48) hx hb hts inX10 hown hK hP 0 rfl rfl 25 (by decide) (hts _ k_1169) (fun _ h9 => h9) rfl dX10_sheetOf_63 ?_
      refine lv_istore (lv' := [(6, .int (nI (x.1))), (8, .int (nI i)), (7, .int (nI rr)), (5, .int (nI en)), (4, .int (nI fi)), (3, .int x3), (2, .int (nI s1)), (0, .ref h0)]) hx hb dX10_sheetOf_66 hl (by decide) rfl (fun ls hl => ?_)
      refine lv_aload_n hx hb dX10_sheetOf_68 rfl (lv_at hl 7 rfl) ?_
      refine va_get (D := D) (ci := 11) (v := .int (nI (x.2.1))) (C := RX10) (T := TX10) (N := 48) hx hb hts inX10 hown hK hP 0 rfl rfl 26 (by decide) (hts _ k_1170) (fun _ h9 => h9) rfl dX10_sheetOf_69 ?_
      refine lv_istore (lv' := [(7, .int (nI (x.2.1))), (6, .int (nI (x.1))), (8, .int (nI i)), (5, .int (nI en)), (4, .int (nI fi)), (3, .int x3), (2, .int (nI s1)), (0, .ref h0)]) hx hb dX10_sheetOf_72 hl (by decide) rfl (fun ls hl => ?_)
      refine lv_iinc (v := (nI (i + 1))) (lv' := [(8, .int (nI (i + 1))), (7, .int (nI (x.2.1))), (6, .int (nI (x.1))), (5, .int (nI en)), (4, .int (nI fi)), (3, .int x3), (2, .int (nI s1)), (0, .ref h0)]) hx hb dX10_sheetOf_74 hl (k := 2) rfl (nI_add i 1) (by decide) rfl (fun ls hl => ?_)
      refine lv_goto (tgt := 44) hx hb dX10_sheetOf_77 (by decide) ?_
      have hci := rs_cnt_in (f := 8000 - (i + 1)) hpe ex
      rw [show 8000 - (i + 1) + 1 = 8000 - i by omega] at hci
      have hdr9 := hdr
      rw [show 8000 - i = (8000 - (i + 1)) + 1 by omega] at hdr9
      exact ih (i + 1) x.1 x.2.1 _ _ _ H locs ls (by omega) hxf.2.1 hxf.2.2.1 (by omega) (rs_sh_st hdr9 hpe ex).2.2 hP hD hS (lv_sub hl (l' := [(8, .int (nI (i + 1))), (7, .int (nI (x.2.1))), (6, .int (nI (x.1))), (5, .int (nI en)), (4, .int (nI fi)), (3, .int x3), (2, .int (nI s1)), (0, .ref h0)]) [0, 1, 2, 3, 4, 5, 6, 7] rfl) kk
set_option maxHeartbeats 1000000 in
set_option maxRecDepth 100000 in
theorem r_sheetO2 (l : Launch) (D : va_G) (h0 : Nat) (q : Nat → Nat) (cB cI_ cZ : ClassId) (I : Nat → Int32) (F : Nat → Nat → Int32) (pn : Nat) (pe sl : Nat → Nat) (K : Nat → Int32) (Fm To Rr : Nat → Nat) (mo : Nat) (Gp : Nat → Nat) (gg s1 : Nat) (x3 : Int32) (hpv : rp_ok F pn pe sl K Fm To Rr) (hI2 : I 2 = nI mo) (hI14 : I 14 = nI pn) (hmo1 : 10 ≤ mo) (hmo : mo ≤ 40) (hSS : rs_S Fm To pn ≤ 8000) (hG : ∀ p, p < pn → F 18 p = nI (Gp p) ∧ Gp p ≤ 8000) (hgg : gg ≤ 8000) (hnc : ∀ g, rs_num K Fm To Rr Gp pn mo g ≤ 8000) (hs1 : s1 < rs_nm K Fm To Rr Gp pn mo gg) (hw0 : ¬ x3 < 0) : cI l D yX10_sheetOf cX10_sheetOf 9 (some .int) 4 130 0 0 [.ref h0, .int (nI gg), .int (nI s1), .int x3] zT (mW h0 q cB cI_ cZ I F) (mT cB cI_ cZ) (fun r u => ∃ (v1 v2 v3 : Int32), r = stV (fun a => nI (pe a)) ((rs_L K Fm To Rr Gp pn mo gg).getD s1 (0, 0, 0)) x3 ∧ u = (mW h0 q cB cI_ cZ (upd (upd (upd I 25 v1) 26 v2) 27 v3) F, mT cB cI_ cZ)) := by
  refine q_si (by decide) (Nat.le_of_ble_eq_true rfl) ?_
  intro p e s m below meth c A ls hAe hf hr hlocks hin hK hP hD hS hA hZ hl
  obtain ⟨hx, hb, hml, hown, hts⟩ := id hf
  have hl : lv_has ls 9 [(0, .ref h0), (1, .int (nI gg)), (2, .int (nI s1)), (3, .int x3)] := hl
  have hpn8 := hpv.1
  have hfa := rg_first_le Gp gg pn 0
  have hfb := rg_first_le Gp (gg + 1) pn 0
  refine lv_aload_n hx hb dX10_sheetOf_0 rfl (lv_at hl 0 rfl) ?_
  refine lv_iload_n hx hb dX10_sheetOf_1 rfl (lv_at hl 1 rfl) ?_
  refine q_ci (k := 0) (n := 0) hK hP hD hS hA (fun hPc hKc hDc => q_rV (As := [.int (nI gg)]) (rest := []) hf (r_firstOf _ D h0 q cB cI_ cZ I F pn gg Gp hI14 hpv.1 (by omega) hG _) k_1451 k_1448 k_1450 k_72 k_98 (nA := 1) (by decide +kernel) ⟨Nat.le_of_ble_eq_true rfl, Nat.le_of_ble_eq_true rfl⟩ hK hP (ci := 11) (q0 := 0) rfl rfl rfl hPc hKc hDc (fun _ _ _ _ h => h) (fun _ _ _ => trivial) rfl hl.1 rfl (Nat.le_of_ble_eq_true rfl) dX10_sheetOf_2 ⟨Nat.le_of_ble_eq_true rfl, Nat.le_of_ble_eq_true rfl⟩) (by decide) (by decide) (fun r u H locs hw hK hP hD hS => ?_)
  obtain ⟨rfl, rfl⟩ := hw
  have hP : va_P D vcl (mW h0 q cB cI_ cZ I F) H := hP
  have hD : va_D A (mW h0 q cB cI_ cZ I F) := hD
  refine lv_istore (lv' := [(4, .int (nI (rg_first Gp gg pn 0))), (0, .ref h0), (1, .int (nI gg)), (2, .int (nI s1)), (3, .int x3)]) hx hb dX10_sheetOf_5 hl (by decide) rfl (fun ls hl => ?_)
  refine lv_aload_n hx hb dX10_sheetOf_7 rfl (lv_at hl 1 rfl) ?_
  refine lv_iload_n hx hb dX10_sheetOf_8 rfl (lv_at hl 2 rfl) ?_
  refine lv_iconst (v := 1) hx hb dX10_sheetOf_9 (by decide) ?_
  refine lv_iadd hx hb dX10_sheetOf_10 ?_
  refine q_seti (y := nI (gg + 1)) (nI_add gg 1) ?_
  refine q_ci (k := 0) (n := 0) hK hP hD hS hA (fun hPc hKc hDc => q_rV (As := [.int (nI (gg + 1))]) (rest := []) hf (r_firstOf _ D h0 q cB cI_ cZ I F pn (gg + 1) Gp hI14 hpv.1 (by omega) hG _) k_1451 k_1448 k_1450 k_72 k_98 (nA := 1) (by decide +kernel) ⟨Nat.le_of_ble_eq_true rfl, Nat.le_of_ble_eq_true rfl⟩ hK hP (ci := 11) (q0 := 0) rfl rfl rfl hPc hKc hDc (fun _ _ _ _ h => h) (fun _ _ _ => trivial) rfl hl.1 rfl (Nat.le_of_ble_eq_true rfl) dX10_sheetOf_11 ⟨Nat.le_of_ble_eq_true rfl, Nat.le_of_ble_eq_true rfl⟩) (by decide) (by decide) (fun r u H locs hw hK hP hD hS => ?_)
  obtain ⟨rfl, rfl⟩ := hw
  have hP : va_P D vcl (mW h0 q cB cI_ cZ I F) H := hP
  have hD : va_D A (mW h0 q cB cI_ cZ I F) := hD
  refine lv_istore (lv' := [(5, .int (nI (rg_first Gp (gg + 1) pn 0))), (4, .int (nI (rg_first Gp gg pn 0))), (0, .ref h0), (1, .int (nI gg)), (2, .int (nI s1)), (3, .int x3)]) hx hb dX10_sheetOf_14 hl (by decide) rfl (fun ls hl => ?_)
  refine lv_iload hx hb dX10_sheetOf_16 (lv_at hl 1 rfl) ?_
  refine lv_iload hx hb dX10_sheetOf_18 (lv_at hl 0 rfl) ?_
  refine lv_icmp_ne (tgt := 34) hx hb dX10_sheetOf_20 (by decide) (fun c_1 => ?_) (fun c_1 => ?_)
  · have c_1 := q_nen (a := rg_first Gp gg pn 0) (b := rg_first Gp (gg + 1) pn 0) (by omega) (by omega) c_1
    have hfm := rg_first_mono Gp gg pn 0
    have hzz : ∀ p, p < rg_first Gp (gg + 1) pn 0 → 0 < To p - Fm p := fun p hp => by have := hpv.2 p (by omega); omega
    have hlt : rg_first Gp gg pn 0 < rg_first Gp (gg + 1) pn 0 := by omega
    have hr0 := hzz _ hlt
    obtain ⟨x, ex, hxf⟩ := rs_some (K := K) (Rr := Rr) (f := 40) hzz hmo1 hmo hlt hr0 (pb_le (rp_ra (K (rg_first Gp gg pn 0)) (Fm (rg_first Gp gg pn 0)) (rg_first Gp gg pn 0) 0 (rg_first Gp gg pn 0)))
    have hci : rs_cnt K Fm To Rr (rg_first Gp gg pn 0) (rg_first Gp (gg + 1) pn 0) mo 8000 (rg_first Gp gg pn 0) 0 = 1 + _ := rs_cnt_in (f := 7999) hlt ex
    have hn9 : s1 < rs_num K Fm To Rr Gp pn mo gg := by
      unfold rs_nm at hs1
      split at hs1
      · rename_i h9; unfold rs_num at h9; omega
      · exact hs1
    clear ex hxf hci
    refine lv_iload hx hb dX10_sheetOf_34 (lv_at hl 1 rfl) ?_
    refine lv_istore (lv' := [(6, .int (nI (rg_first Gp gg pn 0))), (5, .int (nI (rg_first Gp (gg + 1) pn 0))), (4, .int (nI (rg_first Gp gg pn 0))), (0, .ref h0), (1, .int (nI gg)), (2, .int (nI s1)), (3, .int x3)]) hx hb dX10_sheetOf_36 hl (by decide) rfl (fun ls hl => ?_)
    refine lv_iconst (v := 0) hx hb dX10_sheetOf_38 (by decide) ?_
    refine lv_istore (lv' := [(7, .int 0), (6, .int (nI (rg_first Gp gg pn 0))), (5, .int (nI (rg_first Gp (gg + 1) pn 0))), (4, .int (nI (rg_first Gp gg pn 0))), (0, .ref h0), (1, .int (nI gg)), (2, .int (nI s1)), (3, .int x3)]) hx hb dX10_sheetOf_39 hl (by decide) rfl (fun ls hl => ?_)
    refine lv_iconst (v := 0) hx hb dX10_sheetOf_41 (by decide) ?_
    refine lv_istore (lv' := [(8, .int 0), (7, .int 0), (6, .int (nI (rg_first Gp gg pn 0))), (5, .int (nI (rg_first Gp (gg + 1) pn 0))), (4, .int (nI (rg_first Gp gg pn 0))), (0, .ref h0), (1, .int (nI gg)), (2, .int (nI s1)), (3, .int x3)]) hx hb dX10_sheetOf_42 hl (by decide) rfl (fun ls hl => ?_)
    have hn8 := hnc gg
    refine lso2_ (I := I) (F := F) (pn := pn) (pe := pe) (sl := sl) (K := K) (Fm := Fm) (To := To) (Rr := Rr) (SL := (rs_sh K Fm To Rr (rg_first Gp gg pn 0) (rg_first Gp (gg + 1) pn 0) mo 8000 (rg_first Gp gg pn 0) 0)) (fi := (rg_first Gp gg pn 0)) (en := (rg_first Gp (gg + 1) pn 0)) (mo := mo) (s1 := s1) (nn := rs_num K Fm To Rr Gp pn mo gg) (gg := gg) (x3 := x3) hpv hI2 hmo1 hmo (by omega) (by omega) hn9 hn8 (Nat.le_of_ble_eq_true rfl) (Nat.le_of_ble_eq_true rfl) (Nat.le_of_ble_eq_true rfl) (Nat.le_of_ble_eq_true rfl) hA hf hK s1 0 (rg_first Gp gg pn 0) 0 (I 25) (I 26) (I 27) _ _ ls (by omega) (by omega) (fun _ => hr0) (Nat.zero_add _) rfl hP hD hS (lv_sub hl (l' := [(8, .int 0), (7, .int 0), (6, .int (nI (rg_first Gp gg pn 0))), (5, .int (nI (rg_first Gp (gg + 1) pn 0))), (4, .int (nI (rg_first Gp gg pn 0))), (3, .int x3), (2, .int (nI s1)), (0, .ref h0)]) [0, 1, 2, 3, 4, 8, 7, 5] rfl) (fun pp rr v1 v2 v3 H locs ls hpe hrp hdr hP hD hS hl => ?_)
    have hP : va_P D vcl (mW h0 q cB cI_ cZ (upd (upd (upd I 25 v1) 26 v2) 27 v3) F) H := hP
    have hD : va_D A (mW h0 q cB cI_ cZ (upd (upd (upd I 25 v1) 26 v2) 27 v3) F) := hD
    refine lv_aload_n hx hb dX10_sheetOf_80 rfl (lv_at hl 5 rfl) ?_
    refine lv_iload hx hb dX10_sheetOf_81 (lv_at hl 1 rfl) ?_
    refine lv_iload hx hb dX10_sheetOf_83 (lv_at hl 0 rfl) ?_
    refine lv_iload hx hb dX10_sheetOf_85 (lv_at hl 3 rfl) ?_
    refine lv_iload hx hb dX10_sheetOf_87 (lv_at hl 2 rfl) ?_
    refine q_cv (k := 0) (n := 0) hK hP hD hS hA (fun hPc hKc hDc => q_rV (As := [.int (nI pp), .int (nI rr), .int (nI ((rg_first Gp gg pn 0))), .int (nI ((rg_first Gp (gg + 1) pn 0)))]) (rest := []) hf (r_laySheet _ D h0 q cB cI_ cZ (upd (upd (upd I 25 v1) 26 v2) 27 v3) F pn pe sl K Fm To Rr pp rr ((rg_first Gp gg pn 0)) ((rg_first Gp (gg + 1) pn 0)) mo hpv hI2 hmo1 hmo (by omega) (by omega) hrp (by omega) _) k_1455 k_1452 k_1454 k_73 k_98 (nA := 4) (by decide +kernel) ⟨Nat.le_of_ble_eq_true rfl, Nat.le_of_ble_eq_true rfl⟩ hK hP (ci := 11) (q0 := 0) rfl rfl rfl hPc hKc hDc (fun _ _ _ _ h => h) (fun _ _ _ => trivial) rfl hl.1 rfl (Nat.le_of_ble_eq_true rfl) dX10_sheetOf_89 ⟨Nat.le_of_ble_eq_true rfl, Nat.le_of_ble_eq_true rfl⟩) (by decide) (by decide) (fun u H locs hw hK hP hD hS => ?_)
    obtain ⟨b2, v1, v2, v3, a1, a2, rfl⟩ := hw
    obtain ⟨x, ex, hxf⟩ := rs_some (K := K) (Rr := Rr) (f := 40) hzz hmo1 hmo (show pp < (rg_first Gp (gg + 1) pn 0) by omega) hrp (pb_le (rp_ra (K pp) (Fm pp) pp rr ((rg_first Gp gg pn 0))))
    rw [a1.trans ex] at a2
    obtain ⟨rfl, rfl, rfl⟩ := a2
    have hP : va_P D vcl (mW h0 q cB cI_ cZ (upd (upd (upd I 25 (nI (x.1))) 26 (nI (x.2.1))) 27 (nI (x.2.2))) F) H := hP
    have hD : va_D A (mW h0 q cB cI_ cZ (upd (upd (upd I 25 (nI (x.1))) 26 (nI (x.2.1))) 27 (nI (x.2.2))) F) := hD
    have hx2 : x.2.1 ≤ 200 := by
      rcases Nat.lt_or_ge x.1 (rg_first Gp (gg + 1) pn 0) with h9 | h9
      · have h8 := hxf.2.2.1 h9; have h7 := hpv.2 x.1 (by omega); omega
      · have h8 := hxf.2.2.2.1 (by have := hxf.2.1; omega); omega
    have hxe := hxf.2.1
    have hdr9 := hdr
    rw [show 8000 - s1 = (8000 - (s1 + 1)) + 1 by omega] at hdr9
    have hst := rs_sh_st hdr9 hpe ex
    have hL9 : rs_L K Fm To Rr Gp pn mo gg = (rs_sh K Fm To Rr (rg_first Gp gg pn 0) (rg_first Gp (gg + 1) pn 0) mo 8000 (rg_first Gp gg pn 0) 0) := by unfold rs_L; rw [if_pos hlt]
    have hx1a := hxf.1
    have hx5 := hxf.2.2.2.1
    clear hdr9 hdr
    refine lv_aload_n hx hb dX10_sheetOf_92 rfl (lv_at hl 5 rfl) ?_
    refine va_get (D := D) (ci := 11) (v := .int (nI (x.2.1))) (C := RX10) (T := TX10) (N := 48) hx hb hts inX10 hown hK hP 0 rfl rfl 26 (by decide) (hts _ k_1170) (fun _ h9 => h9) rfl dX10_sheetOf_93 ?_
    refine lv_if_le (tgt := 106) hx hb dX10_sheetOf_96 (by decide) (fun c_2 => ?_) (fun c_2 => ?_)
    · have c_2 := q_le (a := x.2.1) (b := 0) (by omega) (by omega) c_2
      have hx1 : 1 ≤ x.1 := by rcases hxf.1 with h9 | h9 <;> omega
      refine lv_aload_n hx hb dX10_sheetOf_106 rfl (lv_at hl 5 rfl) ?_
      refine va_get (D := D) (ci := 11) (v := .int (nI (x.1))) (C := RX10) (T := TX10) (N := 48) hx hb hts inX10 hown hK hP 0 rfl rfl 25 (by decide) (hts _ k_1169) (fun _ h9 => h9) rfl dX10_sheetOf_107 ?_
      refine lv_iconst (v := 1) hx hb dX10_sheetOf_110 (by decide) ?_
      refine lv_isub hx hb dX10_sheetOf_111 ?_
      refine q_seti (y := nI ((x.1) - 1)) (pk_sub (a := x.1) (b := 1) (by omega)) ?_
      refine lv_istore (lv' := [(8, .int (nI ((x.1) - 1))), (7, .int (nI rr)), (6, .int (nI pp)), (5, .int (nI ((rg_first Gp (gg + 1) pn 0)))), (4, .int (nI ((rg_first Gp gg pn 0)))), (3, .int x3), (0, .ref h0)]) hx hb dX10_sheetOf_112 hl (by decide) rfl (fun ls hl => ?_)
      have hxe := hxf.2.1
      refine lv_iload_n hx hb dX10_sheetOf_114 rfl (lv_at hl 5 rfl) ?_
      refine lv_if_ne (tgt := 125) hx hb dX10_sheetOf_115 (by decide) (fun c_3 => ?_) (fun c_3 => ?_)
      · refine lv_iload_n hx hb dX10_sheetOf_125 rfl (lv_at hl 5 rfl) ?_
        refine lv_iconst (v := 1) hx hb dX10_sheetOf_126 (by decide) ?_
        refine lv_icmp_ne (tgt := 140) hx hb dX10_sheetOf_127 (by decide) (fun c_4 => ?_) (fun c_4 => ?_)
        · refine lv_iload_n hx hb dX10_sheetOf_140 rfl (lv_at hl 5 rfl) ?_
          refine lv_iconst (v := 2) hx hb dX10_sheetOf_141 (by decide) ?_
          refine lv_icmp_ne (tgt := 155) hx hb dX10_sheetOf_142 (by decide) (fun c_5 => ?_) (fun c_5 => ?_)
          · refine lv_aload_n hx hb dX10_sheetOf_155 rfl (lv_at hl 6 rfl) ?_
            refine va_get (D := D) (ci := 11) (v := .ref (q 15)) (C := RX10) (T := TX10) (N := 48) hx hb hts inX10 hown hK hP 0 rfl rfl 15 (by decide) (hts _ k_1159) (fun _ h9 => h9) rfl dX10_sheetOf_156 ?_
            refine lv_iload hx hb dX10_sheetOf_159 (lv_at hl 0 rfl) ?_
            refine q_ild (X := (x.1) - 1) (f := (F 15)) hx hb hK hP 12 1 rfl rfl (by omega) (by decide) dX10_sheetOf_161 ?_
            refine q_seti (y := (nI ((pe ((x.1) - 1))))) (hpv.2 ((x.1) - 1) (by omega)).1 ?_
            have hlp : rs_lp x = (x.1) - 1 := (lp_e0 (by omega))
            have he9 := hst.2.1
            rw [hlp] at he9
            exact q_zi hf hr rfl hlocks hK hP hD hS (Nat.le_of_ble_eq_true rfl) (Nat.le_of_ble_eq_true rfl) ⟨_, _, _, stV_3p (pe := (fun a => nI (pe a))) ⟨c_3, c_4, c_5⟩ (by rw [hL9, he9]) (by rw [hL9, he9]) (by omega) (by omega), rfl⟩ dX10_sheetOf_162
          · refine lv_aload_n hx hb dX10_sheetOf_145 rfl (lv_at hl 6 rfl) ?_
            refine va_get (D := D) (ci := 11) (v := .ref (q 15)) (C := RX10) (T := TX10) (N := 48) hx hb hts inX10 hown hK hP 0 rfl rfl 15 (by decide) (hts _ k_1159) (fun _ h9 => h9) rfl dX10_sheetOf_146 ?_
            refine lv_iload hx hb dX10_sheetOf_149 (lv_at hl 2 rfl) ?_
            refine q_ild (X := pp) (f := (F 15)) hx hb hK hP 12 1 rfl rfl (by omega) (by decide) dX10_sheetOf_151 ?_
            refine q_seti (y := (nI ((pe pp)))) (hpv.2 pp (by omega)).1 ?_
            refine lv_goto (tgt := 162) hx hb dX10_sheetOf_152 (by decide) ?_
            have hlp : rs_lp x = (x.1) - 1 := (lp_e0 (by omega))
            have he9 := hst.2.1
            rw [hlp] at he9
            exact q_zi hf hr rfl hlocks hK hP hD hS (Nat.le_of_ble_eq_true rfl) (Nat.le_of_ble_eq_true rfl) ⟨_, _, _, stV_2p (pe := (fun a => nI (pe a))) c_5 (by rw [hL9, he9]) (by omega), rfl⟩ dX10_sheetOf_162
        · refine lv_iload hx hb dX10_sheetOf_130 (lv_at hl 0 rfl) ?_
          refine lv_iload hx hb dX10_sheetOf_132 (lv_at hl 2 rfl) ?_
          refine lv_isub hx hb dX10_sheetOf_134 ?_
          refine q_seti (y := nI (((x.1) - 1) - pp)) (pk_sub (a := (x.1) - 1) (b := pp) (by omega)) ?_
          refine lv_iconst (v := 1) hx hb dX10_sheetOf_135 (by decide) ?_
          refine lv_iadd hx hb dX10_sheetOf_136 ?_
          refine q_seti (y := nI ((((x.1) - 1) - pp) + 1)) (nI_add (((x.1) - 1) - pp) 1) ?_
          refine lv_goto (tgt := 162) hx hb dX10_sheetOf_137 (by decide) ?_
          have hlp : rs_lp x = (x.1) - 1 := (lp_e0 (by omega))
          have he9 := hst.2.1
          rw [hlp] at he9
          exact q_zi hf hr rfl hlocks hK hP hD hS (Nat.le_of_ble_eq_true rfl) (Nat.le_of_ble_eq_true rfl) ⟨_, _, _, stV_1p c_4 (by rw [hL9, he9]) (by rw [hL9, he9]) (by omega) (by omega), rfl⟩ dX10_sheetOf_162
      · refine lv_aload_n hx hb dX10_sheetOf_118 rfl (lv_at hl 6 rfl) ?_
        refine va_get (D := D) (ci := 11) (v := .int (nI (x.2.2))) (C := RX10) (T := TX10) (N := 48) hx hb hts inX10 hown hK hP 0 rfl rfl 27 (by decide) (hts _ k_1171) (fun _ h9 => h9) rfl dX10_sheetOf_119 ?_
        refine lv_goto (tgt := 162) hx hb dX10_sheetOf_122 (by decide) ?_
        have hlp : rs_lp x = (x.1) - 1 := (lp_e0 (by omega))
        have he9 := hst.2.1
        rw [hlp] at he9
        exact q_zi hf hr rfl hlocks hK hP hD hS (Nat.le_of_ble_eq_true rfl) (Nat.le_of_ble_eq_true rfl) ⟨_, _, _, by rw [hL9, stV_0 c_3, he9], rfl⟩ dX10_sheetOf_162
    · have c_2 := q_nle (a := x.2.1) (b := 0) (by omega) (by omega) c_2
      have hx3 : x.1 < rg_first Gp (gg + 1) pn 0 := by
        by_cases c9 : x.1 = rg_first Gp (gg + 1) pn 0
        · have h8 := hxf.2.2.2.1 c9; omega
        · omega
      refine lv_aload_n hx hb dX10_sheetOf_99 rfl (lv_at hl 5 rfl) ?_
      refine va_get (D := D) (ci := 11) (v := .int (nI (x.1))) (C := RX10) (T := TX10) (N := 48) hx hb hts inX10 hown hK hP 0 rfl rfl 25 (by decide) (hts _ k_1169) (fun _ h9 => h9) rfl dX10_sheetOf_100 ?_
      refine lv_goto (tgt := 112) hx hb dX10_sheetOf_103 (by decide) ?_
      refine lv_istore (lv' := [(8, .int (nI (x.1))), (7, .int (nI rr)), (6, .int (nI pp)), (5, .int (nI ((rg_first Gp (gg + 1) pn 0)))), (4, .int (nI ((rg_first Gp gg pn 0)))), (3, .int x3), (0, .ref h0)]) hx hb dX10_sheetOf_112 hl (by decide) rfl (fun ls hl => ?_)
      have hxe := hxf.2.1
      refine lv_iload_n hx hb dX10_sheetOf_114 rfl (lv_at hl 5 rfl) ?_
      refine lv_if_ne (tgt := 125) hx hb dX10_sheetOf_115 (by decide) (fun c_6 => ?_) (fun c_6 => ?_)
      · refine lv_iload_n hx hb dX10_sheetOf_125 rfl (lv_at hl 5 rfl) ?_
        refine lv_iconst (v := 1) hx hb dX10_sheetOf_126 (by decide) ?_
        refine lv_icmp_ne (tgt := 140) hx hb dX10_sheetOf_127 (by decide) (fun c_7 => ?_) (fun c_7 => ?_)
        · refine lv_iload_n hx hb dX10_sheetOf_140 rfl (lv_at hl 5 rfl) ?_
          refine lv_iconst (v := 2) hx hb dX10_sheetOf_141 (by decide) ?_
          refine lv_icmp_ne (tgt := 155) hx hb dX10_sheetOf_142 (by decide) (fun c_8 => ?_) (fun c_8 => ?_)
          · refine lv_aload_n hx hb dX10_sheetOf_155 rfl (lv_at hl 6 rfl) ?_
            refine va_get (D := D) (ci := 11) (v := .ref (q 15)) (C := RX10) (T := TX10) (N := 48) hx hb hts inX10 hown hK hP 0 rfl rfl 15 (by decide) (hts _ k_1159) (fun _ h9 => h9) rfl dX10_sheetOf_156 ?_
            refine lv_iload hx hb dX10_sheetOf_159 (lv_at hl 0 rfl) ?_
            refine q_ild (X := x.1) (f := (F 15)) hx hb hK hP 12 1 rfl rfl (by omega) (by decide) dX10_sheetOf_161 ?_
            refine q_seti (y := (nI ((pe (x.1))))) (hpv.2 (x.1) (by omega)).1 ?_
            have hlp : rs_lp x = x.1 := (lp_e1 (by omega))
            have he9 := hst.2.1
            rw [hlp] at he9
            exact q_zi hf hr rfl hlocks hK hP hD hS (Nat.le_of_ble_eq_true rfl) (Nat.le_of_ble_eq_true rfl) ⟨_, _, _, stV_3p (pe := (fun a => nI (pe a))) ⟨c_6, c_7, c_8⟩ (by rw [hL9, he9]) (by rw [hL9, he9]) (by omega) (by omega), rfl⟩ dX10_sheetOf_162
          · refine lv_aload_n hx hb dX10_sheetOf_145 rfl (lv_at hl 6 rfl) ?_
            refine va_get (D := D) (ci := 11) (v := .ref (q 15)) (C := RX10) (T := TX10) (N := 48) hx hb hts inX10 hown hK hP 0 rfl rfl 15 (by decide) (hts _ k_1159) (fun _ h9 => h9) rfl dX10_sheetOf_146 ?_
            refine lv_iload hx hb dX10_sheetOf_149 (lv_at hl 2 rfl) ?_
            refine q_ild (X := pp) (f := (F 15)) hx hb hK hP 12 1 rfl rfl (by omega) (by decide) dX10_sheetOf_151 ?_
            refine q_seti (y := (nI ((pe pp)))) (hpv.2 pp (by omega)).1 ?_
            refine lv_goto (tgt := 162) hx hb dX10_sheetOf_152 (by decide) ?_
            have hlp : rs_lp x = x.1 := (lp_e1 (by omega))
            have he9 := hst.2.1
            rw [hlp] at he9
            exact q_zi hf hr rfl hlocks hK hP hD hS (Nat.le_of_ble_eq_true rfl) (Nat.le_of_ble_eq_true rfl) ⟨_, _, _, stV_2p (pe := (fun a => nI (pe a))) c_8 (by rw [hL9, he9]) (by omega), rfl⟩ dX10_sheetOf_162
        · refine lv_iload hx hb dX10_sheetOf_130 (lv_at hl 0 rfl) ?_
          refine lv_iload hx hb dX10_sheetOf_132 (lv_at hl 2 rfl) ?_
          refine lv_isub hx hb dX10_sheetOf_134 ?_
          refine q_seti (y := nI ((x.1) - pp)) (pk_sub (a := x.1) (b := pp) (by omega)) ?_
          refine lv_iconst (v := 1) hx hb dX10_sheetOf_135 (by decide) ?_
          refine lv_iadd hx hb dX10_sheetOf_136 ?_
          refine q_seti (y := nI (((x.1) - pp) + 1)) (nI_add ((x.1) - pp) 1) ?_
          refine lv_goto (tgt := 162) hx hb dX10_sheetOf_137 (by decide) ?_
          have hlp : rs_lp x = x.1 := (lp_e1 (by omega))
          have he9 := hst.2.1
          rw [hlp] at he9
          exact q_zi hf hr rfl hlocks hK hP hD hS (Nat.le_of_ble_eq_true rfl) (Nat.le_of_ble_eq_true rfl) ⟨_, _, _, stV_1p c_7 (by rw [hL9, he9]) (by rw [hL9, he9]) (by omega) (by omega), rfl⟩ dX10_sheetOf_162
      · refine lv_aload_n hx hb dX10_sheetOf_118 rfl (lv_at hl 6 rfl) ?_
        refine va_get (D := D) (ci := 11) (v := .int (nI (x.2.2))) (C := RX10) (T := TX10) (N := 48) hx hb hts inX10 hown hK hP 0 rfl rfl 27 (by decide) (hts _ k_1171) (fun _ h9 => h9) rfl dX10_sheetOf_119 ?_
        refine lv_goto (tgt := 162) hx hb dX10_sheetOf_122 (by decide) ?_
        have hlp : rs_lp x = x.1 := (lp_e1 (by omega))
        have he9 := hst.2.1
        rw [hlp] at he9
        exact q_zi hf hr rfl hlocks hK hP hD hS (Nat.le_of_ble_eq_true rfl) (Nat.le_of_ble_eq_true rfl) ⟨_, _, _, by rw [hL9, stV_0 c_6, he9], rfl⟩ dX10_sheetOf_162
  · have c_1 := q_eqn (a := rg_first Gp gg pn 0) (b := rg_first Gp (gg + 1) pn 0) (by omega) (by omega) c_1
    refine lv_iload_n hx hb dX10_sheetOf_23 rfl (lv_at hl 5 rfl) ?_
    refine lv_iconst (v := 2) hx hb dX10_sheetOf_24 (by decide) ?_
    refine lv_icmp_ge (tgt := 32) hx hb dX10_sheetOf_25 (by decide) (fun c_9 => ?_) (fun c_9 => ?_)
    · refine lv_iconst (v := (-1)) hx hb dX10_sheetOf_32 (by decide) ?_
      have hL9 : rs_L K Fm To Rr Gp pn mo gg = [(0, -1, -1)] := by unfold rs_L; rw [if_neg (by omega)]
      have hs0 : s1 = 0 := by rw [← rsL_len, hL9] at hs1; have hs1 : s1 < 1 := hs1; omega
      exact q_zi hf hr rfl hlocks hK hP hD hS (Nat.le_of_ble_eq_true rfl) (Nat.le_of_ble_eq_true rfl) ⟨I 25, I 26, I 27, by rw [hL9, hs0]; exact stN_hi (q_nlt_le c_9), by rw [upd_id9, upd_id9, upd_id9]⟩ dX10_sheetOf_33
    · refine lv_iconst (v := 0) hx hb dX10_sheetOf_28 (by decide) ?_
      refine lv_goto (tgt := 33) hx hb dX10_sheetOf_29 (by decide) ?_
      have hL9 : rs_L K Fm To Rr Gp pn mo gg = [(0, -1, -1)] := by unfold rs_L; rw [if_neg (by omega)]
      have hs0 : s1 = 0 := by rw [← rsL_len, hL9] at hs1; have hs1 : s1 < 1 := hs1; omega
      exact q_zi hf hr rfl hlocks hK hP hD hS (Nat.le_of_ble_eq_true rfl) (Nat.le_of_ble_eq_true rfl) ⟨I 25, I 26, I 27, by rw [hL9, hs0]; exact stN_lo hw0 (q_lt_nle c_9), by rw [upd_id9, upd_id9, upd_id9]⟩ dX10_sheetOf_33
set_option maxHeartbeats 1000000 in
set_option maxRecDepth 100000 in
theorem r_sheet2 (l : Launch) (D : va_G) (h0 : Nat) (q : Nat → Nat) (cB cI_ cZ : ClassId) (I : Nat → Int32) (F : Nat → Nat → Int32) (pn lk gs : Nat) (pe sl : Nat → Nat) (K : Nat → Int32) (Fm To Rr : Nat → Nat) (mo : Nat) (Gp : Nat → Nat) (x1 x2 x3 : Int32) (hpv : rp_ok F pn pe sl K Fm To Rr) (hI2 : I 2 = nI mo) (hI14 : I 14 = nI pn) (hI20 : I 20 = nI lk) (hI19 : 0 < lk → I 19 = nI gs) (hlk : lk ≤ 1) (hgs : gs ≤ 8000) (hmo1 : 10 ≤ mo) (hmo : mo ≤ 40) (hSS : rs_S Fm To pn ≤ 8000) (hG : ∀ p, p < pn → F 18 p = nI (Gp p) ∧ Gp p ≤ 8000) (hnc : ∀ g, rs_num K Fm To Rr Gp pn mo g ≤ 8000) : cI l D yX10_sheet cX10_sheet 4 (some .int) 6 180 0 0 [.ref h0, .int x1, .int x2, .int x3] zT (mW h0 q cB cI_ cZ I F) (mT cB cI_ cZ) (fun r u => stC lk gs (rs_L K Fm To Rr Gp pn mo) (fun a => nI (pe a)) x1 x2 x3 r ∧ (∃ (I2 : Nat → Int32) (F2 : Nat → Nat → Int32), sm I I2 F F2 ∧ u = (mW h0 q cB cI_ cZ I2 F2, mT cB cI_ cZ))) := by
  refine q_si (by decide) (Nat.le_of_ble_eq_true rfl) ?_
  intro p e s m below meth c A ls hAe hf hr hlocks hin hK hP hD hS hA hZ hl
  obtain ⟨hx, hb, hml, hown, hts⟩ := id hf
  have hl : lv_has ls 4 [(0, .ref h0), (1, .int x1), (2, .int x2), (3, .int x3)] := hl
  have hpn8 := hpv.1
  refine lv_iload_n hx hb dX10_sheet_0 rfl (lv_at hl 3 rfl) ?_
  refine lv_iconst (v := 0) hx hb dX10_sheet_1 (by decide) ?_
  refine lv_iconst (v := 3) hx hb dX10_sheet_2 (by decide) ?_
  refine q_ei (k := 0) (n := 0) hP hS hA (q_rS (wc := []) (tc := []) (As := [.int x3, .int 0, .int 3]) (rest := []) hf (m_X10_in_1 _ D x3 0 3 _) k_1296 k_1294 k_1295 k_98 (nA := 3) (by decide +kernel) ⟨Nat.le_of_ble_eq_true rfl, Nat.le_of_ble_eq_true rfl⟩ (fun k q h => by simp at h) (hK.sub (tys' := []) [] rfl) (A := A) ⟨fun i j p q h => by simp at h, fun k q h => by simp at h⟩ (fun _ _ _ _ h => h) (fun _ _ _ => trivial) rfl hl.1 rfl (Nat.le_of_ble_eq_true rfl) dX10_sheet_3 ⟨Nat.le_of_ble_eq_true rfl, Nat.le_of_ble_eq_true rfl⟩) (by decide) (by decide) (fun r u H locs hw hP hS => ?_)
  rcases hw with ⟨c_1, rfl, rfl⟩ | ⟨c_2, c_3, rfl, rfl⟩ | ⟨c_4, c_5, rfl, rfl⟩
  · refine lv_if_ne (tgt := 12) hx hb dX10_sheet_6 (by decide) (fun hno => absurd hno (by decide)) (fun _ => ?_)
    refine lv_bipush (v := (-2)) hx hb dX10_sheet_9 (by decide) ?_
    exact q_zi hf hr rfl hlocks hK hP hD hS (Nat.le_of_ble_eq_true rfl) (Nat.le_of_ble_eq_true rfl) ⟨Or.inl ⟨Or.inl c_1, rfl⟩, ⟨I, F, ⟨⟨rfl, rfl, rfl⟩, ⟨rfl, rfl, rfl⟩, ⟨rfl, rfl, rfl, rfl, rfl, rfl, rfl, rfl, rfl, rfl, rfl⟩, rfl, rfl, rfl, rfl⟩, rfl⟩⟩ dX10_sheet_11
  · refine lv_if_ne (tgt := 12) hx hb dX10_sheet_6 (by decide) (fun hno => absurd hno (by decide)) (fun _ => ?_)
    refine lv_bipush (v := (-2)) hx hb dX10_sheet_9 (by decide) ?_
    exact q_zi hf hr rfl hlocks hK hP hD hS (Nat.le_of_ble_eq_true rfl) (Nat.le_of_ble_eq_true rfl) ⟨Or.inl ⟨Or.inr c_3, rfl⟩, ⟨I, F, ⟨⟨rfl, rfl, rfl⟩, ⟨rfl, rfl, rfl⟩, ⟨rfl, rfl, rfl, rfl, rfl, rfl, rfl, rfl, rfl, rfl, rfl⟩, rfl, rfl, rfl, rfl⟩, rfl⟩⟩ dX10_sheet_11
  · refine lv_if_ne (tgt := 12) hx hb dX10_sheet_6 (by decide) (fun _ => ?_) (fun hno => absurd hno (by decide))
    refine lv_aload_n hx hb dX10_sheet_12 rfl (lv_at hl 0 rfl) ?_
    refine va_get (D := D) (ci := 11) (v := .int (I 20)) (C := RX10) (T := TX10) (N := 48) hx hb hts inX10 hown hK hP 0 rfl rfl 20 (by decide) (hts _ k_1164) (fun _ h9 => h9) rfl dX10_sheet_13 ?_
    refine q_seti (y := (nI lk)) hI20 ?_
    refine lv_if_ne (tgt := 22) hx hb dX10_sheet_16 (by decide) (fun c_6 => ?_) (fun c_6 => ?_)
    · have c_6 := q_nen (a := lk) (b := 0) (by omega) (by omega) c_6
      refine lv_aload_n hx hb dX10_sheet_22 rfl (lv_at hl 0 rfl) ?_
      refine lv_iload_n hx hb dX10_sheet_23 rfl (lv_at hl 1 rfl) ?_
      refine q_ci (k := 0) (n := 0) hK hP hD hS hA (fun hPc hKc hDc => q_rV (As := [.int x1]) (rest := []) hf (r_isGroup _ D h0 q cB cI_ cZ I F gs x1 (hI19 (by omega)) hgs _) k_1463 k_1460 k_1462 k_74 k_98 (nA := 1) (by decide +kernel) ⟨Nat.le_of_ble_eq_true rfl, Nat.le_of_ble_eq_true rfl⟩ hK hP (ci := 11) (q0 := 0) rfl rfl rfl hPc hKc hDc (fun _ _ _ _ h => h) (fun _ _ _ => trivial) rfl hl.1 rfl (Nat.le_of_ble_eq_true rfl) dX10_sheet_24 ⟨Nat.le_of_ble_eq_true rfl, Nat.le_of_ble_eq_true rfl⟩) (by decide) (by decide) (fun r u H locs hw hK hP hD hS => ?_)
      rcases hw with ⟨⟨c_7, rfl⟩ | ⟨c_7, rfl⟩, rfl⟩
      · have hP : va_P D vcl (mW h0 q cB cI_ cZ I F) H := hP
        have hD : va_D A (mW h0 q cB cI_ cZ I F) := hD
        refine lv_if_eq (tgt := 59) hx hb dX10_sheet_27 (by decide) (fun hno => absurd hno (by decide)) (fun _ => ?_)
        obtain ⟨g1, hg1, rfl⟩ := c_7
        have hl : lv_has ls 4 [(0, .ref h0), (1, .int (nI (g1 + 1))), (2, .int x2), (3, .int x3)] := hl
        refine lv_iload_n hx hb dX10_sheet_30 rfl (lv_at hl 2 rfl) ?_
        refine lv_iconst (v := 0) hx hb dX10_sheet_31 (by decide) ?_
        refine lv_aload_n hx hb dX10_sheet_32 rfl (lv_at hl 0 rfl) ?_
        refine lv_iload_n hx hb dX10_sheet_33 rfl (lv_at hl 1 rfl) ?_
        refine lv_iconst (v := 1) hx hb dX10_sheet_34 (by decide) ?_
        refine lv_isub hx hb dX10_sheet_35 ?_
        refine q_seti (y := nI ((g1 + 1) - 1)) (pk_sub (a := g1 + 1) (b := 1) (by omega)) ?_
        refine q_seti (y := nI g1) (congrArg nI (show (g1 + 1) - 1 = g1 by omega)) ?_
        refine q_ci (k := 0) (n := 0) hK hP hD hS hA (fun hPc hKc hDc => q_rV (As := [.int (nI g1)]) (rest := [.int 0, .int x2]) hf (r_sheetsOf _ D h0 q cB cI_ cZ I F pn pe sl K Fm To Rr mo g1 Gp hpv hI2 hmo1 hmo hI14 hG (by omega) hSS (hnc _) _) k_1447 k_1444 k_1446 k_71 k_98 (nA := 1) (by decide +kernel) ⟨Nat.le_of_ble_eq_true rfl, Nat.le_of_ble_eq_true rfl⟩ hK hP (ci := 11) (q0 := 0) rfl rfl rfl hPc hKc hDc (fun _ _ _ _ h => h) (fun _ _ _ => trivial) rfl hl.1 rfl (Nat.le_of_ble_eq_true rfl) dX10_sheet_36 ⟨Nat.le_of_ble_eq_true rfl, Nat.le_of_ble_eq_true rfl⟩) (by decide) (by decide) (fun r u H locs hw hK hP hD hS => ?_)
        obtain ⟨v1, v2, v3, hr9, rfl⟩ := hw
        obtain ⟨ns, hns, rfl⟩ : ∃ ns : Nat, ns = rs_nm K Fm To Rr Gp pn mo g1 ∧ r = nI ns := ⟨_, rfl, hr9⟩
        have hns8 : 1 ≤ ns ∧ ns ≤ 8000 := by
          have h9 := hnc g1
          rw [hns]; unfold rs_nm; split <;> omega
        have hP : va_P D vcl (mW h0 q cB cI_ cZ (upd (upd (upd I 25 v1) 26 v2) 27 v3) F) H := hP
        have hD : va_D A (mW h0 q cB cI_ cZ (upd (upd (upd I 25 v1) 26 v2) 27 v3) F) := hD
        refine lv_iconst (v := 1) hx hb dX10_sheet_39 (by decide) ?_
        refine lv_isub hx hb dX10_sheet_40 ?_
        refine q_ei (k := 0) (n := 0) hP hS hA (q_rS (wc := []) (tc := []) (As := [.int x2, .int 0, .int ((nI ns) - 1)]) (rest := []) hf (m_X10_in_1 _ D x2 0 ((nI ns) - 1) _) k_1296 k_1294 k_1295 k_98 (nA := 3) (by decide +kernel) ⟨Nat.le_of_ble_eq_true rfl, Nat.le_of_ble_eq_true rfl⟩ (fun k q h => by simp at h) (hK.sub (tys' := []) [] rfl) (A := A) ⟨fun i j p q h => by simp at h, fun k q h => by simp at h⟩ (fun _ _ _ _ h => h) (fun _ _ _ => trivial) rfl hl.1 rfl (Nat.le_of_ble_eq_true rfl) dX10_sheet_41 ⟨Nat.le_of_ble_eq_true rfl, Nat.le_of_ble_eq_true rfl⟩) (by decide) (by decide) (fun r u H locs hw hP hS => ?_)
        rcases hw with ⟨c_8, rfl, rfl⟩ | ⟨c_9, c_10, rfl, rfl⟩ | ⟨c_11, c_12, rfl, rfl⟩
        · refine lv_if_eq (tgt := 59) hx hb dX10_sheet_44 (by decide) (fun _ => ?_) (fun hno => absurd hno (by decide))
          refine lv_bipush (v := (-2)) hx hb dX10_sheet_59 (by decide) ?_
          exact q_zi hf hr rfl hlocks hK hP hD hS (Nat.le_of_ble_eq_true rfl) (Nat.le_of_ble_eq_true rfl) ⟨Or.inr (Or.inr (Or.inl ⟨(fun h9 => h9.elim c_4 c_5), by omega, st_no3 (ns := ns) hgs hg1 (by omega) (by rw [rsL_len]; exact hns.symm) (ix_no1 (by omega) c_8), rfl⟩)), ⟨(upd (upd (upd I 25 v1) 26 v2) 27 v3), F, ⟨⟨rfl, rfl, rfl⟩, ⟨rfl, rfl, rfl⟩, ⟨rfl, rfl, rfl, rfl, rfl, rfl, rfl, rfl, rfl, rfl, rfl⟩, rfl, rfl, rfl, rfl⟩, rfl⟩⟩ dX10_sheet_61
        · refine lv_if_eq (tgt := 59) hx hb dX10_sheet_44 (by decide) (fun _ => ?_) (fun hno => absurd hno (by decide))
          refine lv_bipush (v := (-2)) hx hb dX10_sheet_59 (by decide) ?_
          exact q_zi hf hr rfl hlocks hK hP hD hS (Nat.le_of_ble_eq_true rfl) (Nat.le_of_ble_eq_true rfl) ⟨Or.inr (Or.inr (Or.inl ⟨(fun h9 => h9.elim c_4 c_5), by omega, st_no3 (ns := ns) hgs hg1 (by omega) (by rw [rsL_len]; exact hns.symm) (ix_no3 (by omega) c_10), rfl⟩)), ⟨(upd (upd (upd I 25 v1) 26 v2) 27 v3), F, ⟨⟨rfl, rfl, rfl⟩, ⟨rfl, rfl, rfl⟩, ⟨rfl, rfl, rfl, rfl, rfl, rfl, rfl, rfl, rfl, rfl, rfl⟩, rfl, rfl, rfl, rfl⟩, rfl⟩⟩ dX10_sheet_61
        · refine lv_if_eq (tgt := 59) hx hb dX10_sheet_44 (by decide) (fun hno => absurd hno (by decide)) (fun _ => ?_)
          obtain ⟨s1, hs1, rfl⟩ := ie_1 (by omega) c_11 c_12
          have hl : lv_has ls 4 [(0, .ref h0), (1, .int (nI (g1 + 1))), (2, .int (nI s1)), (3, .int x3)] := hl
          refine lv_aload_n hx hb dX10_sheet_47 rfl (lv_at hl 0 rfl) ?_
          refine lv_iload_n hx hb dX10_sheet_48 rfl (lv_at hl 1 rfl) ?_
          refine lv_iconst (v := 1) hx hb dX10_sheet_49 (by decide) ?_
          refine lv_isub hx hb dX10_sheet_50 ?_
          refine q_seti (y := nI ((g1 + 1) - 1)) (pk_sub (a := g1 + 1) (b := 1) (by omega)) ?_
          refine q_seti (y := nI g1) (congrArg nI (show (g1 + 1) - 1 = g1 by omega)) ?_
          refine lv_iload_n hx hb dX10_sheet_51 rfl (lv_at hl 2 rfl) ?_
          refine lv_iload_n hx hb dX10_sheet_52 rfl (lv_at hl 3 rfl) ?_
          refine q_ci (k := 0) (n := 0) hK hP hD hS hA (fun hPc hKc hDc => q_rV (As := [.int (nI g1), .int (nI s1), .int x3]) (rest := []) hf (r_sheetO2 _ D h0 q cB cI_ cZ (upd (upd (upd I 25 v1) 26 v2) 27 v3) F pn pe sl K Fm To Rr mo Gp g1 s1 x3 hpv hI2 hI14 hmo1 hmo hSS hG (by omega) hnc (by rw [← hns]; omega) c_4 _) k_1471 k_1468 k_1470 k_75 k_98 (nA := 3) (by decide +kernel) ⟨Nat.le_of_ble_eq_true rfl, Nat.le_of_ble_eq_true rfl⟩ hK hP (ci := 11) (q0 := 0) rfl rfl rfl hPc hKc hDc (fun _ _ _ _ h => h) (fun _ _ _ => trivial) rfl hl.1 rfl (Nat.le_of_ble_eq_true rfl) dX10_sheet_53 ⟨Nat.le_of_ble_eq_true rfl, Nat.le_of_ble_eq_true rfl⟩) (by decide) (by decide) (fun r u H locs hw hK hP hD hS => ?_)
          obtain ⟨v4, v5, v6, hr8, rfl⟩ := hw
          have hP : va_P D vcl (mW h0 q cB cI_ cZ (upd (upd (upd I 25 v4) 26 v5) 27 v6) F) H := hP
          have hD : va_D A (mW h0 q cB cI_ cZ (upd (upd (upd I 25 v4) 26 v5) 27 v6) F) := hD
          refine lv_goto (tgt := 61) hx hb dX10_sheet_56 (by decide) ?_
          exact q_zi hf hr rfl hlocks hK hP hD hS (Nat.le_of_ble_eq_true rfl) (Nat.le_of_ble_eq_true rfl) ⟨Or.inr (Or.inr (Or.inr ⟨g1, s1, (fun h9 => h9.elim c_4 c_5), by omega, ⟨hg1, rfl, by rw [rsL_len, ← hns]; exact hs1, rfl⟩, hr8⟩)), ⟨(upd (upd (upd I 25 v4) 26 v5) 27 v6), F, ⟨⟨rfl, rfl, rfl⟩, ⟨rfl, rfl, rfl⟩, ⟨rfl, rfl, rfl, rfl, rfl, rfl, rfl, rfl, rfl, rfl, rfl⟩, rfl, rfl, rfl, rfl⟩, rfl⟩⟩ dX10_sheet_61
      · have hP : va_P D vcl (mW h0 q cB cI_ cZ I F) H := hP
        have hD : va_D A (mW h0 q cB cI_ cZ I F) := hD
        refine lv_if_eq (tgt := 59) hx hb dX10_sheet_27 (by decide) (fun _ => ?_) (fun hno => absurd hno (by decide))
        refine lv_bipush (v := (-2)) hx hb dX10_sheet_59 (by decide) ?_
        exact q_zi hf hr rfl hlocks hK hP hD hS (Nat.le_of_ble_eq_true rfl) (Nat.le_of_ble_eq_true rfl) ⟨Or.inr (Or.inr (Or.inl ⟨(fun h9 => h9.elim c_4 c_5), by omega, st_no1 c_7, rfl⟩)), ⟨I, F, ⟨⟨rfl, rfl, rfl⟩, ⟨rfl, rfl, rfl⟩, ⟨rfl, rfl, rfl, rfl, rfl, rfl, rfl, rfl, rfl, rfl, rfl⟩, rfl, rfl, rfl, rfl⟩, rfl⟩⟩ dX10_sheet_61
    · have c_6 := q_eqn (a := lk) (b := 0) (by omega) (by omega) c_6
      refine lv_bipush (v := (-3)) hx hb dX10_sheet_19 (by decide) ?_
      exact q_zi hf hr rfl hlocks hK hP hD hS (Nat.le_of_ble_eq_true rfl) (Nat.le_of_ble_eq_true rfl) ⟨Or.inr (Or.inl ⟨(fun h9 => h9.elim c_4 c_5), by omega, rfl⟩), ⟨I, F, ⟨⟨rfl, rfl, rfl⟩, ⟨rfl, rfl, rfl⟩, ⟨rfl, rfl, rfl, rfl, rfl, rfl, rfl, rfl, rfl, rfl, rfl⟩, rfl, rfl, rfl, rfl⟩, rfl⟩⟩ dX10_sheet_21
set_option maxHeartbeats 1000000 in
set_option maxRecDepth 100000 in
theorem d_sheetZ2 (l : Launch) (D : va_G) (z : Nat → Nat) (cB cI_ cO : ClassId) (L0 : List Nat) (g0 : hG) (dk tp rd els reo nob bk sl gs : Nat) (pr pcs spr nwh cp : Nat) (pa : List Nat) (ea : Nat → Nat) (P : List Q4) (ne : Nat) (EE : Nat → E5) (nb nt nf nr gl lf ra fa la : Nat) (v5 v6 v7 v8 v9 x1 x2 x3 x4 x5 x6 : Int32) (M : Nat) (f0 f1 f2 : Nat → Int32) (mo gg fi en B : Nat) (i2 i3 : Int32) (h_dk : ho L0 g0 dk 1 (.inr (10, [.ref tp, .ref rd, .ref els, .ref reo, .ref nob, .ref pr, .ref bk, .ref gl, .ref sl, .int (nI mo), .int 1, .int (nI gs)]))) (h_pr : ho L0 g0 pr 13 (.inr (7, [.ref pcs, .ref spr, .ref nwh]))) (h_pcs : alR cO (z 0) 14 15 L0 g0 pcs cp pa) (h_pc : pcR L0 g0 ea pa P) (h_es : esR cB cI_ L0 g0 ea ne EE) (h_nwh : ho L0 g0 nwh 19 (.inr (6, [.ref nb, .int 0, .int 0, .int 0]))) (h_nob : ho L0 g0 nb 30 (.inr (2, [.int 5, .int (-1), .int 0, .ref nt, .int 0, .int 0, .ref nf, .ref nr, .int 0]))) (h_gl : ho L0 g0 gl 25 (.inr (3, [.ref pr, .ref lf, .ref ra, .ref fa, .ref la, .int v5, .int v6, .int v7, .int v8, .int v9]))) (h_lf : ho L0 g0 lf 20 (.inr (4, [.ref pr, .int x1, .int x2, .int x3, .int x4, .int x5, .int x6]))) (h_ra : ho L0 g0 ra 26 (.inl (cI_, M, .inl f0))) (h_fa : ho L0 g0 fa 27 (.inl (cI_, M, .inl f1))) (h_la : ho L0 g0 la 28 (.inl (cI_, M, .inl f2))) (hpa : pa.length ≤ 20000) (hQ : pq_ok ne EE P) (hSn : qS P pa.length ≤ 8000) (hmo1 : 10 ≤ mo) (hmo : mo ≤ 40) (hgg : gg ≤ 20000) (hG : ∀ t, t < pa.length → (P.getD t d4).2.2.2 ≤ 30000) (efi : fi = rg_first (fun t => (P.getD t d4).2.2.2) gg pa.length 0) (een : en = rg_first (fun t => (P.getD t d4).2.2.2) (gg + 1) pa.length 0) (hgF : ∀ p, fi < p → p < en → (P.getD p d4).2.1 = 0) (hgT : ∀ p, fi ≤ p → p + 1 < en → (P.getD p d4).2.2.1 = eRw (EE (P.getD p d4).1)) (hM1 : 1 ≤ M) (hB9 : B ≤ 30000) (hB2 : B = glx M 0 (gl_S EE P fi en mo)) (hgs : gs ≤ 20000) (hg1 : 1 ≤ gg) (hg2 : gg ≤ gs) (hb3 : ¬ i3 < 0) (hb4 : ¬ 3 < i3) (hb2 : ¬ i2 < 0) : eI l D yX9_sheet cX9_sheet 4 (some .int) 11 327 (3 * (B - M)) (6 * (B - M)) [.ref dk, .int (nI gg), .int i2, .int i3] z cB cI_ cO L0 g0 (fun r L g => ∃ (S2 : List I3) (ra2 fa2 la2 M2 : Nat) (k0 k1 k2 : Nat → Int32) (w7 w8 w9 u1 u2 u3 u4 u5 u6 : Int32), (r = (-2) ∧ ¬ (∃ s : Nat, s < S2.length ∧ i2 = nI s) ∨ ∃ s : Nat, s < S2.length ∧ i2 = nI s ∧ r = stV (fun a => (EE (P.getD a d4).1).2.1) (S2.getD s (0, 0, 0)) i3) ∧ S2 = gl_S EE P fi en mo ∧ sh_is S2 k0 k1 k2 ∧ (S2.length ≤ M2 ∧ M2 = B ∧ 1 ≤ M2) ∧ fr [20, 25, 26, 27, 28] L0 g0 L g ∧ ho L g gl 25 (.inr (3, [.ref pr, .ref lf, .ref ra2, .ref fa2, .ref la2, .int (nI (S2.length)), .int (nI en), .int w7, .int w8, .int w9])) ∧ ho L g lf 20 (.inr (4, [.ref pr, .int u1, .int u2, .int u3, .int u4, .int u5, .int u6])) ∧ ho L g ra2 26 (.inl (cI_, M2, .inl k0)) ∧ ho L g fa2 27 (.inl (cI_, M2, .inl k1)) ∧ ho L g la2 28 (.inl (cI_, M2, .inl k2))) := by
  refine o_si (by decide) (Nat.le_of_ble_eq_true rfl) ?_
  intro p e s m below meth c A ls hf hr hlocks hin hK hP hD hS hA hZ hN hl
  obtain ⟨hx, hb, hml, hown, hts⟩ := id hf
  have hl : lv_has ls 4 [(0, .ref dk), (1, .int (nI gg)), (2, .int i2), (3, .int i3)] := hl
  have hfr : fr [20, 25, 26, 27, 28] L0 g0 L0 g0 := fr.rf
  refine lv_iload_n hx hb dX9_sheet_0 rfl (lv_at hl 3 rfl) ?_
  refine lv_if_lt (tgt := 9) hx hb dX9_sheet_1 (by decide) (fun c_1 => ?_) (fun c_1 => ?_)
  · exact absurd c_1 hb3
  · refine lv_iload_n hx hb dX9_sheet_4 rfl (lv_at hl 3 rfl) ?_
    refine lv_iconst (v := 3) hx hb dX9_sheet_5 (by decide) ?_
    refine lv_icmp_le (tgt := 12) hx hb dX9_sheet_6 (by decide) (fun c_2 => ?_) (fun c_2 => ?_)
    · refine lv_aload_n hx hb dX9_sheet_12 rfl (lv_at hl 0 rfl) ?_
      refine o_get (D := D) (ci := 10) (v := .int 1) (C := RX9) (T := TX9) (N := 12) hx hb hts inX9 hown hK hP h_dk rfl 10 (by decide) (hts _ k_439) (fun _ h9 => h9) rfl dX9_sheet_13 ?_
      refine lv_if_ne (tgt := 22) hx hb dX9_sheet_16 (by decide) (fun _ => ?_) (fun hno => absurd hno (by decide))
      refine lv_iload_n hx hb dX9_sheet_22 rfl (lv_at hl 1 rfl) ?_
      refine lv_iconst (v := 1) hx hb dX9_sheet_23 (by decide) ?_
      refine lv_icmp_lt (tgt := 39) hx hb dX9_sheet_24 (by decide) (fun c_3 => ?_) (fun c_3 => ?_)
      · have c_3 := q_lt (a := gg) (b := 1) (by omega) (by omega) c_3
        exact False.elim (by omega)
      · have c_3 := q_nlt (a := gg) (b := 1) (by omega) (by omega) c_3
        refine lv_iload_n hx hb dX9_sheet_27 rfl (lv_at hl 1 rfl) ?_
        refine lv_aload_n hx hb dX9_sheet_28 rfl (lv_at hl 0 rfl) ?_
        refine o_get (D := D) (ci := 10) (v := .int (nI gs)) (C := RX9) (T := TX9) (N := 12) hx hb hts inX9 hown hK hP h_dk rfl 11 (by decide) (hts _ k_440) (fun _ h9 => h9) rfl dX9_sheet_29 ?_
        refine lv_icmp_gt (tgt := 39) hx hb dX9_sheet_32 (by decide) (fun c_4 => ?_) (fun c_4 => ?_)
        · have c_4 := q_lt (a := gs) (b := gg) (by omega) (by omega) c_4
          exact False.elim (by omega)
        · have c_4 := q_nlt (a := gs) (b := gg) (by omega) (by omega) c_4
          refine lv_iload_n hx hb dX9_sheet_35 rfl (lv_at hl 2 rfl) ?_
          refine lv_if_ge (tgt := 42) hx hb dX9_sheet_36 (by decide) (fun c_5 => ?_) (fun c_5 => ?_)
          · have hplm := h_pc.1
            have heb := rg_first_le (fun t => (P.getD t d4).2.2.2) (gg + 1) pa.length 0
            rw [← een] at heb
            refine lv_aload_n hx hb dX9_sheet_42 rfl (lv_at hl 0 rfl) ?_
            refine o_get (D := D) (ci := 10) (v := .ref gl) (C := RX9) (T := TX9) (N := 12) hx hb hts inX9 hown hK hP h_dk rfl 7 (by decide) (hts _ k_436) (fun _ h9 => h9) rfl dX9_sheet_43 ?_
            refine lv_iload_n hx hb dX9_sheet_46 rfl (lv_at hl 1 rfl) ?_
            refine lv_aload_n hx hb dX9_sheet_47 rfl (lv_at hl 0 rfl) ?_
            refine o_get (D := D) (ci := 10) (v := .int (nI mo)) (C := RX9) (T := TX9) (N := 12) hx hb hts inX9 hown hK hP h_dk rfl 9 (by decide) (hts _ k_438) (fun _ h9 => h9) rfl dX9_sheet_48 ?_
            refine o_cv (k := 0 + (3 * (B - M))) (n := 0 + (6 * (B - M))) hK hP hD hS hA (o_rV (As := [.int (nI gg), .int (nI mo)]) (rest := []) hf (gl_lay _ _ _ _ _ _ _ _ pr pcs spr nwh cp pa ea P ne EE nb gl lf ra fa la v5 v6 v7 v8 v9 x1 x2 x3 x4 x5 x6 M f0 f1 f2 mo gg fi en B h_pr h_pcs h_pc h_es h_nwh h_gl h_lf h_ra h_fa h_la hpa hQ hSn hmo1 hmo hgg hG efi een hgF hgT hM1 hB9 hB2 _) k_949 k_946 k_947 k_948 k_96 (nA := 2) (by decide +kernel) ⟨Nat.le_of_ble_eq_true rfl, Nat.le_of_ble_eq_true rfl⟩ hK hP hD hS hA hZ hN h_gl rfl rfl rfl hl.1 rfl (Nat.le_of_ble_eq_true rfl) dX9_sheet_51 ⟨(show 0 + (3 * (B - M)) ≤ 3 * (B - M) by omega), (show 0 + (6 * (B - M)) ≤ 6 * (B - M) by omega)⟩) (by omega) (by omega) (fun L g H locs hw hP hD hS => ?_)
            obtain ⟨S2, ra2, fa2, la2, M2, k0, k1, k2, w7, w8, w9, u1, u2, u3, u4, u5, u6, eS, hsh, hM3, hf9, h_gl, h_lf, h_ra, h_fa, h_la⟩ := hw
            have h_dk := h_dk.fr hf9 (by decide)
            have h_pr := h_pr.fr hf9 (by decide)
            have h_nwh := h_nwh.fr hf9 (by decide)
            have h_nob := h_nob.fr hf9 (by decide)
            have hfr := hfr.tr hf9
            have h_pcs := h_pcs.frd hf9 (by decide)
            have h_pc := h_pc.frd hf9 (by decide)
            have h_es := h_es.frd hf9 (by decide)
            refine lv_iload_n hx hb dX9_sheet_54 rfl (lv_at hl 2 rfl) ?_
            refine lv_aload_n hx hb dX9_sheet_55 rfl (lv_at hl 0 rfl) ?_
            refine o_get (D := D) (ci := 10) (v := .ref gl) (C := RX9) (T := TX9) (N := 12) hx hb hts inX9 hown hK hP h_dk rfl 7 (by decide) (hts _ k_436) (fun _ h9 => h9) rfl dX9_sheet_56 ?_
            refine o_cis (k := 0 + (3 * (B - M))) (n := 0 + (6 * (B - M))) hK hP hD hS hA (o_rV (As := []) (rest := [.int i2]) hf (gl_sc _ _ _ _ _ _ _ _ pr gl lf ra2 fa2 la2 S2.length (nI en) w7 w8 w9 h_gl _) k_991 k_988 k_989 k_990 k_96 (nA := 0) (by decide +kernel) ⟨Nat.le_of_ble_eq_true rfl, Nat.le_of_ble_eq_true rfl⟩ hK hP hD hS hA hZ hN h_gl rfl rfl rfl hl.1 rfl (Nat.le_of_ble_eq_true rfl) dX9_sheet_59 ⟨(show 0 + (3 * (B - M)) + 0 ≤ 3 * (B - M) by omega), (show 0 + (6 * (B - M)) + 0 ≤ 6 * (B - M) by omega)⟩) (Nat.le_refl _) (Nat.le_refl _) (fun r H locs hw hP hD hS => ?_)
            obtain rfl := hw
            refine lv_icmp_lt (tgt := 68) hx hb dX9_sheet_62 (by decide) (fun c_6 => ?_) (fun c_6 => ?_)
            · obtain ⟨s_, hs_, rfl⟩ := ix_lt (by omega) (q_nlt_le c_5) c_6
              have hl : lv_has ls 4 [(0, .ref dk), (1, .int (nI gg)), (2, .int (nI s_)), (3, .int i3)] := hl
              have hsj := hsh s_ hs_
              have hgo := (glS_ok (EE := EE) (fi := fi) hQ (show en ≤ P.length by omega) hmo1 hmo).2 s_ (by rw [← eS]; exact hs_)
              rw [← eS, ← hsj.2.1, ← hsj.2.2] at hgo
              rcases hgo.2 with ⟨hn1, hn2⟩ | ⟨a_, b_, hn1, hn2, hab_, hb_⟩
              · have hP := hP
                refine lv_iload_n hx hb dX9_sheet_68 rfl (lv_at hl 3 rfl) ?_
                rcases q_sw_0_2 i3 with c_7 | c_7 | c_7 | c_7
                · refine q_seti (y := 0) c_7 ?_
                  refine lv_tableIn (off := 27) (tgt := 96) hx hb dX9_sheet_69 (by decide) (by decide) (by decide) (by decide) ?_
                  refine lv_aload_n hx hb dX9_sheet_96 rfl (lv_at hl 0 rfl) ?_
                  refine o_get (D := D) (ci := 10) (v := .ref gl) (C := RX9) (T := TX9) (N := 12) hx hb hts inX9 hown hK hP h_dk rfl 7 (by decide) (hts _ k_436) (fun _ h9 => h9) rfl dX9_sheet_97 ?_
                  refine lv_iload_n hx hb dX9_sheet_100 rfl (lv_at hl 2 rfl) ?_
                  refine o_cis (k := 0 + (3 * (B - M))) (n := 0 + (6 * (B - M))) hK hP hD hS hA (o_rV (As := [.int (nI s_)]) (rest := []) hf (gl_ron _ _ _ _ _ _ _ _ pr gl lf ra2 fa2 la2 M2 S2.length (nI en) w7 w8 w9 k0 k1 k2 s_ h_gl h_ra (by omega) (by omega) hs_ _) k_1004 k_1001 k_1002 k_1003 k_96 (nA := 1) (by decide +kernel) ⟨Nat.le_of_ble_eq_true rfl, Nat.le_of_ble_eq_true rfl⟩ hK hP hD hS hA hZ hN h_gl rfl rfl rfl hl.1 rfl (Nat.le_of_ble_eq_true rfl) dX9_sheet_101 ⟨(show 0 + (3 * (B - M)) + 0 ≤ 3 * (B - M) by omega), (show 0 + (6 * (B - M)) + 0 ≤ 6 * (B - M) by omega)⟩) (Nat.le_refl _) (Nat.le_refl _) (fun r H locs hw hP hD hS => ?_)
                  obtain rfl := hw
                  exact o_ri hf hr rfl hlocks hK hP hD hS (show 0 + (3 * (B - M)) ≤ 3 * (B - M) by omega) (show 0 + (6 * (B - M)) ≤ 6 * (B - M) by omega) ⟨S2, ra2, fa2, la2, M2, k0, k1, k2, w7, w8, w9, u1, u2, u3, u4, u5, u6, Or.inr ⟨s_, hs_, rfl, hsj.1.trans (stV_0 c_7).symm⟩, eS, hsh, hM3, hfr, h_gl, h_lf, h_ra, h_fa, h_la⟩ dX9_sheet_104
                · refine q_seti (y := 1) c_7 ?_
                  refine lv_tableIn (off := 36) (tgt := 105) hx hb dX9_sheet_69 (by decide) (by decide) (by decide) (by decide) ?_
                  refine lv_aload_n hx hb dX9_sheet_105 rfl (lv_at hl 0 rfl) ?_
                  refine o_get (D := D) (ci := 10) (v := .ref gl) (C := RX9) (T := TX9) (N := 12) hx hb hts inX9 hown hK hP h_dk rfl 7 (by decide) (hts _ k_436) (fun _ h9 => h9) rfl dX9_sheet_106 ?_
                  refine lv_iload_n hx hb dX9_sheet_109 rfl (lv_at hl 2 rfl) ?_
                  refine o_cis (k := 0 + (3 * (B - M))) (n := 0 + (6 * (B - M))) hK hP hD hS hA (o_rV (As := [.int (nI s_)]) (rest := []) hf (gl_ponE _ _ _ _ _ _ _ _ pr gl lf ra2 fa2 la2 M2 S2.length (nI en) w7 w8 w9 k0 k1 k2 s_ h_gl h_ra h_fa h_la (by omega) (by omega) hs_ hn1 _) k_1012 k_1009 k_1010 k_1011 k_96 (nA := 1) (by decide +kernel) ⟨Nat.le_of_ble_eq_true rfl, Nat.le_of_ble_eq_true rfl⟩ hK hP hD hS hA hZ hN h_gl rfl rfl rfl hl.1 rfl (Nat.le_of_ble_eq_true rfl) dX9_sheet_110 ⟨(show 0 + (3 * (B - M)) + 0 ≤ 3 * (B - M) by omega), (show 0 + (6 * (B - M)) + 0 ≤ 6 * (B - M) by omega)⟩) (Nat.le_refl _) (Nat.le_refl _) (fun r H locs hw hP hD hS => ?_)
                  obtain rfl := hw
                  exact o_ri hf hr rfl hlocks hK hP hD hS (show 0 + (3 * (B - M)) ≤ 3 * (B - M) by omega) (show 0 + (6 * (B - M)) ≤ 6 * (B - M) by omega) ⟨S2, ra2, fa2, la2, M2, k0, k1, k2, w7, w8, w9, u1, u2, u3, u4, u5, u6, Or.inr ⟨s_, hs_, rfl, stV_1n c_7 (hsj.2.1.symm.trans hn1)⟩, eS, hsh, hM3, hfr, h_gl, h_lf, h_ra, h_fa, h_la⟩ dX9_sheet_113
                · refine q_seti (y := 2) c_7 ?_
                  refine lv_tableIn (off := 45) (tgt := 114) hx hb dX9_sheet_69 (by decide) (by decide) (by decide) (by decide) ?_
                  refine lv_aload_n hx hb dX9_sheet_114 rfl (lv_at hl 0 rfl) ?_
                  refine o_get (D := D) (ci := 10) (v := .ref gl) (C := RX9) (T := TX9) (N := 12) hx hb hts inX9 hown hK hP h_dk rfl 7 (by decide) (hts _ k_436) (fun _ h9 => h9) rfl dX9_sheet_115 ?_
                  refine lv_iload_n hx hb dX9_sheet_118 rfl (lv_at hl 2 rfl) ?_
                  refine o_cis (k := 0 + (3 * (B - M))) (n := 0 + (6 * (B - M))) hK hP hD hS hA (o_rV (As := [.int (nI s_)]) (rest := []) hf (gl_feE _ _ _ _ _ _ _ _ pr pcs spr nwh cp pa ea P nb nt nf nr gl lf ra2 fa2 la2 M2 S2.length (nI en) w7 w8 w9 k0 k1 k2 s_ h_pr h_pcs h_nwh h_nob h_gl h_ra h_fa (by omega) (by omega) hs_ hn1 _) k_1016 k_1013 k_1014 k_1015 k_96 (nA := 1) (by decide +kernel) ⟨Nat.le_of_ble_eq_true rfl, Nat.le_of_ble_eq_true rfl⟩ hK hP hD hS hA hZ hN h_gl rfl rfl rfl hl.1 rfl (Nat.le_of_ble_eq_true rfl) dX9_sheet_119 ⟨(show 0 + (3 * (B - M)) + 0 ≤ 3 * (B - M) by omega), (show 0 + (6 * (B - M)) + 0 ≤ 6 * (B - M) by omega)⟩) (Nat.le_refl _) (Nat.le_refl _) (fun r H locs hw hP hD hS => ?_)
                  obtain rfl := hw
                  exact o_ri hf hr rfl hlocks hK hP hD hS (show 0 + (3 * (B - M)) ≤ 3 * (B - M) by omega) (show 0 + (6 * (B - M)) ≤ 6 * (B - M) by omega) ⟨S2, ra2, fa2, la2, M2, k0, k1, k2, w7, w8, w9, u1, u2, u3, u4, u5, u6, Or.inr ⟨s_, hs_, rfl, stV_2n c_7 (hsj.2.1.symm.trans hn1)⟩, eS, hsh, hM3, hfr, h_gl, h_lf, h_ra, h_fa, h_la⟩ dX9_sheet_122
                · refine lv_tableOut (tgt := 123) hx hb dX9_sheet_69 c_7 (by decide) ?_
                  refine lv_aload_n hx hb dX9_sheet_123 rfl (lv_at hl 0 rfl) ?_
                  refine o_get (D := D) (ci := 10) (v := .ref gl) (C := RX9) (T := TX9) (N := 12) hx hb hts inX9 hown hK hP h_dk rfl 7 (by decide) (hts _ k_436) (fun _ h9 => h9) rfl dX9_sheet_124 ?_
                  refine lv_iload_n hx hb dX9_sheet_127 rfl (lv_at hl 2 rfl) ?_
                  refine o_cis (k := 0 + (3 * (B - M))) (n := 0 + (6 * (B - M))) hK hP hD hS hA (o_rV (As := [.int (nI s_)]) (rest := []) hf (gl_leE _ _ _ _ _ _ _ _ pr pcs spr nwh cp pa ea P nb nt nf nr gl lf ra2 fa2 la2 M2 S2.length (nI en) w7 w8 w9 k0 k1 k2 s_ h_pr h_pcs h_nwh h_nob h_gl h_ra h_la (by omega) (by omega) hs_ hn2 _) k_1020 k_1017 k_1018 k_1019 k_96 (nA := 1) (by decide +kernel) ⟨Nat.le_of_ble_eq_true rfl, Nat.le_of_ble_eq_true rfl⟩ hK hP hD hS hA hZ hN h_gl rfl rfl rfl hl.1 rfl (Nat.le_of_ble_eq_true rfl) dX9_sheet_128 ⟨(show 0 + (3 * (B - M)) + 0 ≤ 3 * (B - M) by omega), (show 0 + (6 * (B - M)) + 0 ≤ 6 * (B - M) by omega)⟩) (Nat.le_refl _) (Nat.le_refl _) (fun r H locs hw hP hD hS => ?_)
                  obtain rfl := hw
                  exact o_ri hf hr rfl hlocks hK hP hD hS (show 0 + (3 * (B - M)) ≤ 3 * (B - M) by omega) (show 0 + (6 * (B - M)) ≤ 6 * (B - M) by omega) ⟨S2, ra2, fa2, la2, M2, k0, k1, k2, w7, w8, w9, u1, u2, u3, u4, u5, u6, Or.inr ⟨s_, hs_, rfl, stV_3n (sw_o2 c_7) (hsj.2.1.symm.trans hn1)⟩, eS, hsh, hM3, hfr, h_gl, h_lf, h_ra, h_fa, h_la⟩ dX9_sheet_131
              · have hP := hP
                refine lv_iload_n hx hb dX9_sheet_68 rfl (lv_at hl 3 rfl) ?_
                rcases q_sw_0_2 i3 with c_8 | c_8 | c_8 | c_8
                · refine q_seti (y := 0) c_8 ?_
                  refine lv_tableIn (off := 27) (tgt := 96) hx hb dX9_sheet_69 (by decide) (by decide) (by decide) (by decide) ?_
                  refine lv_aload_n hx hb dX9_sheet_96 rfl (lv_at hl 0 rfl) ?_
                  refine o_get (D := D) (ci := 10) (v := .ref gl) (C := RX9) (T := TX9) (N := 12) hx hb hts inX9 hown hK hP h_dk rfl 7 (by decide) (hts _ k_436) (fun _ h9 => h9) rfl dX9_sheet_97 ?_
                  refine lv_iload_n hx hb dX9_sheet_100 rfl (lv_at hl 2 rfl) ?_
                  refine o_cis (k := 0 + (3 * (B - M))) (n := 0 + (6 * (B - M))) hK hP hD hS hA (o_rV (As := [.int (nI s_)]) (rest := []) hf (gl_ron _ _ _ _ _ _ _ _ pr gl lf ra2 fa2 la2 M2 S2.length (nI en) w7 w8 w9 k0 k1 k2 s_ h_gl h_ra (by omega) (by omega) hs_ _) k_1004 k_1001 k_1002 k_1003 k_96 (nA := 1) (by decide +kernel) ⟨Nat.le_of_ble_eq_true rfl, Nat.le_of_ble_eq_true rfl⟩ hK hP hD hS hA hZ hN h_gl rfl rfl rfl hl.1 rfl (Nat.le_of_ble_eq_true rfl) dX9_sheet_101 ⟨(show 0 + (3 * (B - M)) + 0 ≤ 3 * (B - M) by omega), (show 0 + (6 * (B - M)) + 0 ≤ 6 * (B - M) by omega)⟩) (Nat.le_refl _) (Nat.le_refl _) (fun r H locs hw hP hD hS => ?_)
                  obtain rfl := hw
                  exact o_ri hf hr rfl hlocks hK hP hD hS (show 0 + (3 * (B - M)) ≤ 3 * (B - M) by omega) (show 0 + (6 * (B - M)) ≤ 6 * (B - M) by omega) ⟨S2, ra2, fa2, la2, M2, k0, k1, k2, w7, w8, w9, u1, u2, u3, u4, u5, u6, Or.inr ⟨s_, hs_, rfl, hsj.1.trans (stV_0 c_8).symm⟩, eS, hsh, hM3, hfr, h_gl, h_lf, h_ra, h_fa, h_la⟩ dX9_sheet_104
                · refine q_seti (y := 1) c_8 ?_
                  refine lv_tableIn (off := 36) (tgt := 105) hx hb dX9_sheet_69 (by decide) (by decide) (by decide) (by decide) ?_
                  refine lv_aload_n hx hb dX9_sheet_105 rfl (lv_at hl 0 rfl) ?_
                  refine o_get (D := D) (ci := 10) (v := .ref gl) (C := RX9) (T := TX9) (N := 12) hx hb hts inX9 hown hK hP h_dk rfl 7 (by decide) (hts _ k_436) (fun _ h9 => h9) rfl dX9_sheet_106 ?_
                  refine lv_iload_n hx hb dX9_sheet_109 rfl (lv_at hl 2 rfl) ?_
                  refine o_cis (k := 0 + (3 * (B - M))) (n := 0 + (6 * (B - M))) hK hP hD hS hA (o_rV (As := [.int (nI s_)]) (rest := []) hf (gl_pon _ _ _ _ _ _ _ _ pr gl lf ra2 fa2 la2 M2 S2.length (nI en) w7 w8 w9 k0 k1 k2 s_ a_ b_ h_gl h_ra h_fa h_la (by omega) (by omega) hs_ hn1 hn2 (by omega) (by omega) _) k_1012 k_1009 k_1010 k_1011 k_96 (nA := 1) (by decide +kernel) ⟨Nat.le_of_ble_eq_true rfl, Nat.le_of_ble_eq_true rfl⟩ hK hP hD hS hA hZ hN h_gl rfl rfl rfl hl.1 rfl (Nat.le_of_ble_eq_true rfl) dX9_sheet_110 ⟨(show 0 + (3 * (B - M)) + 0 ≤ 3 * (B - M) by omega), (show 0 + (6 * (B - M)) + 0 ≤ 6 * (B - M) by omega)⟩) (Nat.le_refl _) (Nat.le_refl _) (fun r H locs hw hP hD hS => ?_)
                  obtain rfl := hw
                  exact o_ri hf hr rfl hlocks hK hP hD hS (show 0 + (3 * (B - M)) ≤ 3 * (B - M) by omega) (show 0 + (6 * (B - M)) ≤ 6 * (B - M) by omega) ⟨S2, ra2, fa2, la2, M2, k0, k1, k2, w7, w8, w9, u1, u2, u3, u4, u5, u6, Or.inr ⟨s_, hs_, rfl, stV_1p c_8 (hsj.2.1.symm.trans hn1) (hsj.2.2.symm.trans hn2) (by omega) (by omega)⟩, eS, hsh, hM3, hfr, h_gl, h_lf, h_ra, h_fa, h_la⟩ dX9_sheet_113
                · refine q_seti (y := 2) c_8 ?_
                  refine lv_tableIn (off := 45) (tgt := 114) hx hb dX9_sheet_69 (by decide) (by decide) (by decide) (by decide) ?_
                  refine lv_aload_n hx hb dX9_sheet_114 rfl (lv_at hl 0 rfl) ?_
                  refine o_get (D := D) (ci := 10) (v := .ref gl) (C := RX9) (T := TX9) (N := 12) hx hb hts inX9 hown hK hP h_dk rfl 7 (by decide) (hts _ k_436) (fun _ h9 => h9) rfl dX9_sheet_115 ?_
                  refine lv_iload_n hx hb dX9_sheet_118 rfl (lv_at hl 2 rfl) ?_
                  refine o_cis (k := 0 + (3 * (B - M))) (n := 0 + (6 * (B - M))) hK hP hD hS hA (o_rV (As := [.int (nI s_)]) (rest := []) hf (gl_fe _ _ _ _ _ _ _ _ pr pcs spr nwh cp pa ea P ne EE gl lf ra2 fa2 la2 M2 S2.length (nI en) w7 w8 w9 k0 k1 k2 s_ a_ h_pr h_pcs h_pc h_es h_gl h_ra h_fa hpa hQ (by omega) (by omega) hs_ hn1 (by omega) _) k_1016 k_1013 k_1014 k_1015 k_96 (nA := 1) (by decide +kernel) ⟨Nat.le_of_ble_eq_true rfl, Nat.le_of_ble_eq_true rfl⟩ hK hP hD hS hA hZ hN h_gl rfl rfl rfl hl.1 rfl (Nat.le_of_ble_eq_true rfl) dX9_sheet_119 ⟨(show 0 + (3 * (B - M)) + 0 ≤ 3 * (B - M) by omega), (show 0 + (6 * (B - M)) + 0 ≤ 6 * (B - M) by omega)⟩) (Nat.le_refl _) (Nat.le_refl _) (fun r H locs hw hP hD hS => ?_)
                  obtain rfl := hw
                  exact o_ri hf hr rfl hlocks hK hP hD hS (show 0 + (3 * (B - M)) ≤ 3 * (B - M) by omega) (show 0 + (6 * (B - M)) ≤ 6 * (B - M) by omega) ⟨S2, ra2, fa2, la2, M2, k0, k1, k2, w7, w8, w9, u1, u2, u3, u4, u5, u6, Or.inr ⟨s_, hs_, rfl, stV_2p (pe := (fun a => (EE (P.getD a d4).1).2.1)) c_8 (hsj.2.1.symm.trans hn1) (by omega)⟩, eS, hsh, hM3, hfr, h_gl, h_lf, h_ra, h_fa, h_la⟩ dX9_sheet_122
                · refine lv_tableOut (tgt := 123) hx hb dX9_sheet_69 c_8 (by decide) ?_
                  refine lv_aload_n hx hb dX9_sheet_123 rfl (lv_at hl 0 rfl) ?_
                  refine o_get (D := D) (ci := 10) (v := .ref gl) (C := RX9) (T := TX9) (N := 12) hx hb hts inX9 hown hK hP h_dk rfl 7 (by decide) (hts _ k_436) (fun _ h9 => h9) rfl dX9_sheet_124 ?_
                  refine lv_iload_n hx hb dX9_sheet_127 rfl (lv_at hl 2 rfl) ?_
                  refine o_cis (k := 0 + (3 * (B - M))) (n := 0 + (6 * (B - M))) hK hP hD hS hA (o_rV (As := [.int (nI s_)]) (rest := []) hf (gl_le _ _ _ _ _ _ _ _ pr pcs spr nwh cp pa ea P ne EE gl lf ra2 fa2 la2 M2 S2.length (nI en) w7 w8 w9 k0 k1 k2 s_ b_ h_pr h_pcs h_pc h_es h_gl h_ra h_la hpa hQ (by omega) (by omega) hs_ hn2 (by omega) _) k_1020 k_1017 k_1018 k_1019 k_96 (nA := 1) (by decide +kernel) ⟨Nat.le_of_ble_eq_true rfl, Nat.le_of_ble_eq_true rfl⟩ hK hP hD hS hA hZ hN h_gl rfl rfl rfl hl.1 rfl (Nat.le_of_ble_eq_true rfl) dX9_sheet_128 ⟨(show 0 + (3 * (B - M)) + 0 ≤ 3 * (B - M) by omega), (show 0 + (6 * (B - M)) + 0 ≤ 6 * (B - M) by omega)⟩) (Nat.le_refl _) (Nat.le_refl _) (fun r H locs hw hP hD hS => ?_)
                  obtain rfl := hw
                  exact o_ri hf hr rfl hlocks hK hP hD hS (show 0 + (3 * (B - M)) ≤ 3 * (B - M) by omega) (show 0 + (6 * (B - M)) ≤ 6 * (B - M) by omega) ⟨S2, ra2, fa2, la2, M2, k0, k1, k2, w7, w8, w9, u1, u2, u3, u4, u5, u6, Or.inr ⟨s_, hs_, rfl, stV_3p (pe := (fun a => (EE (P.getD a d4).1).2.1)) (sw_o2 c_8) (hsj.2.1.symm.trans hn1) (hsj.2.2.symm.trans hn2) (by omega) (by omega)⟩, eS, hsh, hM3, hfr, h_gl, h_lf, h_ra, h_fa, h_la⟩ dX9_sheet_131
            · refine lv_bipush (v := (-2)) hx hb dX9_sheet_65 (by decide) ?_
              exact o_ri hf hr rfl hlocks hK hP hD hS (show 0 + (3 * (B - M)) ≤ 3 * (B - M) by omega) (show 0 + (6 * (B - M)) ≤ 6 * (B - M) by omega) ⟨S2, ra2, fa2, la2, M2, k0, k1, k2, w7, w8, w9, u1, u2, u3, u4, u5, u6, Or.inl ⟨rfl, ix_no2 (by omega) c_6⟩, eS, hsh, hM3, hfr, h_gl, h_lf, h_ra, h_fa, h_la⟩ dX9_sheet_67
          · exact absurd (q_lt_nle c_5) hb2
    · exact absurd (q_lt_nle c_2) hb4
set_option maxHeartbeats 1000000 in
set_option maxRecDepth 100000 in
theorem d_sheetC2 (l : Launch) (D : va_G) (z : Nat → Nat) (cB cI_ cO : ClassId) (L0 : List Nat) (g0 : hG) (dk tp rd els reo nob pr bk gl sl mo gs : Nat) (i1 i2 i3 : Int32) (h_dk : ho L0 g0 dk 1 (.inr (10, [.ref tp, .ref rd, .ref els, .ref reo, .ref nob, .ref pr, .ref bk, .ref gl, .ref sl, .int (nI mo), .int 1, .int (nI gs)]))) (hxx : i3 < 0 ∨ 3 < i3 ∨ i2 < 0) : eIs l D yX9_sheet cX9_sheet 4 (some .int) 0 0 0 0 [.ref dk, .int i1, .int i2, .int i3] z cB cI_ cO L0 g0 (fun r => r = -2) := by
  refine o_si (by decide) (Nat.le_of_ble_eq_true rfl) ?_
  intro p e s m below meth c A ls hf hr hlocks hin hK hP hD hS hA hZ hN hl
  obtain ⟨hx, hb, hml, hown, hts⟩ := id hf
  have hl : lv_has ls 4 [(0, .ref dk), (1, .int i1), (2, .int i2), (3, .int i3)] := hl
  refine lv_iload_n hx hb dX9_sheet_0 rfl (lv_at hl 3 rfl) ?_
  refine lv_if_lt (tgt := 9) hx hb dX9_sheet_1 (by decide) (fun c_1 => ?_) (fun c_1 => ?_)
  · refine lv_bipush (v := (-2)) hx hb dX9_sheet_9 (by decide) ?_
    exact o_ri hf hr rfl hlocks hK hP hD hS (show 0 ≤ 0 by omega) (show 0 ≤ 0 by omega) ⟨rfl, rfl, rfl⟩ dX9_sheet_11
  · refine lv_iload_n hx hb dX9_sheet_4 rfl (lv_at hl 3 rfl) ?_
    refine lv_iconst (v := 3) hx hb dX9_sheet_5 (by decide) ?_
    refine lv_icmp_le (tgt := 12) hx hb dX9_sheet_6 (by decide) (fun c_2 => ?_) (fun c_2 => ?_)
    · refine lv_aload_n hx hb dX9_sheet_12 rfl (lv_at hl 0 rfl) ?_
      refine o_get (D := D) (ci := 10) (v := .int 1) (C := RX9) (T := TX9) (N := 12) hx hb hts inX9 hown hK hP h_dk rfl 10 (by decide) (hts _ k_439) (fun _ h9 => h9) rfl dX9_sheet_13 ?_
      refine lv_if_ne (tgt := 22) hx hb dX9_sheet_16 (by decide) (fun _ => ?_) (fun hno => absurd hno (by decide))
      refine lv_iload_n hx hb dX9_sheet_22 rfl (lv_at hl 1 rfl) ?_
      refine lv_iconst (v := 1) hx hb dX9_sheet_23 (by decide) ?_
      refine lv_icmp_lt (tgt := 39) hx hb dX9_sheet_24 (by decide) (fun c_3 => ?_) (fun c_3 => ?_)
      · refine lv_bipush (v := (-2)) hx hb dX9_sheet_39 (by decide) ?_
        exact o_ri hf hr rfl hlocks hK hP hD hS (show 0 ≤ 0 by omega) (show 0 ≤ 0 by omega) ⟨rfl, rfl, rfl⟩ dX9_sheet_41
      · refine lv_iload_n hx hb dX9_sheet_27 rfl (lv_at hl 1 rfl) ?_
        refine lv_aload_n hx hb dX9_sheet_28 rfl (lv_at hl 0 rfl) ?_
        refine o_get (D := D) (ci := 10) (v := .int (nI gs)) (C := RX9) (T := TX9) (N := 12) hx hb hts inX9 hown hK hP h_dk rfl 11 (by decide) (hts _ k_440) (fun _ h9 => h9) rfl dX9_sheet_29 ?_
        refine lv_icmp_gt (tgt := 39) hx hb dX9_sheet_32 (by decide) (fun c_4 => ?_) (fun c_4 => ?_)
        · refine lv_bipush (v := (-2)) hx hb dX9_sheet_39 (by decide) ?_
          exact o_ri hf hr rfl hlocks hK hP hD hS (show 0 ≤ 0 by omega) (show 0 ≤ 0 by omega) ⟨rfl, rfl, rfl⟩ dX9_sheet_41
        · refine lv_iload_n hx hb dX9_sheet_35 rfl (lv_at hl 2 rfl) ?_
          refine lv_if_ge (tgt := 42) hx hb dX9_sheet_36 (by decide) (fun c_5 => ?_) (fun c_5 => ?_)
          · rcases hxx with h9 | h9 | h9
            · exact absurd h9 c_1
            · exact absurd h9 (q_nlt_le c_2)
            · exact absurd h9 (q_nlt_le c_5)
          · refine lv_bipush (v := (-2)) hx hb dX9_sheet_39 (by decide) ?_
            exact o_ri hf hr rfl hlocks hK hP hD hS (show 0 ≤ 0 by omega) (show 0 ≤ 0 by omega) ⟨rfl, rfl, rfl⟩ dX9_sheet_41
    · refine lv_bipush (v := (-2)) hx hb dX9_sheet_9 (by decide) ?_
      exact o_ri hf hr rfl hlocks hK hP hD hS (show 0 ≤ 0 by omega) (show 0 ≤ 0 by omega) ⟨rfl, rfl, rfl⟩ dX9_sheet_11
set_option maxHeartbeats 1000000 in
set_option maxRecDepth 100000 in
theorem d_sheetB2 (l : Launch) (D : va_G) (z : Nat → Nat) (cB cI_ cO : ClassId) (L0 : List Nat) (g0 : hG) (dk tp rd els reo nob pr bk gl sl mo gs : Nat) (i1 i2 i3 : Int32) (h_dk : ho L0 g0 dk 1 (.inr (10, [.ref tp, .ref rd, .ref els, .ref reo, .ref nob, .ref pr, .ref bk, .ref gl, .ref sl, .int (nI mo), .int 1, .int (nI gs)]))) (hxx : i1 < 1 ∨ nI gs < i1) : eIs l D yX9_sheet cX9_sheet 4 (some .int) 0 0 0 0 [.ref dk, .int i1, .int i2, .int i3] z cB cI_ cO L0 g0 (fun r => r = -2) := by
  refine o_si (by decide) (Nat.le_of_ble_eq_true rfl) ?_
  intro p e s m below meth c A ls hf hr hlocks hin hK hP hD hS hA hZ hN hl
  obtain ⟨hx, hb, hml, hown, hts⟩ := id hf
  have hl : lv_has ls 4 [(0, .ref dk), (1, .int i1), (2, .int i2), (3, .int i3)] := hl
  refine lv_iload_n hx hb dX9_sheet_0 rfl (lv_at hl 3 rfl) ?_
  refine lv_if_lt (tgt := 9) hx hb dX9_sheet_1 (by decide) (fun c_1 => ?_) (fun c_1 => ?_)
  · refine lv_bipush (v := (-2)) hx hb dX9_sheet_9 (by decide) ?_
    exact o_ri hf hr rfl hlocks hK hP hD hS (show 0 ≤ 0 by omega) (show 0 ≤ 0 by omega) ⟨rfl, rfl, rfl⟩ dX9_sheet_11
  · refine lv_iload_n hx hb dX9_sheet_4 rfl (lv_at hl 3 rfl) ?_
    refine lv_iconst (v := 3) hx hb dX9_sheet_5 (by decide) ?_
    refine lv_icmp_le (tgt := 12) hx hb dX9_sheet_6 (by decide) (fun c_2 => ?_) (fun c_2 => ?_)
    · refine lv_aload_n hx hb dX9_sheet_12 rfl (lv_at hl 0 rfl) ?_
      refine o_get (D := D) (ci := 10) (v := .int 1) (C := RX9) (T := TX9) (N := 12) hx hb hts inX9 hown hK hP h_dk rfl 10 (by decide) (hts _ k_439) (fun _ h9 => h9) rfl dX9_sheet_13 ?_
      refine lv_if_ne (tgt := 22) hx hb dX9_sheet_16 (by decide) (fun _ => ?_) (fun hno => absurd hno (by decide))
      refine lv_iload_n hx hb dX9_sheet_22 rfl (lv_at hl 1 rfl) ?_
      refine lv_iconst (v := 1) hx hb dX9_sheet_23 (by decide) ?_
      refine lv_icmp_lt (tgt := 39) hx hb dX9_sheet_24 (by decide) (fun c_3 => ?_) (fun c_3 => ?_)
      · refine lv_bipush (v := (-2)) hx hb dX9_sheet_39 (by decide) ?_
        exact o_ri hf hr rfl hlocks hK hP hD hS (show 0 ≤ 0 by omega) (show 0 ≤ 0 by omega) ⟨rfl, rfl, rfl⟩ dX9_sheet_41
      · refine lv_iload_n hx hb dX9_sheet_27 rfl (lv_at hl 1 rfl) ?_
        refine lv_aload_n hx hb dX9_sheet_28 rfl (lv_at hl 0 rfl) ?_
        refine o_get (D := D) (ci := 10) (v := .int (nI gs)) (C := RX9) (T := TX9) (N := 12) hx hb hts inX9 hown hK hP h_dk rfl 11 (by decide) (hts _ k_440) (fun _ h9 => h9) rfl dX9_sheet_29 ?_
        refine lv_icmp_gt (tgt := 39) hx hb dX9_sheet_32 (by decide) (fun c_4 => ?_) (fun c_4 => ?_)
        · refine lv_bipush (v := (-2)) hx hb dX9_sheet_39 (by decide) ?_
          exact o_ri hf hr rfl hlocks hK hP hD hS (show 0 ≤ 0 by omega) (show 0 ≤ 0 by omega) ⟨rfl, rfl, rfl⟩ dX9_sheet_41
        · refine lv_iload_n hx hb dX9_sheet_35 rfl (lv_at hl 2 rfl) ?_
          refine lv_if_ge (tgt := 42) hx hb dX9_sheet_36 (by decide) (fun c_5 => ?_) (fun c_5 => ?_)
          · exact False.elim (hxx.elim c_3 c_4)
          · refine lv_bipush (v := (-2)) hx hb dX9_sheet_39 (by decide) ?_
            exact o_ri hf hr rfl hlocks hK hP hD hS (show 0 ≤ 0 by omega) (show 0 ≤ 0 by omega) ⟨rfl, rfl, rfl⟩ dX9_sheet_41
    · refine lv_bipush (v := (-2)) hx hb dX9_sheet_9 (by decide) ?_
      exact o_ri hf hr rfl hlocks hK hP hD hS (show 0 ≤ 0 by omega) (show 0 ≤ 0 by omega) ⟨rfl, rfl, rfl⟩ dX9_sheet_11
set_option maxHeartbeats 1000000 in
set_option maxRecDepth 100000 in
theorem d_sheetU2 (l : Launch) (D : va_G) (z : Nat → Nat) (cB cI_ cO : ClassId) (L0 : List Nat) (g0 : hG) (dk tp rd els reo nob pr bk gl sl mo : Nat) (v11 i1 i2 i3 : Int32) (h_dk : ho L0 g0 dk 1 (.inr (10, [.ref tp, .ref rd, .ref els, .ref reo, .ref nob, .ref pr, .ref bk, .ref gl, .ref sl, .int (nI mo), .int 0, .int v11])))  : eIs l D yX9_sheet cX9_sheet 4 (some .int) 0 0 0 0 [.ref dk, .int i1, .int i2, .int i3] z cB cI_ cO L0 g0 (fun r => (((i3 < 0 ∨ 3 < i3) ∧ r = (-2)) ∨ (¬ (i3 < 0 ∨ 3 < i3) ∧ r = (-3)))) := by
  refine o_si (by decide) (Nat.le_of_ble_eq_true rfl) ?_
  intro p e s m below meth c A ls hf hr hlocks hin hK hP hD hS hA hZ hN hl
  obtain ⟨hx, hb, hml, hown, hts⟩ := id hf
  have hl : lv_has ls 4 [(0, .ref dk), (1, .int i1), (2, .int i2), (3, .int i3)] := hl
  refine lv_iload_n hx hb dX9_sheet_0 rfl (lv_at hl 3 rfl) ?_
  refine lv_if_lt (tgt := 9) hx hb dX9_sheet_1 (by decide) (fun c_1 => ?_) (fun c_1 => ?_)
  · refine lv_bipush (v := (-2)) hx hb dX9_sheet_9 (by decide) ?_
    exact o_ri hf hr rfl hlocks hK hP hD hS (show 0 ≤ 0 by omega) (show 0 ≤ 0 by omega) ⟨Or.inl ⟨Or.inl c_1, rfl⟩, rfl, rfl⟩ dX9_sheet_11
  · refine lv_iload_n hx hb dX9_sheet_4 rfl (lv_at hl 3 rfl) ?_
    refine lv_iconst (v := 3) hx hb dX9_sheet_5 (by decide) ?_
    refine lv_icmp_le (tgt := 12) hx hb dX9_sheet_6 (by decide) (fun c_2 => ?_) (fun c_2 => ?_)
    · refine lv_aload_n hx hb dX9_sheet_12 rfl (lv_at hl 0 rfl) ?_
      refine o_get (D := D) (ci := 10) (v := .int 0) (C := RX9) (T := TX9) (N := 12) hx hb hts inX9 hown hK hP h_dk rfl 10 (by decide) (hts _ k_439) (fun _ h9 => h9) rfl dX9_sheet_13 ?_
      refine lv_if_ne (tgt := 22) hx hb dX9_sheet_16 (by decide) (fun hno => absurd hno (by decide)) (fun _ => ?_)
      refine lv_bipush (v := (-3)) hx hb dX9_sheet_19 (by decide) ?_
      exact o_ri hf hr rfl hlocks hK hP hD hS (show 0 ≤ 0 by omega) (show 0 ≤ 0 by omega) ⟨Or.inr ⟨fun h9 => h9.elim c_1 (q_nlt_le c_2), rfl⟩, rfl, rfl⟩ dX9_sheet_21
    · refine lv_bipush (v := (-2)) hx hb dX9_sheet_9 (by decide) ?_
      exact o_ri hf hr rfl hlocks hK hP hD hS (show 0 ≤ 0 by omega) (show 0 ≤ 0 by omega) ⟨Or.inl ⟨Or.inr (q_lt_nle c_2), rfl⟩, rfl, rfl⟩ dX9_sheet_11
