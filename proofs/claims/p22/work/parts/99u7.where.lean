/-- the next sheet of the list -/
theorem rs_sh_st {K : Nat → Int32} {Fm To Rr : Nat → Nat} {fi en mo f p r i : Nat} {x : N3} {SL : List I3} (hd : SL.drop i = rs_sh K Fm To Rr fi en mo (f + 1) p r) (hp : p < en) (e : rs_lay K Fm To Rr p r en mo 41 p r (pb (rp_ra (K p) (Fm p) p r fi)) 0 none = some x) : i < SL.length ∧ SL.getD i (0, 0, 0) = (nI x.2.2, nI p, nI (rs_lp x)) ∧ SL.drop (i + 1) = rs_sh K Fm To Rr fi en mo f x.1 x.2.1 := by
  rw [rs_sh_in hp e] at hd
  have h1 : i < SL.length := by
    rcases Nat.lt_or_ge i SL.length with h | h
    · exact h
    · rw [List.drop_eq_nil_of_le h] at hd
      cases hd
  rw [List.drop_eq_getElem_cons h1] at hd
  have h2 := List.cons.inj hd
  refine ⟨h1, ?_, h2.2⟩
  rw [List.getD_eq_getElem?_getD, List.getElem?_eq_getElem h1]
  exact h2.1
/-- b is the last piece on sheet u -/
def lsA (L : List I3) (u b : Nat) : Prop := b ≤ 20000 ∧ (L.getD u (0, 0, 0)).2.2 = nI b
def whT (L : List I3) (pl t : Nat) : Prop := t < L.length ∧ (∃ b, lsA L t b ∧ pl ≤ b) ∧ ∀ u, u < t → ∃ b, lsA L u b ∧ b < pl
def whN (L : List I3) (pl : Nat) : Prop := ∀ u, u < L.length → ∃ b, lsA L u b ∧ b < pl
theorem lsA_un {L : List I3} {u a b : Nat} (h1 : lsA L u a) (h2 : lsA L u b) : a = b := q_eqn (a := a) (b := b) (by have := h1.1; omega) (by have := h2.1; omega) (h1.2.symm.trans h2.2)
theorem whT_un {L : List I3} {pl s t : Nat} (h1 : whT L pl s) (h2 : whT L pl t) : s = t := by
  have key : ∀ {s t : Nat}, whT L pl s → whT L pl t → ¬ s < t := fun {s t} h1 h2 h => by
    obtain ⟨b, h3, h4⟩ := h1.2.1
    obtain ⟨c, h5, h6⟩ := h2.2.2 s h
    have := lsA_un h3 h5
    omega
  have a := key h1 h2
  have b := key h2 h1
  omega
theorem whT_no {L : List I3} {pl t : Nat} (h1 : whN L pl) (h2 : whT L pl t) : False := by
  obtain ⟨b, h3, h4⟩ := h2.2.1
  obtain ⟨c, h5, h6⟩ := h1 t h2.1
  have := lsA_un h3 h5
  omega
theorem lp_hi {x : N3} {pl : Nat} (h : pl < x.1 ∨ (pl ≤ x.1 ∧ 0 < x.2.1)) : pl ≤ rs_lp x := by
  unfold rs_lp
  split <;> omega
theorem lp_lo {x : N3} {pl : Nat} (h : x.1 < pl ∨ (x.1 ≤ pl ∧ x.2.1 = 0 ∧ 1 ≤ x.1)) : rs_lp x < pl := by
  unfold rs_lp
  split <;> omega
theorem lp_le (x : N3) : rs_lp x ≤ x.1 := by
  unfold rs_lp
  split <;> omega
/-- where: what the reference answers -/
def whC (lk ne : Nat) (Es : List E5) (P : List Q4) (SL : Nat → List I3) (x1 r : Int32) : Prop := (¬ (∃ j : Nat, j < ne ∧ x1 = nI j) ∧ r = (-2)) ∨ (∃ j : Nat, j < ne ∧ x1 = nI j ∧ lk = 0 ∧ r = (-3)) ∨ (∃ j : Nat, j < ne ∧ x1 = nI j ∧ 0 < lk ∧ ¬ (Es.getD j dE).2.2.1 = 0 ∧ r = (-1)) ∨ (∃ j pl t : Nat, (j < ne ∧ x1 = nI j) ∧ (0 < lk ∧ (Es.getD j dE).2.2.1 = 0) ∧ ((P.getD pl d4).1 = j ∧ ∀ i, i < pl → ¬ (P.getD i d4).1 = j) ∧ whT (SL pl) pl t ∧ r = nI (32 * ((P.getD pl d4).2.2.2 + 1) + t))
/-- where: what the class answers -/
def whD (lk ne : Nat) (Es : List E5) (P : List Q4) (SL : Nat → List I3) (x1 r : Int32) : Prop := (¬ (∃ j : Nat, j < ne ∧ x1 = nI j) ∧ r = (-2)) ∨ (∃ j : Nat, j < ne ∧ x1 = nI j ∧ lk = 0 ∧ r = (-3)) ∨ (∃ j : Nat, j < ne ∧ x1 = nI j ∧ 0 < lk ∧ ¬ (Es.getD j dE).2.2.1 = 0 ∧ r = (-1)) ∨ (∃ j pl t : Nat, (j < ne ∧ x1 = nI j) ∧ (0 < lk ∧ (Es.getD j dE).2.2.1 = 0) ∧ ((P.getD pl d4).1 = j ∧ ∀ i, i < pl → ¬ (P.getD i d4).1 = j) ∧ (whT (SL pl) pl t ∨ whN (SL pl) pl) ∧ r = nI (32 * ((P.getD pl d4).2.2.2 + 1) + t))
theorem fst_un {P : List Q4} {j p q : Nat} (h1 : (P.getD p d4).1 = j ∧ ∀ i, i < p → ¬ (P.getD i d4).1 = j) (h2 : (P.getD q d4).1 = j ∧ ∀ i, i < q → ¬ (P.getD i d4).1 = j) : p = q := by
  rcases Nat.lt_trichotomy p q with h | h | h
  · exact absurd h1.1 (h2.2 p h)
  · exact h
  · exact absurd h2.1 (h1.2 q h)
theorem whC_det {lk ne : Nat} {Es : List E5} {P : List Q4} {SL : Nat → List I3} {x1 r1 r2 : Int32} (hn : ne ≤ 60) (h1 : whD lk ne Es P SL x1 r1) (h2 : whC lk ne Es P SL x1 r2) : r1 = r2 := by
  have key : ∀ {j k : Nat}, j < ne → k < ne → x1 = nI j → x1 = nI k → j = k := fun {j k} a b c d => q_eqn (a := j) (b := k) (by omega) (by omega) (c.symm.trans d)
  rcases h1 with ⟨a1, a2⟩ | ⟨j, a1, a2, a3, a4⟩ | ⟨j, a1, a2, a3, a4, a5⟩ | ⟨j, pl, t, a1, a2, a3, a4, a5⟩
  · rcases h2 with ⟨b1, b2⟩ | ⟨k, b1, b2, b3, b4⟩ | ⟨k, b1, b2, b3, b4, b5⟩ | ⟨k, pk, u, b1, b2, b3, b4, b5⟩
    · rw [a2, b2]
    · exact absurd ⟨k, b1, b2⟩ a1
    · exact absurd ⟨k, b1, b2⟩ a1
    · exact absurd ⟨k, b1⟩ a1
  · rcases h2 with ⟨b1, b2⟩ | ⟨k, b1, b2, b3, b4⟩ | ⟨k, b1, b2, b3, b4, b5⟩ | ⟨k, pk, u, b1, b2, b3, b4, b5⟩
    · exact absurd ⟨j, a1, a2⟩ b1
    · rw [a4, b4]
    · exact False.elim (by omega)
    · exact False.elim (by omega)
  · rcases h2 with ⟨b1, b2⟩ | ⟨k, b1, b2, b3, b4⟩ | ⟨k, b1, b2, b3, b4, b5⟩ | ⟨k, pk, u, b1, b2, b3, b4, b5⟩
    · exact absurd ⟨j, a1, a2⟩ b1
    · exact False.elim (by omega)
    · rw [a5, b5]
    · have e := key a1 b1.1 a2 b1.2
      rw [e] at a4
      exact absurd b2.2 a4
  · rcases h2 with ⟨b1, b2⟩ | ⟨k, b1, b2, b3, b4⟩ | ⟨k, b1, b2, b3, b4, b5⟩ | ⟨k, pk, u, b1, b2, b3, b4, b5⟩
    · exact absurd ⟨j, a1⟩ b1
    · exact False.elim (by omega)
    · have e := key a1.1 b1 a1.2 b2
      rw [e] at a2
      exact absurd a2.2 b4
    · have e := key a1.1 b1.1 a1.2 b1.2
      rw [e] at a3
      have e2 := fst_un a3 b3
      rw [e2] at a4 a5
      rcases a4 with a4 | a4
      · rw [a5, b5, whT_un a4 b4]
      · exact (whT_no a4 b4).elim
theorem rs_sh_le {K : Nat → Int32} {Fm To Rr : Nat → Nat} {fi en mo : Nat} : ∀ f p r, (rs_sh K Fm To Rr fi en mo f p r).length ≤ f := by
  intro f
  induction f with
  | zero => intro p r; exact Nat.le_refl _
  | succ f ih =>
    intro p r
    show (if p < en then _ :: rs_sh K Fm To Rr fi en mo f _ _ else []).length ≤ f + 1
    split
    · rw [List.length_cons]
      have := ih (rs_nx K Fm To Rr fi en mo p r).1 (rs_nx K Fm To Rr fi en mo p r).2.1
      omega
    · exact Nat.zero_le _
/-- the sheets of the group of a piece -/
noncomputable def whS (EE : Nat → E5) (P : List Q4) (n mo : Nat) (pl : Nat) : List I3 := gl_S EE P (rg_first (fun p => (P.getD p d4).2.2.2) (P.getD pl d4).2.2.2 n 0) (rg_first (fun p => (P.getD p d4).2.2.2) ((P.getD pl d4).2.2.2 + 1) n 0) mo
theorem whS_in {EE : Nat → E5} {P : List Q4} {n mo pl : Nat} (h : rg_first (fun p => (P.getD p d4).2.2.2) (P.getD pl d4).2.2.2 n 0 < rg_first (fun p => (P.getD p d4).2.2.2) ((P.getD pl d4).2.2.2 + 1) n 0) : whS EE P n mo pl = rs_sh (qK EE P) (qF P) (qT P) (qR EE P) (rg_first (fun p => (P.getD p d4).2.2.2) (P.getD pl d4).2.2.2 n 0) (rg_first (fun p => (P.getD p d4).2.2.2) ((P.getD pl d4).2.2.2 + 1) n 0) mo 8000 (rg_first (fun p => (P.getD p d4).2.2.2) (P.getD pl d4).2.2.2 n 0) 0 := by
  unfold whS gl_S
  rw [if_pos h]

set_option maxHeartbeats 1000000 in
set_option maxRecDepth 100000 in
theorem lw_b2 {p : Program} {l : Launch} {e : Env} {R : Room} {s : State} {m : MethodId} {args : Array Value} {below : List Frame} {meth : Method} {c : Code} {cells slots : Nat} {Q : State → Prop} {D : va_G} {A : Nat → Prop} {h0 : Nat} {q : Nat → Nat} {cB cI cZ : ClassId} {I : Nat → Int32} {F : Nat → Nat → Int32} {pn : Nat} {pe sl : Nat → Nat} {K : Nat → Int32} {Fm To Rr : Nat → Nat} {SL : List I3} {fi en mo pl gg : Nat} (hpv : rp_ok F pn pe sl K Fm To Rr) (hI2 : I 2 = nI mo) (hmo1 : 10 ≤ mo) (hmo : mo ≤ 40) (hen : en ≤ pn) (hfi : fi ≤ 8000) (hple : pl < en) (hgg : gg ≤ 8000) (hSS : rs_S Fm To pn ≤ 8000) (hRf : 4 ≤ R.frames) (hRl : 130 ≤ R.locals) (hRc : cells ≤ R.cells) (hRs : slots ≤ R.slots) (hA : ∀ q : Nat, s.heap.size ≤ q → A q) (hf : CallFix p m c cX10_where 7 s args gT yX10_where.cls) (hK : va_K D vcl (mT cB cI cZ) s) :
    ∀ (k : Nat) (pp : Nat) (rr : Nat) (v27 : Int32) (sv : Nat) (lb : Nat) (H : Heap) (locs : List Loc) (ls : Array Slot), rs_S Fm To en ≤ rs_S Fm To pp + rr + k → pp ≤ en → (pp < en → rr < To pp - Fm pp) → SL.drop (sv + 1) = rs_sh K Fm To Rr fi en mo (8000 - (sv + 1)) pp rr → lsA SL sv lb → lb = rs_lp (pp, rr, 0) → sv < SL.length → (∀ u, u < sv → ∃ b, lsA SL u b ∧ b < pl) → sv + 1 ≤ rs_S Fm To pp + rr → (rr = 0 → 1 ≤ pp) →  va_P D vcl (mW h0 q cB cI cZ (upd (upd (upd I 25 (nI pp)) 26 (nI rr)) 27 v27) F) H → va_D A (mW h0 q cB cI cZ (upd (upd (upd I 25 (nI pp)) 26 (nI rr)) 27 v27) F) → va_S A s.heap H locs → lv_has ls 7 [(6, .int (nI sv)), (5, .int (nI en)), (4, .int (nI fi)), (3, .int (nI gg)), (2, .int (nI pl)), (0, .ref h0)] →
    (∀ (sv : Nat) (v1 : Int32) (v2 : Int32) (v3 : Int32) (H : Heap) (locs : List Loc) (ls : Array Slot), whT SL pl sv → va_P D vcl (mW h0 q cB cI cZ (upd (upd (upd I 25 v1) 26 v2) 27 v3) F) H → va_D A (mW h0 q cB cI cZ (upd (upd (upd I 25 v1) 26 v2) 27 v3) F) → va_S A s.heap H locs → lv_has ls 7 [(6, .int (nI sv)), (3, .int (nI gg)), (0, .ref h0)] → W p l e R s m args below meth c H locs cells slots Q (F0 m 137 ls [])) →
    W p l e R s m args below meth c H locs cells slots Q (F0 m 92 ls []) := by
  obtain ⟨hx, hb, hml, hown, hts⟩ := id hf
  have hpn8 := hpv.1
  have hzz : ∀ p, p < en → 0 < To p - Fm p := fun p hp => by have := hpv.2 p (by omega); omega
  have hSe : rs_S Fm To en ≤ 8000 := by
    have h9 := rs_S_mono Fm To (pn - en) en
    rw [show en + (pn - en) = pn by omega] at h9
    omega
  intro k
  induction k with
  | zero =>
    intro pp rr v27 sv lb H locs ls hik hpp hrr hdr hls hlb hsl hbf hsv hp1 hP hD hS hl kk
    refine lv_aload_n hx hb dX10_where_92 rfl (lv_at hl 5 rfl) ?_
    refine va_get (D := D) (ci := 11) (v := .int (nI pp)) (C := RX10) (T := TX10) (N := 48) hx hb hts inX10 hown hK hP 0 rfl rfl 25 (by decide) (hts _ k_1169) (fun _ h9 => h9) rfl dX10_where_93 ?_
    refine lv_iload_n hx hb dX10_where_96 rfl (lv_at hl 4 rfl) ?_
    refine lv_icmp_gt (tgt := 137) hx hb dX10_where_97 (by decide) (fun c_1 => ?_) (fun c_1 => ?_)
    · have c_1 := q_lt (a := pl) (b := pp) (by omega) (by omega) c_1
      exact kk sv _ _ _ H locs ls ⟨hsl, ⟨lb, hls, by rw [hlb]; exact lp_hi (x := (pp, rr, 0)) (by show pl < pp ∨ (pl ≤ pp ∧ 0 < rr); omega)⟩, hbf⟩ hP hD hS (lv_sub hl (l' := [(6, .int (nI sv)), (3, .int (nI gg)), (0, .ref h0)]) [0, 3, 5] rfl)
    · have c_1 := q_nlt (a := pl) (b := pp) (by omega) (by omega) c_1
      refine lv_aload_n hx hb dX10_where_100 rfl (lv_at hl 5 rfl) ?_
      refine va_get (D := D) (ci := 11) (v := .int (nI pp)) (C := RX10) (T := TX10) (N := 48) hx hb hts inX10 hown hK hP 0 rfl rfl 25 (by decide) (hts _ k_1169) (fun _ h9 => h9) rfl dX10_where_101 ?_
      refine lv_iload_n hx hb dX10_where_104 rfl (lv_at hl 4 rfl) ?_
      refine lv_icmp_lt (tgt := 115) hx hb dX10_where_105 (by decide) (fun c_2 => ?_) (fun c_2 => ?_)
      · have c_2 := q_lt (a := pp) (b := pl) (by omega) (by omega) c_2
        have hpe : pp < en := by omega
        have hrp := hrr hpe
        refine lv_aload_n hx hb dX10_where_115 rfl (lv_at hl 5 rfl) ?_
        refine lv_aload_n hx hb dX10_where_116 rfl (lv_at hl 5 rfl) ?_
        refine va_get (D := D) (ci := 11) (v := .int (nI pp)) (C := RX10) (T := TX10) (N := 48) hx hb hts inX10 hown hK hP 0 rfl rfl 25 (by decide) (hts _ k_1169) (fun _ h9 => h9) rfl dX10_where_117 ?_
        refine lv_aload_n hx hb dX10_where_120 rfl (lv_at hl 5 rfl) ?_
        refine va_get (D := D) (ci := 11) (v := .int (nI rr)) (C := RX10) (T := TX10) (N := 48) hx hb hts inX10 hown hK hP 0 rfl rfl 26 (by decide) (hts _ k_1170) (fun _ h9 => h9) rfl dX10_where_121 ?_
        refine lv_iload hx hb dX10_where_124 (lv_at hl 2 rfl) ?_
        refine lv_iload hx hb dX10_where_126 (lv_at hl 1 rfl) ?_
        refine q_cv (k := cells) (n := slots) hK hP hD hS hA (fun hPc hKc hDc => q_rV (As := [.int (nI pp), .int (nI rr), .int (nI fi), .int (nI en)]) (rest := []) hf (r_laySheet _ D h0 q cB cI cZ (upd (upd (upd I 25 (nI pp)) 26 (nI rr)) 27 v27) F pn pe sl K Fm To Rr pp rr fi en mo hpv hI2 hmo1 hmo (by omega) (by omega) hrp (by omega) _) k_1455 k_1452 k_1454 k_73 k_98 (nA := 4) (by decide +kernel) ⟨Nat.le_trans (by decide) hRf, Nat.le_trans (by decide) hRl⟩ hK hP (ci := 11) (q0 := 0) rfl rfl rfl hPc hKc hDc (fun _ _ _ _ h => h) (fun _ _ _ => trivial) rfl hl.1 rfl (Nat.le_of_ble_eq_true rfl) dX10_where_128 ⟨hRc, hRs⟩) (Nat.le_refl _) (Nat.le_refl _) (fun u H locs hw hK hP hD hS => ?_)
        obtain ⟨b2, v1, v2, v3, a1, a2, rfl⟩ := hw
        obtain ⟨x, ex, hxf⟩ := rs_some (K := K) (Rr := Rr) (f := 40) hzz hmo1 hmo (show pp < en by omega) hrp (pb_le (rp_ra (K pp) (Fm pp) pp rr fi))
        rw [a1.trans ex] at a2
        obtain ⟨rfl, rfl, rfl⟩ := a2
        have hP : va_P D vcl (mW h0 q cB cI cZ (upd (upd (upd I 25 (nI (x.1))) 26 (nI (x.2.1))) 27 (nI (x.2.2))) F) H := hP
        have hD : va_D A (mW h0 q cB cI cZ (upd (upd (upd I 25 (nI (x.1))) 26 (nI (x.2.1))) 27 (nI (x.2.2))) F) := hD
        refine lv_iinc (v := (nI (sv + 1))) (lv' := [(6, .int (nI (sv + 1))), (5, .int (nI en)), (4, .int (nI fi)), (3, .int (nI gg)), (2, .int (nI pl)), (0, .ref h0)]) hx hb dX10_where_131 hl (k := 0) rfl (nI_add sv 1) (by decide) rfl (fun ls hl => ?_)
        refine lv_goto (tgt := 92) hx hb dX10_where_134 (by decide) ?_
        have z4 := rs_S_far hxf hrp
        exact False.elim (by have z5 := rs_S_end (Fm := Fm) (To := To) hxf.2.1 hxf.2.2.1 hxf.2.2.2.1; omega)
      · have c_2 := q_nlt (a := pp) (b := pl) (by omega) (by omega) c_2
        have hpe : pp < en := by omega
        have hrp := hrr hpe
        have hpq := hpv.2 pp (by omega)
        refine lv_aload_n hx hb dX10_where_108 rfl (lv_at hl 5 rfl) ?_
        refine va_get (D := D) (ci := 11) (v := .int (nI rr)) (C := RX10) (T := TX10) (N := 48) hx hb hts inX10 hown hK hP 0 rfl rfl 26 (by decide) (hts _ k_1170) (fun _ h9 => h9) rfl dX10_where_109 ?_
        refine lv_if_ne (tgt := 137) hx hb dX10_where_112 (by decide) (fun c_3 => ?_) (fun c_3 => ?_)
        · have c_3 := q_nen (a := rr) (b := 0) (by omega) (by omega) c_3
          exact kk sv _ _ _ H locs ls ⟨hsl, ⟨lb, hls, by rw [hlb]; exact lp_hi (x := (pp, rr, 0)) (by show pl < pp ∨ (pl ≤ pp ∧ 0 < rr); omega)⟩, hbf⟩ hP hD hS (lv_sub hl (l' := [(6, .int (nI sv)), (3, .int (nI gg)), (0, .ref h0)]) [0, 3, 5] rfl)
        · have c_3 := q_eqn (a := rr) (b := 0) (by omega) (by omega) c_3
          have hpe : pp < en := by omega
          have hrp := hrr hpe
          refine lv_aload_n hx hb dX10_where_115 rfl (lv_at hl 5 rfl) ?_
          refine lv_aload_n hx hb dX10_where_116 rfl (lv_at hl 5 rfl) ?_
          refine va_get (D := D) (ci := 11) (v := .int (nI pp)) (C := RX10) (T := TX10) (N := 48) hx hb hts inX10 hown hK hP 0 rfl rfl 25 (by decide) (hts _ k_1169) (fun _ h9 => h9) rfl dX10_where_117 ?_
          refine lv_aload_n hx hb dX10_where_120 rfl (lv_at hl 5 rfl) ?_
          refine va_get (D := D) (ci := 11) (v := .int (nI rr)) (C := RX10) (T := TX10) (N := 48) hx hb hts inX10 hown hK hP 0 rfl rfl 26 (by decide) (hts _ k_1170) (fun _ h9 => h9) rfl dX10_where_121 ?_
          refine lv_iload hx hb dX10_where_124 (lv_at hl 2 rfl) ?_
          refine lv_iload hx hb dX10_where_126 (lv_at hl 1 rfl) ?_
          refine q_cv (k := cells) (n := slots) hK hP hD hS hA (fun hPc hKc hDc => q_rV (As := [.int (nI pp), .int (nI rr), .int (nI fi), .int (nI en)]) (rest := []) hf (r_laySheet _ D h0 q cB cI cZ (upd (upd (upd I 25 (nI pp)) 26 (nI rr)) 27 v27) F pn pe sl K Fm To Rr pp rr fi en mo hpv hI2 hmo1 hmo (by omega) (by omega) hrp (by omega) _) k_1455 k_1452 k_1454 k_73 k_98 (nA := 4) (by decide +kernel) ⟨Nat.le_trans (by decide) hRf, Nat.le_trans (by decide) hRl⟩ hK hP (ci := 11) (q0 := 0) rfl rfl rfl hPc hKc hDc (fun _ _ _ _ h => h) (fun _ _ _ => trivial) rfl hl.1 rfl (Nat.le_of_ble_eq_true rfl) dX10_where_128 ⟨hRc, hRs⟩) (Nat.le_refl _) (Nat.le_refl _) (fun u H locs hw hK hP hD hS => ?_)
          obtain ⟨b2, v1, v2, v3, a1, a2, rfl⟩ := hw
          obtain ⟨x, ex, hxf⟩ := rs_some (K := K) (Rr := Rr) (f := 40) hzz hmo1 hmo (show pp < en by omega) hrp (pb_le (rp_ra (K pp) (Fm pp) pp rr fi))
          rw [a1.trans ex] at a2
          obtain ⟨rfl, rfl, rfl⟩ := a2
          have hP : va_P D vcl (mW h0 q cB cI cZ (upd (upd (upd I 25 (nI (x.1))) 26 (nI (x.2.1))) 27 (nI (x.2.2))) F) H := hP
          have hD : va_D A (mW h0 q cB cI cZ (upd (upd (upd I 25 (nI (x.1))) 26 (nI (x.2.1))) 27 (nI (x.2.2))) F) := hD
          refine lv_iinc (v := (nI (sv + 1))) (lv' := [(6, .int (nI (sv + 1))), (5, .int (nI en)), (4, .int (nI fi)), (3, .int (nI gg)), (2, .int (nI pl)), (0, .ref h0)]) hx hb dX10_where_131 hl (k := 0) rfl (nI_add sv 1) (by decide) rfl (fun ls hl => ?_)
          refine lv_goto (tgt := 92) hx hb dX10_where_134 (by decide) ?_
          have z4 := rs_S_far hxf hrp
          exact False.elim (by have z5 := rs_S_end (Fm := Fm) (To := To) hxf.2.1 hxf.2.2.1 hxf.2.2.2.1; omega)
  | succ k ih =>
    intro pp rr v27 sv lb H locs ls hik hpp hrr hdr hls hlb hsl hbf hsv hp1 hP hD hS hl kk
    refine lv_aload_n hx hb dX10_where_92 rfl (lv_at hl 5 rfl) ?_
    refine va_get (D := D) (ci := 11) (v := .int (nI pp)) (C := RX10) (T := TX10) (N := 48) hx hb hts inX10 hown hK hP 0 rfl rfl 25 (by decide) (hts _ k_1169) (fun _ h9 => h9) rfl dX10_where_93 ?_
    refine lv_iload_n hx hb dX10_where_96 rfl (lv_at hl 4 rfl) ?_
    refine lv_icmp_gt (tgt := 137) hx hb dX10_where_97 (by decide) (fun c_1 => ?_) (fun c_1 => ?_)
    · have c_1 := q_lt (a := pl) (b := pp) (by omega) (by omega) c_1
      exact kk sv _ _ _ H locs ls ⟨hsl, ⟨lb, hls, by rw [hlb]; exact lp_hi (x := (pp, rr, 0)) (by show pl < pp ∨ (pl ≤ pp ∧ 0 < rr); omega)⟩, hbf⟩ hP hD hS (lv_sub hl (l' := [(6, .int (nI sv)), (3, .int (nI gg)), (0, .ref h0)]) [0, 3, 5] rfl)
    · have c_1 := q_nlt (a := pl) (b := pp) (by omega) (by omega) c_1
      refine lv_aload_n hx hb dX10_where_100 rfl (lv_at hl 5 rfl) ?_
      refine va_get (D := D) (ci := 11) (v := .int (nI pp)) (C := RX10) (T := TX10) (N := 48) hx hb hts inX10 hown hK hP 0 rfl rfl 25 (by decide) (hts _ k_1169) (fun _ h9 => h9) rfl dX10_where_101 ?_
      refine lv_iload_n hx hb dX10_where_104 rfl (lv_at hl 4 rfl) ?_
      refine lv_icmp_lt (tgt := 115) hx hb dX10_where_105 (by decide) (fun c_2 => ?_) (fun c_2 => ?_)
      · have c_2 := q_lt (a := pp) (b := pl) (by omega) (by omega) c_2
        have hpe : pp < en := by omega
        have hrp := hrr hpe
        refine lv_aload_n hx hb dX10_where_115 rfl (lv_at hl 5 rfl) ?_
        refine lv_aload_n hx hb dX10_where_116 rfl (lv_at hl 5 rfl) ?_
        refine va_get (D := D) (ci := 11) (v := .int (nI pp)) (C := RX10) (T := TX10) (N := 48) hx hb hts inX10 hown hK hP 0 rfl rfl 25 (by decide) (hts _ k_1169) (fun _ h9 => h9) rfl dX10_where_117 ?_
        refine lv_aload_n hx hb dX10_where_120 rfl (lv_at hl 5 rfl) ?_
        refine va_get (D := D) (ci := 11) (v := .int (nI rr)) (C := RX10) (T := TX10) (N := 48) hx hb hts inX10 hown hK hP 0 rfl rfl 26 (by decide) (hts _ k_1170) (fun _ h9 => h9) rfl dX10_where_121 ?_
        refine lv_iload hx hb dX10_where_124 (lv_at hl 2 rfl) ?_
        refine lv_iload hx hb dX10_where_126 (lv_at hl 1 rfl) ?_
        refine q_cv (k := cells) (n := slots) hK hP hD hS hA (fun hPc hKc hDc => q_rV (As := [.int (nI pp), .int (nI rr), .int (nI fi), .int (nI en)]) (rest := []) hf (r_laySheet _ D h0 q cB cI cZ (upd (upd (upd I 25 (nI pp)) 26 (nI rr)) 27 v27) F pn pe sl K Fm To Rr pp rr fi en mo hpv hI2 hmo1 hmo (by omega) (by omega) hrp (by omega) _) k_1455 k_1452 k_1454 k_73 k_98 (nA := 4) (by decide +kernel) ⟨Nat.le_trans (by decide) hRf, Nat.le_trans (by decide) hRl⟩ hK hP (ci := 11) (q0 := 0) rfl rfl rfl hPc hKc hDc (fun _ _ _ _ h => h) (fun _ _ _ => trivial) rfl hl.1 rfl (Nat.le_of_ble_eq_true rfl) dX10_where_128 ⟨hRc, hRs⟩) (Nat.le_refl _) (Nat.le_refl _) (fun u H locs hw hK hP hD hS => ?_)
        obtain ⟨b2, v1, v2, v3, a1, a2, rfl⟩ := hw
        obtain ⟨x, ex, hxf⟩ := rs_some (K := K) (Rr := Rr) (f := 40) hzz hmo1 hmo (show pp < en by omega) hrp (pb_le (rp_ra (K pp) (Fm pp) pp rr fi))
        rw [a1.trans ex] at a2
        obtain ⟨rfl, rfl, rfl⟩ := a2
        have hP : va_P D vcl (mW h0 q cB cI cZ (upd (upd (upd I 25 (nI (x.1))) 26 (nI (x.2.1))) 27 (nI (x.2.2))) F) H := hP
        have hD : va_D A (mW h0 q cB cI cZ (upd (upd (upd I 25 (nI (x.1))) 26 (nI (x.2.1))) 27 (nI (x.2.2))) F) := hD
        refine lv_iinc (v := (nI (sv + 1))) (lv' := [(6, .int (nI (sv + 1))), (5, .int (nI en)), (4, .int (nI fi)), (3, .int (nI gg)), (2, .int (nI pl)), (0, .ref h0)]) hx hb dX10_where_131 hl (k := 0) rfl (nI_add sv 1) (by decide) rfl (fun ls hl => ?_)
        refine lv_goto (tgt := 92) hx hb dX10_where_134 (by decide) ?_
        have z4 := rs_S_far hxf hrp
        have hrn := rs_S_le (Fm := Fm) (To := To) hpe
        have hdr9 := hdr
        rw [show 8000 - (sv + 1) = (8000 - (sv + 1 + 1)) + 1 by omega] at hdr9
        have hst := rs_sh_st hdr9 hpe ex
        have hl2 := lp_le x
        have hx1 := hxf.1
        have hx2 := hxf.2.1
        exact ih x.1 x.2.1 _ (sv + 1) (rs_lp x) H locs ls (by omega) hxf.2.1 hxf.2.2.1 hst.2.2 ⟨by omega, by rw [hst.2.1]⟩ rfl hst.1 (fun u hu => by by_cases e9 : u = sv; (· rw [e9]; exact ⟨lb, hls, by rw [hlb]; exact lp_lo (x := (pp, rr, 0)) (by show pp < pl ∨ (pp ≤ pl ∧ rr = 0 ∧ 1 ≤ pp); omega)⟩); exact hbf u (by omega)) (by omega) (by omega) hP hD hS (lv_sub hl (l' := [(6, .int (nI (sv + 1))), (5, .int (nI en)), (4, .int (nI fi)), (3, .int (nI gg)), (2, .int (nI pl)), (0, .ref h0)]) [0, 1, 2, 3, 4, 5] rfl) kk
      · have c_2 := q_nlt (a := pp) (b := pl) (by omega) (by omega) c_2
        have hpe : pp < en := by omega
        have hrp := hrr hpe
        have hpq := hpv.2 pp (by omega)
        refine lv_aload_n hx hb dX10_where_108 rfl (lv_at hl 5 rfl) ?_
        refine va_get (D := D) (ci := 11) (v := .int (nI rr)) (C := RX10) (T := TX10) (N := 48) hx hb hts inX10 hown hK hP 0 rfl rfl 26 (by decide) (hts _ k_1170) (fun _ h9 => h9) rfl dX10_where_109 ?_
        refine lv_if_ne (tgt := 137) hx hb dX10_where_112 (by decide) (fun c_3 => ?_) (fun c_3 => ?_)
        · have c_3 := q_nen (a := rr) (b := 0) (by omega) (by omega) c_3
          exact kk sv _ _ _ H locs ls ⟨hsl, ⟨lb, hls, by rw [hlb]; exact lp_hi (x := (pp, rr, 0)) (by show pl < pp ∨ (pl ≤ pp ∧ 0 < rr); omega)⟩, hbf⟩ hP hD hS (lv_sub hl (l' := [(6, .int (nI sv)), (3, .int (nI gg)), (0, .ref h0)]) [0, 3, 5] rfl)
        · have c_3 := q_eqn (a := rr) (b := 0) (by omega) (by omega) c_3
          have hpe : pp < en := by omega
          have hrp := hrr hpe
          refine lv_aload_n hx hb dX10_where_115 rfl (lv_at hl 5 rfl) ?_
          refine lv_aload_n hx hb dX10_where_116 rfl (lv_at hl 5 rfl) ?_
          refine va_get (D := D) (ci := 11) (v := .int (nI pp)) (C := RX10) (T := TX10) (N := 48) hx hb hts inX10 hown hK hP 0 rfl rfl 25 (by decide) (hts _ k_1169) (fun _ h9 => h9) rfl dX10_where_117 ?_
          refine lv_aload_n hx hb dX10_where_120 rfl (lv_at hl 5 rfl) ?_
          refine va_get (D := D) (ci := 11) (v := .int (nI rr)) (C := RX10) (T := TX10) (N := 48) hx hb hts inX10 hown hK hP 0 rfl rfl 26 (by decide) (hts _ k_1170) (fun _ h9 => h9) rfl dX10_where_121 ?_
          refine lv_iload hx hb dX10_where_124 (lv_at hl 2 rfl) ?_
          refine lv_iload hx hb dX10_where_126 (lv_at hl 1 rfl) ?_
          refine q_cv (k := cells) (n := slots) hK hP hD hS hA (fun hPc hKc hDc => q_rV (As := [.int (nI pp), .int (nI rr), .int (nI fi), .int (nI en)]) (rest := []) hf (r_laySheet _ D h0 q cB cI cZ (upd (upd (upd I 25 (nI pp)) 26 (nI rr)) 27 v27) F pn pe sl K Fm To Rr pp rr fi en mo hpv hI2 hmo1 hmo (by omega) (by omega) hrp (by omega) _) k_1455 k_1452 k_1454 k_73 k_98 (nA := 4) (by decide +kernel) ⟨Nat.le_trans (by decide) hRf, Nat.le_trans (by decide) hRl⟩ hK hP (ci := 11) (q0 := 0) rfl rfl rfl hPc hKc hDc (fun _ _ _ _ h => h) (fun _ _ _ => trivial) rfl hl.1 rfl (Nat.le_of_ble_eq_true rfl) dX10_where_128 ⟨hRc, hRs⟩) (Nat.le_refl _) (Nat.le_refl _) (fun u H locs hw hK hP hD hS => ?_)
          obtain ⟨b2, v1, v2, v3, a1, a2, rfl⟩ := hw
          obtain ⟨x, ex, hxf⟩ := rs_some (K := K) (Rr := Rr) (f := 40) hzz hmo1 hmo (show pp < en by omega) hrp (pb_le (rp_ra (K pp) (Fm pp) pp rr fi))
          rw [a1.trans ex] at a2
          obtain ⟨rfl, rfl, rfl⟩ := a2
          have hP : va_P D vcl (mW h0 q cB cI cZ (upd (upd (upd I 25 (nI (x.1))) 26 (nI (x.2.1))) 27 (nI (x.2.2))) F) H := hP
          have hD : va_D A (mW h0 q cB cI cZ (upd (upd (upd I 25 (nI (x.1))) 26 (nI (x.2.1))) 27 (nI (x.2.2))) F) := hD
          refine lv_iinc (v := (nI (sv + 1))) (lv' := [(6, .int (nI (sv + 1))), (5, .int (nI en)), (4, .int (nI fi)), (3, .int (nI gg)), (2, .int (nI pl)), (0, .ref h0)]) hx hb dX10_where_131 hl (k := 0) rfl (nI_add sv 1) (by decide) rfl (fun ls hl => ?_)
          refine lv_goto (tgt := 92) hx hb dX10_where_134 (by decide) ?_
          have z4 := rs_S_far hxf hrp
          have hrn := rs_S_le (Fm := Fm) (To := To) hpe
          have hdr9 := hdr
          rw [show 8000 - (sv + 1) = (8000 - (sv + 1 + 1)) + 1 by omega] at hdr9
          have hst := rs_sh_st hdr9 hpe ex
          have hl2 := lp_le x
          have hx1 := hxf.1
          have hx2 := hxf.2.1
          exact ih x.1 x.2.1 _ (sv + 1) (rs_lp x) H locs ls (by omega) hxf.2.1 hxf.2.2.1 hst.2.2 ⟨by omega, by rw [hst.2.1]⟩ rfl hst.1 (fun u hu => by by_cases e9 : u = sv; (· rw [e9]; exact ⟨lb, hls, by rw [hlb]; exact lp_lo (x := (pp, rr, 0)) (by show pp < pl ∨ (pp ≤ pl ∧ rr = 0 ∧ 1 ≤ pp); omega)⟩); exact hbf u (by omega)) (by omega) (by omega) hP hD hS (lv_sub hl (l' := [(6, .int (nI (sv + 1))), (5, .int (nI en)), (4, .int (nI fi)), (3, .int (nI gg)), (2, .int (nI pl)), (0, .ref h0)]) [0, 1, 2, 3, 4, 5] rfl) kk
set_option maxHeartbeats 1000000 in
set_option maxRecDepth 100000 in
theorem r_where2 (l : Launch) (D : va_G) (h0 : Nat) (q : Nat → Nat) (cB cI_ cZ : ClassId) (I : Nat → Int32) (F : Nat → Nat → Int32) (Es : List E5) (sl : Nat → Nat) (P : List Q4) (mo lk : Nat) (x1 : Int32) (hI3 : I 3 = nI Es.length) (hre : reR F Es sl) (hI2 : I 2 = nI mo) (hI14 : I 14 = nI P.length) (hI20 : I 20 = nI lk) (hlk : lk ≤ 1) (hmo1 : 10 ≤ mo) (hmo : mo ≤ 40) (hpcF : pc_is P (F 15) (F 16) (F 17) (F 18)) (hQ : pq_ok Es.length (fun e => Es.getD e dE) P) (hpn : P.length ≤ 7000) (hSS : rs_S (qF P) (qT P) P.length ≤ 8000) (hGb : ∀ p, p < P.length → (P.getD p d4).2.2.2 ≤ 8000) (hso : ∀ s t, s ≤ t → t < P.length → (P.getD s d4).2.2.2 ≤ (P.getD t d4).2.2.2) (hfirst : ∀ j, j < Es.length → 0 < lk → (Es.getD j dE).2.2.1 = 0 → ∃ pl, pl < P.length ∧ (P.getD pl d4).1 = j ∧ ∀ i, i < pl → ¬ (P.getD i d4).1 = j) : cI l D yX10_where cX10_where 7 (some .int) 4 130 0 0 [.ref h0, .int x1] zT (mW h0 q cB cI_ cZ I F) (mT cB cI_ cZ) (fun r u => whC lk Es.length Es P (whS (fun e => Es.getD e dE) P P.length mo) x1 r ∧ (∃ (I2 : Nat → Int32) (F2 : Nat → Nat → Int32), sm I I2 F F2 ∧ u = (mW h0 q cB cI_ cZ I2 F2, mT cB cI_ cZ))) := by
  refine q_si (by decide) (Nat.le_of_ble_eq_true rfl) ?_
  intro p e s m below meth c A ls hAe hf hr hlocks hin hK hP hD hS hA hZ hl
  obtain ⟨hx, hb, hml, hown, hts⟩ := id hf
  have hl : lv_has ls 7 [(0, .ref h0), (1, .int x1)] := hl
  have hre1 := hre.1
  refine lv_aload_n hx hb dX10_where_0 rfl (lv_at hl 0 rfl) ?_
  refine lv_iload_n hx hb dX10_where_1 rfl (lv_at hl 1 rfl) ?_
  refine q_ci (k := 0) (n := 0) hK hP hD hS hA (fun hPc hKc hDc => q_rV (As := [.int x1]) (rest := []) hf (r_isElement _ D h0 q cB cI_ cZ I F Es.length x1 hI3 hre.1 _) k_1371 k_1368 k_1370 k_59 k_98 (nA := 1) (by decide +kernel) ⟨Nat.le_of_ble_eq_true rfl, Nat.le_of_ble_eq_true rfl⟩ hK hP (ci := 11) (q0 := 0) rfl rfl rfl hPc hKc hDc (fun _ _ _ _ h => h) (fun _ _ _ => trivial) rfl hl.1 rfl (Nat.le_of_ble_eq_true rfl) dX10_where_2 ⟨Nat.le_of_ble_eq_true rfl, Nat.le_of_ble_eq_true rfl⟩) (by decide) (by decide) (fun r u H locs hw hK hP hD hS => ?_)
  rcases hw with ⟨⟨c_1, rfl⟩ | ⟨c_1, rfl⟩, rfl⟩
  · have hP : va_P D vcl (mW h0 q cB cI_ cZ I F) H := hP
    have hD : va_D A (mW h0 q cB cI_ cZ I F) := hD
    refine lv_if_ne (tgt := 11) hx hb dX10_where_5 (by decide) (fun _ => ?_) (fun hno => absurd hno (by decide))
    obtain ⟨j, hj, rfl⟩ := c_1
    have hslj := (hre.2.1 j hj).2.1
    have hrwj := elF_rw (hre.2.1 j hj).2.2
    have hl : lv_has ls 7 [(0, .ref h0), (1, .int (nI j))] := hl
    refine lv_aload_n hx hb dX10_where_11 rfl (lv_at hl 0 rfl) ?_
    refine va_get (D := D) (ci := 11) (v := .int (I 20)) (C := RX10) (T := TX10) (N := 48) hx hb hts inX10 hown hK hP 0 rfl rfl 20 (by decide) (hts _ k_1164) (fun _ h9 => h9) rfl dX10_where_12 ?_
    refine q_seti (y := (nI lk)) hI20 ?_
    refine lv_if_ne (tgt := 21) hx hb dX10_where_15 (by decide) (fun c_2 => ?_) (fun c_2 => ?_)
    · have c_2 := q_nen (a := lk) (b := 0) (by omega) (by omega) c_2
      refine lv_aload_n hx hb dX10_where_21 rfl (lv_at hl 0 rfl) ?_
      refine va_get (D := D) (ci := 11) (v := .ref (q 7)) (C := RX10) (T := TX10) (N := 48) hx hb hts inX10 hown hK hP 0 rfl rfl 7 (by decide) (hts _ k_1151) (fun _ h9 => h9) rfl dX10_where_22 ?_
      refine lv_aload_n hx hb dX10_where_25 rfl (lv_at hl 0 rfl) ?_
      refine va_get (D := D) (ci := 11) (v := .ref (q 4)) (C := RX10) (T := TX10) (N := 48) hx hb hts inX10 hown hK hP 0 rfl rfl 4 (by decide) (hts _ k_1148) (fun _ h9 => h9) rfl dX10_where_26 ?_
      refine lv_iload_n hx hb dX10_where_29 rfl (lv_at hl 1 rfl) ?_
      refine q_ild (X := j) (f := (F 4)) hx hb hK hP 2 1 rfl rfl (by omega) (by decide) dX10_where_30 ?_
      refine q_seti (y := (nI ((sl j)))) (hre.2.1 j (by omega)).1 ?_
      refine q_zld (X := (sl j)) (f := (F 7)) hx hb hK hP 5 2 rfl rfl (by omega) (by decide) dX10_where_31 ?_
      refine q_seti (y := (Es.getD j dE).2.2.1) (hre.2.1 j (by omega)).2.2.2.2.1 ?_
      refine lv_if_eq (tgt := 37) hx hb dX10_where_32 (by decide) (fun c_3 => ?_) (fun c_3 => ?_)
      · refine lv_iconst (v := 0) hx hb dX10_where_37 (by decide) ?_
        refine lv_istore_n (lv' := [(2, .int 0), (0, .ref h0), (1, .int (nI j))]) hx hb dX10_where_38 rfl hl (by decide) rfl (fun ls hl => ?_)
        obtain ⟨pl, hpl, hplj, hfst⟩ := hfirst j hj (by omega) c_3
        refine lw_a (I := I) (F := F) (pn := P.length) (j := j) (pl := pl) (P := P) rfl (by omega) hpcF (fun i hi => Nat.lt_of_lt_of_le (hQ i hi).1 hre.1) (by omega) hpl hplj hfst (Nat.le_of_ble_eq_true rfl) (Nat.le_of_ble_eq_true rfl) (Nat.le_of_ble_eq_true rfl) (Nat.le_of_ble_eq_true rfl) hA hf hK pl 0 _ _ ls (by omega) hP hD hS (lv_sub hl (l' := [(2, .int 0), (1, .int (nI j)), (0, .ref h0)]) [0, 2, 1] rfl) (fun H locs ls hP hD hS hl => ?_)
        refine lv_aload_n hx hb dX10_where_55 rfl (lv_at hl 2 rfl) ?_
        refine va_get (D := D) (ci := 11) (v := .ref (q 18)) (C := RX10) (T := TX10) (N := 48) hx hb hts inX10 hown hK hP 0 rfl rfl 18 (by decide) (hts _ k_1162) (fun _ h9 => h9) rfl dX10_where_56 ?_
        refine lv_iload_n hx hb dX10_where_59 rfl (lv_at hl 0 rfl) ?_
        refine q_ild (X := pl) (f := (F 18)) hx hb hK hP 15 1 rfl rfl (by omega) (by decide) dX10_where_60 ?_
        refine q_seti (y := (nI ((P.getD pl d4).2.2.2))) (hpcF pl hpl).2.2.2 ?_
        refine lv_istore_n (lv' := [(3, .int (nI ((P.getD pl d4).2.2.2))), (2, .int (nI pl)), (1, .int (nI j)), (0, .ref h0)]) hx hb dX10_where_61 rfl hl (by decide) rfl (fun ls hl => ?_)
        have hpv := rp_of hre hpcF hQ (by omega)
        have hgl := hGb pl hpl
        have hfa := rg_first_le (fun p => (P.getD p d4).2.2.2) (P.getD pl d4).2.2.2 P.length 0
        have hfb := rg_first_le (fun p => (P.getD p d4).2.2.2) ((P.getD pl d4).2.2.2 + 1) P.length 0
        have hpa : (rg_first (fun p => (P.getD p d4).2.2.2) (P.getD pl d4).2.2.2 P.length 0) ≤ pl := rg_le (n := 0) P.length 0 pl (Nat.zero_le _) (by omega) (Nat.le_refl _) (fun t _ ht => hso t pl (by omega) hpl)
        have hpb : pl < (rg_first (fun p => (P.getD p d4).2.2.2) ((P.getD pl d4).2.2.2 + 1) P.length 0) := rg_gt P.length 0 pl (Nat.zero_le _) (by omega) (fun t _ ht => by have h9 := hso t pl ht hpl; show (P.getD t d4).2.2.2 < _; omega)
        have hzz : ∀ p, p < (rg_first (fun p => (P.getD p d4).2.2.2) ((P.getD pl d4).2.2.2 + 1) P.length 0) → 0 < qT P p - qF P p := fun p hp => by have h9 := hpv.2 p (by omega); omega
        have hrp := hzz _ (show (rg_first (fun p => (P.getD p d4).2.2.2) (P.getD pl d4).2.2.2 P.length 0) < (rg_first (fun p => (P.getD p d4).2.2.2) ((P.getD pl d4).2.2.2 + 1) P.length 0) by omega)
        refine lv_aload_n hx hb dX10_where_62 rfl (lv_at hl 3 rfl) ?_
        refine lv_iload_n hx hb dX10_where_63 rfl (lv_at hl 0 rfl) ?_
        refine q_ci (k := 0) (n := 0) hK hP hD hS hA (fun hPc hKc hDc => q_rV (As := [.int (nI ((P.getD pl d4).2.2.2))]) (rest := []) hf (r_firstOf _ D h0 q cB cI_ cZ I F P.length ((P.getD pl d4).2.2.2) (fun p => (P.getD p d4).2.2.2) hI14 (by omega) (by omega) (fun p hp => ⟨(hpcF p hp).2.2.2, hGb p hp⟩) _) k_1451 k_1448 k_1450 k_72 k_98 (nA := 1) (by decide +kernel) ⟨Nat.le_of_ble_eq_true rfl, Nat.le_of_ble_eq_true rfl⟩ hK hP (ci := 11) (q0 := 0) rfl rfl rfl hPc hKc hDc (fun _ _ _ _ h => h) (fun _ _ _ => trivial) rfl hl.1 rfl (Nat.le_of_ble_eq_true rfl) dX10_where_64 ⟨Nat.le_of_ble_eq_true rfl, Nat.le_of_ble_eq_true rfl⟩) (by decide) (by decide) (fun r u H locs hw hK hP hD hS => ?_)
        obtain ⟨rfl, rfl⟩ := hw
        have hP : va_P D vcl (mW h0 q cB cI_ cZ I F) H := hP
        have hD : va_D A (mW h0 q cB cI_ cZ I F) := hD
        refine lv_istore (lv' := [(4, .int (nI (rg_first (fun p => (P.getD p d4).2.2.2) ((P.getD pl d4).2.2.2) P.length 0))), (3, .int (nI ((P.getD pl d4).2.2.2))), (2, .int (nI pl)), (1, .int (nI j)), (0, .ref h0)]) hx hb dX10_where_67 hl (by decide) rfl (fun ls hl => ?_)
        refine lv_aload_n hx hb dX10_where_69 rfl (lv_at hl 4 rfl) ?_
        refine lv_iload_n hx hb dX10_where_70 rfl (lv_at hl 1 rfl) ?_
        refine lv_iconst (v := 1) hx hb dX10_where_71 (by decide) ?_
        refine lv_iadd hx hb dX10_where_72 ?_
        refine q_seti (y := nI (((P.getD pl d4).2.2.2) + 1)) (nI_add ((P.getD pl d4).2.2.2) 1) ?_
        refine q_ci (k := 0) (n := 0) hK hP hD hS hA (fun hPc hKc hDc => q_rV (As := [.int (nI (((P.getD pl d4).2.2.2) + 1))]) (rest := []) hf (r_firstOf _ D h0 q cB cI_ cZ I F P.length (((P.getD pl d4).2.2.2) + 1) (fun p => (P.getD p d4).2.2.2) hI14 (by omega) (by omega) (fun p hp => ⟨(hpcF p hp).2.2.2, hGb p hp⟩) _) k_1451 k_1448 k_1450 k_72 k_98 (nA := 1) (by decide +kernel) ⟨Nat.le_of_ble_eq_true rfl, Nat.le_of_ble_eq_true rfl⟩ hK hP (ci := 11) (q0 := 0) rfl rfl rfl hPc hKc hDc (fun _ _ _ _ h => h) (fun _ _ _ => trivial) rfl hl.1 rfl (Nat.le_of_ble_eq_true rfl) dX10_where_73 ⟨Nat.le_of_ble_eq_true rfl, Nat.le_of_ble_eq_true rfl⟩) (by decide) (by decide) (fun r u H locs hw hK hP hD hS => ?_)
        obtain ⟨rfl, rfl⟩ := hw
        have hP : va_P D vcl (mW h0 q cB cI_ cZ I F) H := hP
        have hD : va_D A (mW h0 q cB cI_ cZ I F) := hD
        refine lv_istore (lv' := [(5, .int (nI (rg_first (fun p => (P.getD p d4).2.2.2) (((P.getD pl d4).2.2.2) + 1) P.length 0))), (4, .int (nI (rg_first (fun p => (P.getD p d4).2.2.2) ((P.getD pl d4).2.2.2) P.length 0))), (3, .int (nI ((P.getD pl d4).2.2.2))), (2, .int (nI pl)), (1, .int (nI j)), (0, .ref h0)]) hx hb dX10_where_76 hl (by decide) rfl (fun ls hl => ?_)
        refine lv_iconst (v := 0) hx hb dX10_where_78 (by decide) ?_
        refine lv_istore (lv' := [(6, .int 0), (5, .int (nI (rg_first (fun p => (P.getD p d4).2.2.2) (((P.getD pl d4).2.2.2) + 1) P.length 0))), (4, .int (nI (rg_first (fun p => (P.getD p d4).2.2.2) ((P.getD pl d4).2.2.2) P.length 0))), (3, .int (nI ((P.getD pl d4).2.2.2))), (2, .int (nI pl)), (1, .int (nI j)), (0, .ref h0)]) hx hb dX10_where_79 hl (by decide) rfl (fun ls hl => ?_)
        refine lv_aload_n hx hb dX10_where_81 rfl (lv_at hl 6 rfl) ?_
        refine lv_iload hx hb dX10_where_82 (lv_at hl 2 rfl) ?_
        refine lv_iconst (v := 0) hx hb dX10_where_84 (by decide) ?_
        refine lv_iload hx hb dX10_where_85 (lv_at hl 2 rfl) ?_
        refine lv_iload hx hb dX10_where_87 (lv_at hl 1 rfl) ?_
        refine q_cv (k := 0) (n := 0) hK hP hD hS hA (fun hPc hKc hDc => q_rV (As := [.int (nI (rg_first (fun p => (P.getD p d4).2.2.2) ((P.getD pl d4).2.2.2) P.length 0)), .int 0, .int (nI (rg_first (fun p => (P.getD p d4).2.2.2) ((P.getD pl d4).2.2.2) P.length 0)), .int (nI (rg_first (fun p => (P.getD p d4).2.2.2) (((P.getD pl d4).2.2.2) + 1) P.length 0))]) (rest := []) hf (r_laySheet _ D h0 q cB cI_ cZ I F P.length _ _ (qK (fun e => Es.getD e dE) P) (qF P) (qT P) (qR (fun e => Es.getD e dE) P) (rg_first (fun p => (P.getD p d4).2.2.2) ((P.getD pl d4).2.2.2) P.length 0) 0 (rg_first (fun p => (P.getD p d4).2.2.2) ((P.getD pl d4).2.2.2) P.length 0) (rg_first (fun p => (P.getD p d4).2.2.2) (((P.getD pl d4).2.2.2) + 1) P.length 0) mo hpv hI2 hmo1 hmo (by omega) (by omega) hrp (by omega) _) k_1455 k_1452 k_1454 k_73 k_98 (nA := 4) (by decide +kernel) ⟨Nat.le_of_ble_eq_true rfl, Nat.le_of_ble_eq_true rfl⟩ hK hP (ci := 11) (q0 := 0) rfl rfl rfl hPc hKc hDc (fun _ _ _ _ h => h) (fun _ _ _ => trivial) rfl hl.1 rfl (Nat.le_of_ble_eq_true rfl) dX10_where_89 ⟨Nat.le_of_ble_eq_true rfl, Nat.le_of_ble_eq_true rfl⟩) (by decide) (by decide) (fun u H locs hw hK hP hD hS => ?_)
        obtain ⟨b2, v1, v2, v3, a1, a2, rfl⟩ := hw
        obtain ⟨x, ex, hxf⟩ := rs_some (K := (qK (fun e => Es.getD e dE) P)) (Rr := (qR (fun e => Es.getD e dE) P)) (f := 40) hzz hmo1 hmo (show rg_first (fun p => (P.getD p d4).2.2.2) ((P.getD pl d4).2.2.2) P.length 0 < rg_first (fun p => (P.getD p d4).2.2.2) (((P.getD pl d4).2.2.2) + 1) P.length 0 by omega) hrp (pb_le (rp_ra ((qK (fun e => Es.getD e dE) P) (rg_first (fun p => (P.getD p d4).2.2.2) ((P.getD pl d4).2.2.2) P.length 0)) (qF P (rg_first (fun p => (P.getD p d4).2.2.2) ((P.getD pl d4).2.2.2) P.length 0)) (rg_first (fun p => (P.getD p d4).2.2.2) ((P.getD pl d4).2.2.2) P.length 0) 0 (rg_first (fun p => (P.getD p d4).2.2.2) ((P.getD pl d4).2.2.2) P.length 0)))
        rw [a1.trans ex] at a2
        obtain ⟨rfl, rfl, rfl⟩ := a2
        have hP : va_P D vcl (mW h0 q cB cI_ cZ (upd (upd (upd I 25 (nI (x.1))) 26 (nI (x.2.1))) 27 (nI (x.2.2))) F) H := hP
        have hD : va_D A (mW h0 q cB cI_ cZ (upd (upd (upd I 25 (nI (x.1))) 26 (nI (x.2.1))) 27 (nI (x.2.2))) F) := hD
        have hst := rs_sh_st (SL := (rs_sh (qK (fun e => Es.getD e dE) P) (qF P) (qT P) (qR (fun e => Es.getD e dE) P) (rg_first (fun p => (P.getD p d4).2.2.2) (P.getD pl d4).2.2.2 P.length 0) (rg_first (fun p => (P.getD p d4).2.2.2) ((P.getD pl d4).2.2.2 + 1) P.length 0) mo 8000 (rg_first (fun p => (P.getD p d4).2.2.2) (P.getD pl d4).2.2.2 P.length 0) 0)) (i := 0) (f := 7999) rfl (show (rg_first (fun p => (P.getD p d4).2.2.2) (P.getD pl d4).2.2.2 P.length 0) < (rg_first (fun p => (P.getD p d4).2.2.2) ((P.getD pl d4).2.2.2 + 1) P.length 0) by omega) ex
        have hl2 := lp_le x
        have z4 := rs_S_far hxf hrp
        have hx1 := hxf.1
        have hx2 := hxf.2.1
        refine lw_b2 (I := I) (F := F) (pn := P.length) (K := (qK (fun e => Es.getD e dE) P)) (Fm := qF P) (To := qT P) (Rr := (qR (fun e => Es.getD e dE) P)) (SL := (rs_sh (qK (fun e => Es.getD e dE) P) (qF P) (qT P) (qR (fun e => Es.getD e dE) P) (rg_first (fun p => (P.getD p d4).2.2.2) (P.getD pl d4).2.2.2 P.length 0) (rg_first (fun p => (P.getD p d4).2.2.2) ((P.getD pl d4).2.2.2 + 1) P.length 0) mo 8000 (rg_first (fun p => (P.getD p d4).2.2.2) (P.getD pl d4).2.2.2 P.length 0) 0)) (fi := (rg_first (fun p => (P.getD p d4).2.2.2) (P.getD pl d4).2.2.2 P.length 0)) (en := (rg_first (fun p => (P.getD p d4).2.2.2) ((P.getD pl d4).2.2.2 + 1) P.length 0)) (mo := mo) (pl := pl) (gg := (P.getD pl d4).2.2.2) hpv hI2 hmo1 hmo (by omega) (by omega) hpb hgl hSS (Nat.le_of_ble_eq_true rfl) (Nat.le_of_ble_eq_true rfl) (Nat.le_of_ble_eq_true rfl) (Nat.le_of_ble_eq_true rfl) hA hf hK 8000 x.1 x.2.1 _ 0 (rs_lp x) _ _ ls (by have h9 := rs_S_mono (qF P) (qT P) (P.length - (rg_first (fun p => (P.getD p d4).2.2.2) ((P.getD pl d4).2.2.2 + 1) P.length 0)) (rg_first (fun p => (P.getD p d4).2.2.2) ((P.getD pl d4).2.2.2 + 1) P.length 0); rw [show (rg_first (fun p => (P.getD p d4).2.2.2) ((P.getD pl d4).2.2.2 + 1) P.length 0) + (P.length - (rg_first (fun p => (P.getD p d4).2.2.2) ((P.getD pl d4).2.2.2 + 1) P.length 0)) = P.length by omega] at h9; omega) hxf.2.1 hxf.2.2.1 hst.2.2 ⟨by omega, by rw [hst.2.1]⟩ rfl hst.1 (fun u hu => absurd hu (Nat.not_lt_zero u)) (by omega) (by omega) hP hD hS (lv_sub hl (l' := [(6, .int 0), (5, .int (nI (rg_first (fun p => (P.getD p d4).2.2.2) (((P.getD pl d4).2.2.2) + 1) P.length 0))), (4, .int (nI (rg_first (fun p => (P.getD p d4).2.2.2) ((P.getD pl d4).2.2.2) P.length 0))), (3, .int (nI ((P.getD pl d4).2.2.2))), (2, .int (nI pl)), (0, .ref h0)]) [0, 1, 2, 3, 4, 6] rfl) (fun sv v1 v2 v3 H locs ls hwT hP hD hS hl => ?_)
        have hsv8 : sv < 8000 := Nat.lt_of_lt_of_le hwT.1 (rs_sh_le _ _ _)
        have hP : va_P D vcl (mW h0 q cB cI_ cZ (upd (upd (upd I 25 v1) 26 v2) 27 v3) F) H := hP
        have hD : va_D A (mW h0 q cB cI_ cZ (upd (upd (upd I 25 v1) 26 v2) 27 v3) F) := hD
        refine lv_bipush (v := 32) hx hb dX10_where_137 (by decide) ?_
        refine lv_iload_n hx hb dX10_where_139 rfl (lv_at hl 1 rfl) ?_
        refine lv_iconst (v := 1) hx hb dX10_where_140 (by decide) ?_
        refine lv_iadd hx hb dX10_where_141 ?_
        refine q_seti (y := nI (((P.getD pl d4).2.2.2) + 1)) (nI_add ((P.getD pl d4).2.2.2) 1) ?_
        refine lv_imul hx hb dX10_where_142 ?_
        refine q_seti (y := nI (32 * (((P.getD pl d4).2.2.2) + 1))) (pk_mul 32 (((P.getD pl d4).2.2.2) + 1)) ?_
        refine lv_iload hx hb dX10_where_143 (lv_at hl 0 rfl) ?_
        refine lv_iadd hx hb dX10_where_145 ?_
        refine q_seti (y := nI ((32 * (((P.getD pl d4).2.2.2) + 1)) + sv)) (nI_add (32 * (((P.getD pl d4).2.2.2) + 1)) sv) ?_
        exact q_zi hf hr rfl hlocks hK hP hD hS (Nat.le_of_ble_eq_true rfl) (Nat.le_of_ble_eq_true rfl) ⟨Or.inr (Or.inr (Or.inr ⟨j, pl, sv, ⟨hj, rfl⟩, ⟨by omega, c_3⟩, ⟨hplj, hfst⟩, by rw [whS_in (by omega)]; exact hwT, rfl⟩)), ⟨(upd (upd (upd I 25 v1) 26 v2) 27 v3), F, ⟨⟨rfl, rfl, rfl⟩, ⟨rfl, rfl, rfl⟩, ⟨rfl, rfl, rfl, rfl, rfl, rfl, rfl, rfl, rfl, rfl, rfl⟩, rfl, rfl, rfl, rfl⟩, rfl⟩⟩ dX10_where_146
      · refine lv_iconst (v := (-1)) hx hb dX10_where_35 (by decide) ?_
        exact q_zi hf hr rfl hlocks hK hP hD hS (Nat.le_of_ble_eq_true rfl) (Nat.le_of_ble_eq_true rfl) ⟨Or.inr (Or.inr (Or.inl ⟨j, hj, rfl, by omega, c_3, rfl⟩)), ⟨I, F, ⟨⟨rfl, rfl, rfl⟩, ⟨rfl, rfl, rfl⟩, ⟨rfl, rfl, rfl, rfl, rfl, rfl, rfl, rfl, rfl, rfl, rfl⟩, rfl, rfl, rfl, rfl⟩, rfl⟩⟩ dX10_where_36
    · have c_2 := q_eqn (a := lk) (b := 0) (by omega) (by omega) c_2
      refine lv_bipush (v := (-3)) hx hb dX10_where_18 (by decide) ?_
      exact q_zi hf hr rfl hlocks hK hP hD hS (Nat.le_of_ble_eq_true rfl) (Nat.le_of_ble_eq_true rfl) ⟨Or.inr (Or.inl ⟨j, hj, rfl, by omega, rfl⟩), ⟨I, F, ⟨⟨rfl, rfl, rfl⟩, ⟨rfl, rfl, rfl⟩, ⟨rfl, rfl, rfl, rfl, rfl, rfl, rfl, rfl, rfl, rfl, rfl⟩, rfl, rfl, rfl, rfl⟩, rfl⟩⟩ dX10_where_20
  · have hP : va_P D vcl (mW h0 q cB cI_ cZ I F) H := hP
    have hD : va_D A (mW h0 q cB cI_ cZ I F) := hD
    refine lv_if_ne (tgt := 11) hx hb dX10_where_5 (by decide) (fun hno => absurd hno (by decide)) (fun _ => ?_)
    refine lv_bipush (v := (-2)) hx hb dX10_where_8 (by decide) ?_
    exact q_zi hf hr rfl hlocks hK hP hD hS (Nat.le_of_ble_eq_true rfl) (Nat.le_of_ble_eq_true rfl) ⟨Or.inl ⟨c_1, rfl⟩, ⟨I, F, ⟨⟨rfl, rfl, rfl⟩, ⟨rfl, rfl, rfl⟩, ⟨rfl, rfl, rfl, rfl, rfl, rfl, rfl, rfl, rfl, rfl, rfl⟩, rfl, rfl, rfl, rfl⟩, rfl⟩⟩ dX10_where_10
theorem gl_where4 (l : Launch) (D : va_G) (z : Nat → Nat) (cB cI_ cO : ClassId) (L0 : List Nat) (g0 : hG) (pr gl lf ra fa la M pp : Nat) (v6 v7 v8 v9 : Int32) (f0 f1 f2 : Nat → Int32) (SL : List I3) (h_gl : ho L0 g0 gl 25 (.inr (3, [.ref pr, .ref lf, .ref ra, .ref fa, .ref la, .int (nI SL.length), .int v6, .int v7, .int v8, .int v9]))) (h_la : ho L0 g0 la 28 (.inl (cI_, M, .inl f2))) (hM : M ≤ 30000) (hll : SL.length ≤ M) (hpp : pp ≤ 20000) (hln : ∀ t, t < SL.length → ∃ c : Nat, c ≤ 20000 ∧ f2 t = nI c) (hsh : sh_is SL f0 f1 f2) : eIs l D yX2_sheetWherePieceBegins cX2_sheetWherePieceBegins 3 (some .int) 8 100 0 0 [.ref gl, .int (nI pp)] z cB cI_ cO L0 g0 (fun r => ∃ t : Nat, t ≤ 30000 ∧ (whT SL pp t ∨ whN SL pp) ∧ r = nI t) := by
  have hch : ∃ ln : Nat → Nat, ∀ t, t < SL.length → f2 t = nI (ln t) ∧ ln t ≤ 20000 := by
    refine ⟨fun t => (f2 t).toInt.toNat, fun t ht => ?_⟩
    obtain ⟨c, h1, h2⟩ := hln t ht
    show f2 t = nI (f2 t).toInt.toNat ∧ (f2 t).toInt.toNat ≤ 20000
    rw [h2, nI_toInt (by omega)]
    exact ⟨by rw [Int.toNat_natCast], by rw [Int.toNat_natCast]; exact h1⟩
  obtain ⟨ln, hln⟩ := hch
  have hA : ∀ u, u < SL.length → lsA SL u (ln u) := fun u hu => ⟨(hln u hu).2, by rw [← (hsh u hu).2.2]; exact (hln u hu).1⟩
  refine eI_mo (gl_where l D z cB cI_ cO L0 g0 pr gl lf ra fa la M SL.length pp v6 v7 v8 v9 f2 ln h_gl h_la hM hll hpp hln) (fun r L g h => ⟨?_, h.2⟩)
  rcases h.1 with ⟨t, h1, h2⟩ | ⟨h1, h2⟩
  · exact ⟨t, by omega, Or.inl ⟨h1.1, ⟨ln t, hA t h1.1, h1.2.1⟩, fun u hu => ⟨ln u, hA u (by omega), h1.2.2 u hu⟩⟩, h2⟩
  · exact ⟨0, by omega, Or.inr (fun u hu => ⟨ln u, hA u hu, h1 u hu⟩), h2⟩
set_option maxHeartbeats 1000000 in
set_option maxRecDepth 100000 in
theorem d_whereY2 (l : Launch) (D : va_G) (z : Nat → Nat) (cB cI_ cO : ClassId) (L0 : List Nat) (g0 : hG) (dk tp rd els reo nob pr pcs spr nwh cp bk sl gs : Nat) (pa : List Nat) (P : List Q4) (cap : Nat) (xs : List Nat) (Es : List E5) (nb gl lf ra fa la : Nat) (v5 v6 v7 v8 v9 x1 x2 x3 x4 x5 x6 : Int32) (M : Nat) (f0 f1 f2 : Nat → Int32) (mo gg fi en B pl j : Nat) (h_dk : ho L0 g0 dk 1 (.inr (10, [.ref tp, .ref rd, .ref els, .ref reo, .ref nob, .ref pr, .ref bk, .ref gl, .ref sl, .int (nI mo), .int 1, .int (nI gs)]))) (h_pr : ho L0 g0 pr 13 (.inr (7, [.ref pcs, .ref spr, .ref nwh]))) (h_pcs : alR cO (z 0) 14 15 L0 g0 pcs cp pa) (h_pc : pcR L0 g0 (fun e => xs.getD e 0) pa P) (h_els : alR cO (z 0) 5 6 L0 g0 els cap xs) (h_es : elsR cB cI_ L0 g0 xs Es) (h_nwh : ho L0 g0 nwh 19 (.inr (6, [.ref nb, .int 0, .int 0, .int 0]))) (h_gl : ho L0 g0 gl 25 (.inr (3, [.ref pr, .ref lf, .ref ra, .ref fa, .ref la, .int v5, .int v6, .int v7, .int v8, .int v9]))) (h_lf : ho L0 g0 lf 20 (.inr (4, [.ref pr, .int x1, .int x2, .int x3, .int x4, .int x5, .int x6]))) (h_ra : ho L0 g0 ra 26 (.inl (cI_, M, .inl f0))) (h_fa : ho L0 g0 fa 27 (.inl (cI_, M, .inl f1))) (h_la : ho L0 g0 la 28 (.inl (cI_, M, .inl f2))) (hpa : pa.length ≤ 20000) (hQ : pq_ok xs.length (fun e => Es.getD e dE) P) (hSn : qS P pa.length ≤ 8000) (hmo1 : 10 ≤ mo) (hmo : mo ≤ 40) (hgg : gg ≤ 20000) (hG : ∀ t, t < pa.length → (P.getD t d4).2.2.2 ≤ 30000) (efi : fi = rg_first (fun t => (P.getD t d4).2.2.2) gg pa.length 0) (een : en = rg_first (fun t => (P.getD t d4).2.2.2) (gg + 1) pa.length 0) (hgF : ∀ p, fi < p → p < en → (P.getD p d4).2.1 = 0) (hgT : ∀ p, fi ≤ p → p + 1 < en → (P.getD p d4).2.2.1 = eRw ((fun e => Es.getD e dE) (P.getD p d4).1)) (hM1 : 1 ≤ M) (hB9 : B ≤ 30000) (hB2 : B = glx M 0 (gl_S (fun e => Es.getD e dE) P fi en mo)) (hxl : xs.length ≤ 60) (hj : j < xs.length) (hst : (Es.getD j dE).2.2.1 = 0) (hpl : pl < pa.length) (hplj : (P.getD pl d4).1 = j) (hfst : ∀ t, t < pl → ¬ (P.getD t d4).1 = j) (hgg0 : (P.getD pl d4).2.2.2 = gg) (hGs : ∀ s t, s ≤ t → t < pa.length → (P.getD s d4).2.2.2 ≤ (P.getD t d4).2.2.2) : eI l D yX9_where cX9_where 5 (some .int) 11 327 (3 * (B - M)) (6 * (B - M)) [.ref dk, .int (nI j)] z cB cI_ cO L0 g0 (fun r L g => ∃ (S2 : List I3) (ra2 fa2 la2 M2 : Nat) (k0 k1 k2 : Nat → Int32) (w7 w8 w9 u1 u2 u3 u4 u5 u6 : Int32), (∃ t : Nat, (whT S2 pl t ∨ whN S2 pl) ∧ r = nI (32 * gg + t)) ∧ S2 = gl_S (fun e => Es.getD e dE) P fi en mo ∧ sh_is S2 k0 k1 k2 ∧ (S2.length ≤ M2 ∧ M2 = B ∧ 1 ≤ M2) ∧ fr [20, 25, 26, 27, 28] L0 g0 L g ∧ ho L g gl 25 (.inr (3, [.ref pr, .ref lf, .ref ra2, .ref fa2, .ref la2, .int (nI (S2.length)), .int (nI en), .int w7, .int w8, .int w9])) ∧ ho L g lf 20 (.inr (4, [.ref pr, .int u1, .int u2, .int u3, .int u4, .int u5, .int u6])) ∧ ho L g ra2 26 (.inl (cI_, M2, .inl k0)) ∧ ho L g fa2 27 (.inl (cI_, M2, .inl k1)) ∧ ho L g la2 28 (.inl (cI_, M2, .inl k2))) := by
  refine o_si (by decide) (Nat.le_of_ble_eq_true rfl) ?_
  intro p e s m below meth c A ls hf hr hlocks hin hK hP hD hS hA hZ hN hl
  obtain ⟨hx, hb, hml, hown, hts⟩ := id hf
  have hl : lv_has ls 5 [(0, .ref dk), (1, .int (nI j))] := hl
  have hfr : fr [20, 25, 26, 27, 28] L0 g0 L0 g0 := fr.rf
  refine lv_aload_n hx hb dX9_where_0 rfl (lv_at hl 0 rfl) ?_
  refine lv_iload_n hx hb dX9_where_1 rfl (lv_at hl 1 rfl) ?_
  refine o_cis (k := 0) (n := 0) hK hP hD hS hA (o_rV (As := [.int (nI j)]) (rest := []) hf (d_isE1 _ _ _ _ _ _ _ _ dk tp rd els reo nob pr bk gl sl mo 1 (nI gs) cap xs Es j h_dk h_els h_es hxl (by omega) _) k_736 k_733 k_735 k_22 k_84 (nA := 1) (by decide +kernel) ⟨Nat.le_of_ble_eq_true rfl, Nat.le_of_ble_eq_true rfl⟩ hK hP hD hS hA hZ hN h_dk rfl rfl rfl hl.1 rfl (Nat.le_of_ble_eq_true rfl) dX9_where_2 ⟨(show 0 + 0 ≤ 3 * (B - M) by omega), (show 0 + 0 ≤ 6 * (B - M) by omega)⟩) (Nat.le_refl _) (Nat.le_refl _) (fun r H locs hw hP hD hS => ?_)
  obtain rfl := hw
  refine lv_if_ne (tgt := 11) hx hb dX9_where_5 (by decide) (fun _ => ?_) (fun hno => absurd hno (by decide))
  refine lv_aload_n hx hb dX9_where_11 rfl (lv_at hl 0 rfl) ?_
  refine o_get (D := D) (ci := 10) (v := .int 1) (C := RX9) (T := TX9) (N := 12) hx hb hts inX9 hown hK hP h_dk rfl 10 (by decide) (hts _ k_439) (fun _ h9 => h9) rfl dX9_where_12 ?_
  refine lv_if_ne (tgt := 21) hx hb dX9_where_15 (by decide) (fun _ => ?_) (fun hno => absurd hno (by decide))
  refine lv_aload_n hx hb dX9_where_21 rfl (lv_at hl 0 rfl) ?_
  refine lv_iload_n hx hb dX9_where_22 rfl (lv_at hl 1 rfl) ?_
  refine o_crs (k := 0) (n := 0) hK hP hD hS hA (o_rV (As := [.int (nI j)]) (rest := []) hf (d_elAt _ _ _ _ _ _ _ _ dk tp rd els reo nob pr bk gl sl mo 1 (nI gs) cap xs Es j h_dk h_els h_es hxl (by omega) _) k_740 k_737 k_739 k_23 k_84 (nA := 1) (by decide +kernel) ⟨Nat.le_of_ble_eq_true rfl, Nat.le_of_ble_eq_true rfl⟩ hK hP hD hS hA hZ hN h_dk rfl rfl rfl hl.1 rfl (Nat.le_of_ble_eq_true rfl) dX9_where_23 ⟨(show 0 + 0 ≤ 3 * (B - M) by omega), (show 0 + 0 ≤ 6 * (B - M) by omega)⟩) (Nat.le_refl _) (Nat.le_refl _) (fun r H locs hw hP hD hS => ?_)
  obtain rfl := hw
  obtain ⟨⟨txg1, rfg1, rtg1, h_eg1⟩, hr_g1⟩ := h_es.o2 (show j < xs.length by omega)
  refine lv_astore_n (lv' := [(2, .ref (xs.getD j 0)), (0, .ref dk), (1, .int (nI j))]) hx hb dX9_where_26 rfl hl (by decide) rfl (fun ls hl => ?_)
  refine lv_aload_n hx hb dX9_where_27 rfl (lv_at hl 0 rfl) ?_
  refine o_get (D := D) (ci := 2) (v := .int ((Es.getD j dE).2.2.1)) (C := RX1) (T := TX1) (N := 9) hx hb hts inX1 hown hK hP h_eg1 rfl 2 (by decide) (hts _ k_235) (fun _ h9 => h9) rfl dX9_where_28 ?_
  refine lv_if_eq (tgt := 36) hx hb dX9_where_31 (by decide) (fun c_2 => ?_) (fun c_2 => ?_)
  · refine lv_aload_n hx hb dX9_where_36 rfl (lv_at hl 1 rfl) ?_
    refine o_get (D := D) (ci := 10) (v := .ref pr) (C := RX9) (T := TX9) (N := 12) hx hb hts inX9 hown hK hP h_dk rfl 5 (by decide) (hts _ k_434) (fun _ h9 => h9) rfl dX9_where_37 ?_
    refine lv_aload_n hx hb dX9_where_40 rfl (lv_at hl 0 rfl) ?_
    refine o_cis (k := 0) (n := 0) hK hP hD hS hA (o_rV (As := [.ref (xs.getD j 0)]) (rest := []) hf (p_first2 _ _ _ _ _ _ _ _ pr pcs spr nwh cp pa (fun e => xs.getD e 0) P (xs.getD j 0) pl h_pr h_pcs h_pc hpa hpl (by show xs.getD (P.getD pl d4).1 0 = _; rw [hplj]) (fun t h9 h8 => hfst t h9 (nd_inj h_es.2.1 (hQ t (by have := h_pc.1; omega)).1 hj h8)) _) k_1028 k_1025 k_1026 k_1027 k_92 (nA := 1) (by decide +kernel) ⟨Nat.le_of_ble_eq_true rfl, Nat.le_of_ble_eq_true rfl⟩ hK hP hD hS hA hZ hN h_pr rfl rfl rfl hl.1 rfl (Nat.le_of_ble_eq_true rfl) dX9_where_41 ⟨(show 0 + 0 ≤ 3 * (B - M) by omega), (show 0 + 0 ≤ 6 * (B - M) by omega)⟩) (Nat.le_refl _) (Nat.le_refl _) (fun r H locs hw hP hD hS => ?_)
    obtain rfl := hw
    refine lv_istore_n (lv' := [(3, .int (nI pl)), (2, .ref (xs.getD j 0)), (0, .ref dk), (1, .int (nI j))]) hx hb dX9_where_44 rfl hl (by decide) rfl (fun ls hl => ?_)
    refine lv_aload_n hx hb dX9_where_45 rfl (lv_at hl 2 rfl) ?_
    refine o_get (D := D) (ci := 10) (v := .ref pr) (C := RX9) (T := TX9) (N := 12) hx hb hts inX9 hown hK hP h_dk rfl 5 (by decide) (hts _ k_434) (fun _ h9 => h9) rfl dX9_where_46 ?_
    refine lv_iload_n hx hb dX9_where_49 rfl (lv_at hl 0 rfl) ?_
    refine o_crs (k := 0) (n := 0) hK hP hD hS hA (o_rV (As := [.int (nI pl)]) (rest := []) hf (p_atI _ _ _ _ _ _ _ _ pr pcs spr nwh cp pa (fun e => xs.getD e 0) P pl h_pr h_pcs h_pc hpa hpl _) k_775 k_945 k_773 k_774 k_92 (nA := 1) (by decide +kernel) ⟨Nat.le_of_ble_eq_true rfl, Nat.le_of_ble_eq_true rfl⟩ hK hP hD hS hA hZ hN h_pr rfl rfl rfl hl.1 rfl (Nat.le_of_ble_eq_true rfl) dX9_where_50 ⟨(show 0 + 0 ≤ 3 * (B - M) by omega), (show 0 + 0 ≤ 6 * (B - M) by omega)⟩) (Nat.le_refl _) (Nat.le_refl _) (fun r H locs hw hP hD hS => ?_)
    obtain rfl := hw
    have h_pp := h_pc.2 pl hpl
    rw [hgg0] at h_pp
    refine o_get (D := D) (ci := 6) (v := .int (nI gg)) (C := RX5) (T := TX5) (N := 4) hx hb hts inX5 hown hK hP h_pp rfl 3 (by decide) (hts _ k_294) (fun _ h9 => h9) rfl dX9_where_53 ?_
    refine lv_istore (lv' := [(4, .int (nI gg)), (3, .int (nI pl)), (2, .ref (xs.getD j 0)), (0, .ref dk), (1, .int (nI j))]) hx hb dX9_where_56 hl (by decide) rfl (fun ls hl => ?_)
    refine lv_aload_n hx hb dX9_where_58 rfl (lv_at hl 3 rfl) ?_
    refine o_get (D := D) (ci := 10) (v := .ref gl) (C := RX9) (T := TX9) (N := 12) hx hb hts inX9 hown hK hP h_dk rfl 7 (by decide) (hts _ k_436) (fun _ h9 => h9) rfl dX9_where_59 ?_
    refine lv_iload hx hb dX9_where_62 (lv_at hl 0 rfl) ?_
    refine lv_aload_n hx hb dX9_where_64 rfl (lv_at hl 3 rfl) ?_
    refine o_get (D := D) (ci := 10) (v := .int (nI mo)) (C := RX9) (T := TX9) (N := 12) hx hb hts inX9 hown hK hP h_dk rfl 9 (by decide) (hts _ k_438) (fun _ h9 => h9) rfl dX9_where_65 ?_
    refine o_cv (k := 0 + (3 * (B - M))) (n := 0 + (6 * (B - M))) hK hP hD hS hA (o_rV (As := [.int (nI gg), .int (nI mo)]) (rest := []) hf (gl_lay _ _ _ _ _ _ _ _ pr pcs spr nwh cp pa (fun e => xs.getD e 0) P xs.length (fun e => Es.getD e dE) nb gl lf ra fa la v5 v6 v7 v8 v9 x1 x2 x3 x4 x5 x6 M f0 f1 f2 mo gg fi en B h_pr h_pcs h_pc h_es.2.2 h_nwh h_gl h_lf h_ra h_fa h_la hpa hQ hSn hmo1 hmo hgg hG efi een hgF hgT hM1 hB9 hB2 _) k_949 k_946 k_947 k_948 k_96 (nA := 2) (by decide +kernel) ⟨Nat.le_of_ble_eq_true rfl, Nat.le_of_ble_eq_true rfl⟩ hK hP hD hS hA hZ hN h_gl rfl rfl rfl hl.1 rfl (Nat.le_of_ble_eq_true rfl) dX9_where_68 ⟨(show 0 + (3 * (B - M)) ≤ 3 * (B - M) by omega), (show 0 + (6 * (B - M)) ≤ 6 * (B - M) by omega)⟩) (by omega) (by omega) (fun L g H locs hw hP hD hS => ?_)
    obtain ⟨S2, ra2, fa2, la2, M2, k0, k1, k2, w7, w8, w9, u1, u2, u3, u4, u5, u6, eS, hsh, hM3, hf9, h_gl, h_lf, h_ra, h_fa, h_la⟩ := hw
    have h_dk := h_dk.fr hf9 (by decide)
    have h_pr := h_pr.fr hf9 (by decide)
    have h_nwh := h_nwh.fr hf9 (by decide)
    have h_eg1 := h_eg1.fr hf9 (by decide)
    have h_pp := h_pp.fr hf9 (by decide)
    have hfr := hfr.tr hf9
    have h_pcs := h_pcs.frd hf9 (by decide)
    have h_pc := h_pc.frd hf9 (by decide)
    have h_els := h_els.frd hf9 (by decide)
    have h_es := h_es.frd hf9 (by decide)
    have hplm := h_pc.1
    have heb := rg_first_le (fun t => (P.getD t d4).2.2.2) (gg + 1) pa.length 0
    rw [← een] at heb
    have hgo := glS_ok (EE := (fun e => Es.getD e dE)) (fi := fi) hQ (show en ≤ P.length by omega) hmo1 hmo
    obtain ⟨fz, hfz⟩ : fi < en ∧ True := ⟨by rw [efi, een]; exact rg_lt hpl hgg0 hGs, trivial⟩
    have hln9 : ∀ t, t < S2.length → ∃ c : Nat, c ≤ 20000 ∧ k2 t = nI c := fun t ht => by
      have h8 := hsh t ht
      have h7 := (glS_fin (EE := (fun e => Es.getD e dE)) (fi := fi) hQ (show en ≤ P.length by omega) hmo1 hmo fz) t (by rw [← eS]; exact ht)
      obtain ⟨c, h5, h6⟩ := h7
      exact ⟨c, by omega, by rw [h8.2.2, eS]; exact h6⟩
    refine lv_iload hx hb dX9_where_71 (lv_at hl 0 rfl) ?_
    refine lv_bipush (v := 32) hx hb dX9_where_73 (by decide) ?_
    refine lv_imul hx hb dX9_where_75 ?_
    refine q_seti (y := nI (32 * gg)) (nI_mulE (a := gg) (b := 32) (by omega)) ?_
    refine lv_aload_n hx hb dX9_where_76 rfl (lv_at hl 3 rfl) ?_
    refine o_get (D := D) (ci := 10) (v := .ref gl) (C := RX9) (T := TX9) (N := 12) hx hb hts inX9 hown hK hP h_dk rfl 7 (by decide) (hts _ k_436) (fun _ h9 => h9) rfl dX9_where_77 ?_
    refine lv_iload_n hx hb dX9_where_80 rfl (lv_at hl 1 rfl) ?_
    refine o_cis (k := 0 + (3 * (B - M))) (n := 0 + (6 * (B - M))) hK hP hD hS hA (o_rV (As := [.int (nI pl)]) (rest := [.int (nI (32 * gg))]) hf (gl_where4 _ _ _ _ _ _ _ _ pr gl lf ra2 fa2 la2 M2 pl (nI en) w7 w8 w9 k0 k1 k2 S2 h_gl h_la (by omega) (by omega) (by omega) hln9 hsh _) k_1032 k_1029 k_1030 k_1031 k_96 (nA := 1) (by decide +kernel) ⟨Nat.le_of_ble_eq_true rfl, Nat.le_of_ble_eq_true rfl⟩ hK hP hD hS hA hZ hN h_gl rfl rfl rfl hl.1 rfl (Nat.le_of_ble_eq_true rfl) dX9_where_81 ⟨(show 0 + (3 * (B - M)) + 0 ≤ 3 * (B - M) by omega), (show 0 + (6 * (B - M)) + 0 ≤ 6 * (B - M) by omega)⟩) (Nat.le_refl _) (Nat.le_refl _) (fun r H locs hw hP hD hS => ?_)
    obtain ⟨t9, ht9, hw9, rfl⟩ := hw
    refine lv_iadd hx hb dX9_where_84 ?_
    refine q_seti (y := nI (32 * gg + t9)) (nI_addE (a := 32 * gg) (b := t9) (by omega)) ?_
    exact o_ri hf hr rfl hlocks hK hP hD hS (show 0 + (3 * (B - M)) ≤ 3 * (B - M) by omega) (show 0 + (6 * (B - M)) ≤ 6 * (B - M) by omega) ⟨S2, ra2, fa2, la2, M2, k0, k1, k2, w7, w8, w9, u1, u2, u3, u4, u5, u6, ⟨t9, hw9, rfl⟩, eS, hsh, hM3, hfr, h_gl, h_lf, h_ra, h_fa, h_la⟩ dX9_where_85
  · exact absurd hst c_2
