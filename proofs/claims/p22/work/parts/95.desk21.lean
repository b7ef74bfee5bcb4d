theorem rmv_no {ea : Nat → Nat} {el : Nat} {P : List Q4} : ∀ k, (∀ t, t < k → ¬ ea (P.getD t d4).1 = el) → rmv ea el k P = P := by
  intro k
  induction k with
  | zero => intro _; rfl
  | succ k ih =>
    intro h
    show rmv ea el k (if ea (P.getD k d4).1 = el then P.eraseIdx k else P) = P
    rw [if_neg (h k (by omega))]
    exact ih (fun t ht => h t (by omega))
theorem lsJ_er {P : List Q4} {i : Nat} {q : Q4} (h : i ≤ P.length) : (lsJ P i q).eraseIdx i = P := by
  have hl : (P.take i).length = i := by rw [List.length_take]; omega
  unfold lsJ
  rw [List.eraseIdx_append_of_length_le (by omega), hl, Nat.sub_self]
  show P.take i ++ P.drop i = P
  exact List.take_append_drop i P
theorem rmv_ins {ea : Nat → Nat} {el : Nat} {P : List Q4} {i : Nat} {q : Q4} (hi : i ≤ P.length) (hq : ea q.1 = el) (hn : ∀ t, t < P.length → ¬ ea (P.getD t d4).1 = el) : ∀ k, i < k → k ≤ P.length + 1 → rmv ea el k (lsJ P i q) = P := by
  intro k
  induction k with
  | zero => intro h; exact absurd h (Nat.not_lt_zero i)
  | succ k ih =>
    intro h1 h2
    show rmv ea el k (if ea ((lsJ P i q).getD k d4).1 = el then (lsJ P i q).eraseIdx k else lsJ P i q) = P
    by_cases c : k = i
    · subst c
      have e1 : (lsJ P k q).getD k d4 = q := by rw [lsJ_at hi, if_neg (Nat.lt_irrefl k), if_pos rfl]
      rw [e1, if_pos hq, lsJ_er hi]
      exact rmv_no k (fun t ht => hn t (by omega))
    · have e1 : (lsJ P i q).getD k d4 = P.getD (k - 1) d4 := by rw [lsJ_at hi, if_neg (by omega), if_neg c]
      rw [e1, if_neg (hn (k - 1) (by omega))]
      exact ih (by omega) (by omega)
theorem pcR.ea {L : List Nat} {g : hG} {ea eb : Nat → Nat} {pa : List Nat} {P : List Q4} (h : pcR L g ea pa P) (he : ∀ i, i < P.length → ea (P.getD i d4).1 = eb (P.getD i d4).1) : pcR L g eb pa P := ⟨h.1, fun i hi => by have h1 := h.2 i hi; rw [he i (by have := h.1; omega)] at h1; exact h1⟩
theorem getD_app {xs : List Nat} {q e : Nat} (h : e < xs.length) : (xs ++ [q]).getD e 0 = xs.getD e 0 := by
  rw [List.getD_eq_getElem?_getD, List.getElem?_append_left h, List.getD_eq_getElem?_getD]
theorem getD_lst {xs : List Nat} {q : Nat} : (xs ++ [q]).getD xs.length 0 = q := by
  rw [List.getD_eq_getElem?_getD, List.getElem?_append_right (Nat.le_refl _), Nat.sub_self]
  rfl
theorem getE_app {xs : List E5} {q : E5} {e : Nat} (h : e < xs.length) : (xs ++ [q]).getD e dE = xs.getD e dE := by
  rw [List.getD_eq_getElem?_getD, List.getElem?_append_left h, List.getD_eq_getElem?_getD]
theorem getE_lst {xs : List E5} {q : E5} : (xs ++ [q]).getD xs.length dE = q := by
  rw [List.getD_eq_getElem?_getD, List.getElem?_append_right (Nat.le_refl _), Nat.sub_self]
  rfl
theorem elsR.ini {cB cI_ : ClassId} {L : List Nat} {g : hG} {xs : List Nat} {Es : List E5} {x : Nat} {E : E5} (h : elsR cB cI_ L g (xs ++ [x]) (Es ++ [E])) : elsR cB cI_ L g xs Es := by
  have hl := h.1
  rw [List.length_append, List.length_append] at hl
  have hl : xs.length + 1 = Es.length + 1 := hl
  refine ⟨by omega, (List.nodup_append.mp h.2.1).1, fun e he => ?_⟩
  have h1 := h.2.2 e (by rw [List.length_append]; omega)
  rw [getD_app he, getE_app (by omega)] at h1
  exact h1
theorem gcel_1 (n c : Nat) : gcel n c ≤ 1 := by
  unfold gcel
  by_cases h : n = c
  · rw [if_pos h]; exact Nat.le_refl _
  · rw [if_neg h]; exact Nat.zero_le _

theorem p_put2 (l : Launch) (D : va_G) (z : Nat → Nat) (cB cI_ cO : ClassId) (L0 : List Nat) (g0 : hG) (pr pcs spr nwh cp cs : Nat) (pa sa : List Nat) (ea : Nat → Nat) (P : List Q4) (pl e_ a b c_ : Nat) (el9 : Nat) (h_pr : ho L0 g0 pr 13 (.inr (7, [.ref pcs, .ref spr, .ref nwh]))) (h_pcs : alR cO (z 0) 14 15 L0 g0 pcs cp pa) (h_spr : alR cO (z 0) 16 17 L0 g0 spr cs sa) (h_pc : pcR L0 g0 ea pa P) (h_sp : spR L0 g0 sa) (hpa : pa.length ≤ 20000) (hpl : pl ≤ pa.length) (hnd : (pa ++ sa).Nodup) (hcp : ncap pa.length cp ≤ 60000) (hsa : sa.length ≤ 20000) (hel : ea e_ = el9) : eV l D yX6_put cX6_put 7 none 6 131 (pnew sa + gcel pa.length cp) (4 * pnew sa + gslo pa.length cp) [.ref pr, .int (nI pl), .ref el9, .int (nI a), .int (nI b), .int (nI c_)] z cB cI_ cO L0 g0 (fun L g => ∃ (x : Nat) (s2 : List Nat), fr [14, 15, 16, 17, 18] L0 g0 L g ∧ alR cO (z 0) 14 15 L g pcs (ncap pa.length cp) (lsI pa pl x) ∧ alR cO (z 0) 16 17 L g spr cs s2 ∧ pcR L g ea (lsI pa pl x) (lsJ P pl (e_, a, b, c_)) ∧ spR L g s2 ∧ (lsI pa pl x ++ s2).Nodup ∧ (lsI pa pl x).length + s2.length = pa.length + sa.length + pnew sa) := by
  subst hel
  exact p_put l D z cB cI_ cO L0 g0 pr pcs spr nwh cp cs pa sa ea P pl e_ a b c_ h_pr h_pcs h_spr h_pc h_sp hpa hpl hnd hcp hsa
theorem p_last2 (l : Launch) (D : va_G) (z : Nat → Nat) (cB cI_ cO : ClassId) (L0 : List Nat) (g0 : hG) (pr pcs spr nwh cp : Nat) (pa : List Nat) (ea : Nat → Nat) (P : List Q4) (el pl : Nat) (h_pr : ho L0 g0 pr 13 (.inr (7, [.ref pcs, .ref spr, .ref nwh]))) (h_pcs : alR cO (z 0) 14 15 L0 g0 pcs cp pa) (h_pc : pcR L0 g0 ea pa P) (hpa : pa.length ≤ 20000) (hp : pl < pa.length) (ha : ea (P.getD pl d4).1 = el) (hb : ∀ t, pl < t → t < pa.length → ¬ ea (P.getD t d4).1 = el) : eIs l D yX6_lastPieceOf cX6_lastPieceOf 3 (some .int) 8 160 0 0 [.ref pr, .ref el] z cB cI_ cO L0 g0 (fun r => r = nI pl) := by
  refine eI_mo (p_last l D z cB cI_ cO L0 g0 pr pcs spr nwh cp pa ea P el h_pr h_pcs h_pc hpa) (fun r L g h => ?_)
  obtain ⟨h1, h2, h3⟩ := h
  refine ⟨?_, h2, h3⟩
  rcases h1 with ⟨u, h4, h5, h6, h7⟩ | ⟨h4, h5⟩
  · by_cases c : pl < u
    · exact absurd h5 (hb u c h4)
    · by_cases c2 : u < pl
      · exact absurd ha (h6 pl c2 hp)
      · rw [h7, show u = pl by omega]
  · exact absurd ha (h4 pl hp)
theorem p_first2 (l : Launch) (D : va_G) (z : Nat → Nat) (cB cI_ cO : ClassId) (L0 : List Nat) (g0 : hG) (pr pcs spr nwh cp : Nat) (pa : List Nat) (ea : Nat → Nat) (P : List Q4) (el pl : Nat) (h_pr : ho L0 g0 pr 13 (.inr (7, [.ref pcs, .ref spr, .ref nwh]))) (h_pcs : alR cO (z 0) 14 15 L0 g0 pcs cp pa) (h_pc : pcR L0 g0 ea pa P) (hpa : pa.length ≤ 20000) (hp : pl < pa.length) (ha : ea (P.getD pl d4).1 = el) (hb : ∀ t, t < pl → ¬ ea (P.getD t d4).1 = el) : eIs l D yX6_firstPieceOf cX6_firstPieceOf 3 (some .int) 8 160 0 0 [.ref pr, .ref el] z cB cI_ cO L0 g0 (fun r => r = nI pl) := by
  refine eI_mo (p_first l D z cB cI_ cO L0 g0 pr pcs spr nwh cp pa ea P el h_pr h_pcs h_pc hpa) (fun r L g h => ?_)
  obtain ⟨h1, h2, h3⟩ := h
  refine ⟨?_, h2, h3⟩
  rcases h1 with ⟨u, h4, h5, h6, h7⟩ | ⟨h4, h5⟩
  · by_cases c : u < pl
    · exact absurd h5 (hb u c)
    · by_cases c2 : pl < u
      · exact absurd ha (h6 pl c2)
      · rw [h7, show u = pl by omega]
  · exact absurd ha (h4 pl hp)
