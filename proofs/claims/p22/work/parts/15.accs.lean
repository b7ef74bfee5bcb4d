theorem tx_cnt_mono (T : Nat → Int32) (L : List (Nat × Nat)) : ∀ d j, tx_cnt T L j ≤ tx_cnt T L (j + d) := by
  intro d
  induction d with
  | zero => intro j; exact Nat.le_refl _
  | succ d ih =>
    intro j
    refine Nat.le_trans (ih j) ?_
    show tx_cnt T L (j + d) ≤ tx_cnt T L (j + d) + _
    omega
theorem tx_sc_len (T : Nat → Int32) : ∀ r i b w X, w ≤ X.length → (tx_sc T r i b w X).1 ≤ (tx_sc T r i b w X).2.length ∧ (tx_sc T r i b w X).2.length ≤ X.length + r + (if b = 1 then 0 else if w = 0 then 0 else 1) := by
  intro r
  induction r with
  | zero => intro i b w X h; exact ⟨h, by show X.length ≤ _; omega⟩
  | succ r ih =>
    intro i b w X h
    by_cases hg : tx_gap (T i)
    · rw [tx_sc_g hg (Nat.succ_pos r)]
      have h1 := ih (i + 1) 0 w X h
      rw [if_neg (by decide)] at h1
      refine ⟨h1.1, Nat.le_trans h1.2 ?_⟩
      show X.length + r + _ ≤ X.length + (r + 1) + _
      have : (if w = 0 then 0 else 1) ≤ 1 := by split <;> omega
      omega
    · have e : tx_sc T (r + 1) i b w X = tx_sc T r (i + 1) 1 (if b = 1 then w else w + 1) ((if b = 1 then X else if w = 0 then X else X ++ [32]) ++ [T i]) := pif_n hg
      rw [e]
      have hl : ((if b = 1 then X else if w = 0 then X else X ++ [32]) ++ [T i]).length = X.length + (if b = 1 then 0 else if w = 0 then 0 else 1) + 1 := by
        rw [List.length_append]
        show _ + 1 = _
        by_cases hb : b = 1
        · rw [if_pos hb, if_pos hb]
        · by_cases hw : w = 0
          · rw [if_neg hb, if_pos hw, if_neg hb, if_pos hw]
          · rw [if_neg hb, if_neg hw, if_neg hb, if_neg hw, List.length_append]; rfl
      have hw : (if b = 1 then w else w + 1) ≤ ((if b = 1 then X else if w = 0 then X else X ++ [32]) ++ [T i]).length := by
        rw [hl]
        by_cases hb : b = 1
        · rw [if_pos hb, if_pos hb]; omega
        · rw [if_neg hb]; omega
      have h1 := ih (i + 1) 1 _ _ hw
      rw [if_pos rfl, hl] at h1
      refine ⟨h1.1, ?_⟩
      omega
theorem tx_sc_len0 (T : Nat → Int32) (r i : Nat) : (tx_sc T r i 0 0 []).1 ≤ (tx_sc T r i 0 0 []).2.length ∧ (tx_sc T r i 0 0 []).2.length ≤ r := by
  have h := tx_sc_len T r i 0 0 [] (Nat.le_refl 0)
  refine ⟨h.1, Nat.le_trans h.2 ?_⟩
  rw [if_neg (by decide), if_pos rfl]
  show 0 + r + 0 ≤ r
  omega
theorem tx_sc_len1 (T : Nat → Int32) (r i w : Nat) (X : List Int32) (hw : w ≤ X.length) : (tx_sc T r i 0 w X).1 ≤ (tx_sc T r i 0 w X).2.length ∧ (tx_sc T r i 0 w X).2.length ≤ X.length + r + 1 := by
  have h := tx_sc_len T r i 0 w X hw
  refine ⟨h.1, Nat.le_trans h.2 ?_⟩
  have : (if (0 : Nat) = 1 then 0 else if w = 0 then 0 else 1) ≤ 1 := by rw [if_neg (by decide)]; split <;> omega
  omega
/-- the elements of the first j lines, the last one first: kind, words, text -/
noncomputable def tx_app (T : Nat → Int32) (a b : Nat) : List (Int32 × Nat × List Int32) → List (Int32 × Nat × List Int32)
  | [] => []
  | x :: t => (x.1, tx_sc T (b - a) a 0 x.2.1 x.2.2) :: t
noncomputable def tx_acc (T : Nat → Int32) (L : List (Nat × Nat)) : Nat → List (Int32 × Nat × List Int32)
  | 0 => []
  | j + 1 => pif (tx_free L j) (tx_acc T L j) (pif (tx_more T L j) (tx_app T (L.getD j (0, 0)).1 (L.getD j (0, 0)).2 (tx_acc T L j)) ((tx_k T L j, tx_sc T ((L.getD j (0, 0)).2 - (L.getD j (0, 0)).1) (L.getD j (0, 0)).1 0 0 []) :: tx_acc T L j))
theorem tx_acc_f {T : Nat → Int32} {L : List (Nat × Nat)} {j : Nat} (h : tx_free L j) : tx_acc T L (j + 1) = tx_acc T L j := pif_p h
theorem tx_acc_m {T : Nat → Int32} {L : List (Nat × Nat)} {j : Nat} (h : ¬ tx_free L j) (h2 : tx_more T L j) : tx_acc T L (j + 1) = tx_app T (L.getD j (0, 0)).1 (L.getD j (0, 0)).2 (tx_acc T L j) := (pif_n h).trans (pif_p h2)
theorem tx_acc_n {T : Nat → Int32} {L : List (Nat × Nat)} {j : Nat} (h : ¬ tx_free L j) (h2 : ¬ tx_more T L j) : tx_acc T L (j + 1) = (tx_k T L j, tx_sc T ((L.getD j (0, 0)).2 - (L.getD j (0, 0)).1) (L.getD j (0, 0)).1 0 0 []) :: tx_acc T L j := (pif_n h).trans (pif_n h2)
theorem tx_app_len (T : Nat → Int32) (a b : Nat) (acc : List (Int32 × Nat × List Int32)) : (tx_app T a b acc).length = acc.length := by cases acc <;> rfl
theorem tx_acc_len (T : Nat → Int32) (L : List (Nat × Nat)) : ∀ j, (tx_acc T L j).length = tx_cnt T L j := by
  intro j
  induction j with
  | zero => rfl
  | succ j ih =>
    by_cases hf : tx_free L j
    · rw [tx_acc_f hf, ih]; exact tx_cnt_n (Or.inl hf)
    · by_cases hm : tx_more T L j
      · rw [tx_acc_m hf hm, tx_app_len, ih]; exact tx_cnt_n (Or.inr hm)
      · rw [tx_acc_n hf hm, List.length_cons, ih]; exact tx_cnt_y hf hm
theorem tx_acc_ne (T : Nat → Int32) (L : List (Nat × Nat)) : ∀ j, ¬ tx_free L j → 0 < (tx_acc T L (j + 1)).length := by
  intro j
  induction j with
  | zero =>
    intro hf
    rw [tx_acc_n hf (fun h => absurd h.1 (by omega))]
    exact Nat.succ_pos _
  | succ j ih =>
    intro hf
    by_cases hm : tx_more T L (j + 1)
    · rw [tx_acc_m hf hm, tx_app_len]
      exact ih hm.2.1
    · rw [tx_acc_n hf hm]
      exact Nat.succ_pos _
/-- the slots 0, 1, .. hold the elements -/
def tx_el (f4 f5 f6 f7 f8 f9 f11 g : Nat → Int32) : List (Int32 × Nat × List Int32) → Prop
  | [] => True
  | x :: t => (f4 t.length = nI t.length ∧ f5 t.length = 1 ∧ f6 t.length = x.1 ∧ f7 t.length = 0 ∧ f8 t.length = nI x.2.1 ∧ f9 t.length = nI x.2.2.length ∧ f11 t.length = 0 ∧ ∀ i, i < x.2.2.length → g (1200 * t.length + i) = x.2.2.getD i 0) ∧ tx_el f4 f5 f6 f7 f8 f9 f11 g t
theorem tx_el_c {f4 f5 f6 f7 f8 f9 f11 g k4 k5 k6 k7 k8 k9 k11 h : Nat → Int32} : ∀ {acc : List (Int32 × Nat × List Int32)}, (∀ x, x ∈ acc → x.2.2.length ≤ 1200) → (∀ j, j < acc.length → k4 j = f4 j ∧ k5 j = f5 j ∧ k6 j = f6 j ∧ k7 j = f7 j ∧ k8 j = f8 j ∧ k9 j = f9 j ∧ k11 j = f11 j) → (∀ j, j < 1200 * acc.length → h j = g j) → tx_el f4 f5 f6 f7 f8 f9 f11 g acc → tx_el k4 k5 k6 k7 k8 k9 k11 h acc
  | [], _, _, _, _ => trivial
  | x :: t, hb, h1, h2, h3 => by
    have hl : (x :: t).length = t.length + 1 := rfl
    have e := h1 t.length (by omega)
    obtain ⟨⟨a1, a2, a3, a4, a5, a6, a7, a8⟩, a9⟩ := h3
    refine ⟨⟨e.1.trans a1, e.2.1.trans a2, e.2.2.1.trans a3, e.2.2.2.1.trans a4, e.2.2.2.2.1.trans a5, e.2.2.2.2.2.1.trans a6, e.2.2.2.2.2.2.trans a7, fun i hi => ?_⟩, tx_el_c (fun y hy => hb y (List.mem_cons_of_mem _ hy)) (fun j hj => h1 j (by omega)) (fun j hj => h2 j (by omega)) a9⟩
    have hx := hb x List.mem_cons_self
    rw [h2 _ (by omega)]
    exact a8 i hi
theorem tx_el_5 {f4 f5 f6 f7 f8 f9 f11 g : Nat → Int32} : ∀ {acc : List (Int32 × Nat × List Int32)}, tx_el f4 f5 f6 f7 f8 f9 f11 g acc → ∀ j, j < acc.length → f5 j = 1
  | [], _, j, hj => absurd hj (Nat.not_lt_zero j)
  | x :: t, h, j, hj => by
    have hl : (x :: t).length = t.length + 1 := rfl
    by_cases e : j = t.length
    · rw [e]; exact h.1.2.1
    · exact tx_el_5 h.2 j (by omega)
