theorem sc_grow (T : Nat → Int32) : ∀ r i b w X, X.length ≤ (tx_sc T r i b w X).2.length := by
  intro r
  induction r with
  | zero => intro i b w X; exact Nat.le_refl _
  | succ r ih =>
    intro i b w X
    rw [sc_s]
    by_cases c : tx_gap (T i)
    · rw [pif_p c]; exact ih _ _ _ _
    · rw [pif_n c]
      refine Nat.le_trans ?_ (ih _ _ _ _)
      rw [List.length_append]
      by_cases c1 : b = 1
      · rw [if_pos c1]; exact Nat.le_add_right _ _
      · rw [if_neg c1]
        by_cases c2 : w = 0
        · rw [if_pos c2]; exact Nat.le_add_right _ _
        · rw [if_neg c2, List.length_append]; omega
theorem sc_word (T : Nat → Int32) : ∀ r i b w X, (∃ t, t < r ∧ ¬ tx_gap (T (i + t))) → 0 < (tx_sc T r i b w X).2.length := by
  intro r
  induction r with
  | zero => rintro i b w X ⟨t, ht, _⟩; exact absurd ht (Nat.not_lt_zero t)
  | succ r ih =>
    rintro i b w X ⟨t, ht, hg⟩
    rw [sc_s]
    by_cases c : tx_gap (T i)
    · rw [pif_p c]
      have h0 : t ≠ 0 := fun z => hg (by rw [z]; exact c)
      exact ih _ _ _ _ ⟨t - 1, by omega, by rw [show i + 1 + (t - 1) = i + t by omega]; exact hg⟩
    · rw [pif_n c]
      refine Nat.lt_of_lt_of_le ?_ (sc_grow T _ _ _ _ _)
      rw [List.length_append]
      exact Nat.lt_of_lt_of_le Nat.zero_lt_one (Nat.le_add_left _ _)
theorem eol_no (T : Nat → Int32) : ∀ k i t, i ≤ t → t < tx_eol T k i → ¬ T t = 10 := by
  intro k
  induction k with
  | zero => intro i t h1 h2; exact absurd h2 (by show ¬ t < i; omega)
  | succ k ih =>
    intro i t h1 h2
    unfold tx_eol at h2
    by_cases c : T i = 10
    · rw [if_pos c] at h2; omega
    · rw [if_neg c] at h2
      by_cases c2 : t = i
      · rw [c2]; exact c
      · exact ih (i + 1) t (by omega) h2
theorem ln_st (T : Nat → Int32) (n : Nat) : ∀ k i j, j < (tx_ln T n k i).length → ((tx_ln T n k i).getD j (0, 0)).1 < ((tx_ln T n k i).getD j (0, 0)).2 → ¬ tx_gap (T ((tx_ln T n k i).getD j (0, 0)).1) := by
  intro k
  induction k with
  | zero => intro i j hj; exact absurd hj (Nat.not_lt_zero j)
  | succ k ih =>
    intro i j hj
    by_cases h : i < n
    · have hz := tx_eol_le T (n - i) i
      have hno := eol_no T (n - i) i
      generalize ez : tx_eol T (n - i) i = z at hz hno
      have hy := tx_sk_le T (z - i) i
      have hsk := tx_sk_ne T (z - i) i
      generalize ey : tx_sk T (z - i) i = y at hy hsk
      have hx := tx_bk_le T (z - y) z (by omega)
      generalize ex : tx_bk T (z - y) z = x at hx
      rw [tx_ln_in h ez.symm ey.symm ex.symm] at hj ⊢
      cases j with
      | zero =>
        intro h1 h2
        have h1 : y < x := h1
        rcases h2 with h2 | h2
        · exact hsk (by omega) h2
        · exact hno y (by omega) (by omega) h2
      | succ j => exact ih (z + 1) j (by simpa using hj)
    · rw [tx_ln_out (by omega)] at hj
      exact absurd hj (Nat.not_lt_zero j)
def sumA : List A3 → Nat
  | [] => 0
  | x :: t => x.2.2.length + sumA t
theorem sumA_app (A B : List A3) : sumA (A ++ B) = sumA A + sumA B := by
  induction A with
  | nil => show sumA B = 0 + sumA B; omega
  | cons x t ih => show _ + sumA (t ++ B) = _ + sumA t + sumA B; rw [ih]; omega
theorem sumA_acE (Es : List E5) : sumA (acE Es) = txs Es := by
  induction Es with
  | nil => rfl
  | cons x t ih =>
    unfold acE at ih ⊢
    rw [List.map_cons, List.reverse_cons, sumA_app, ih]
    show txs t + (x.2.2.2.2.length + 0) = x.2.2.2.2.length + txs t
    omega
theorem acc_in {T : Nat → Int32} {L : List (Nat × Nat)} (hle : ∀ j, j < L.length → (L.getD j (0, 0)).1 ≤ (L.getD j (0, 0)).2) (hord : ∀ j, j + 1 < L.length → (L.getD j (0, 0)).2 + 1 ≤ (L.getD (j + 1) (0, 0)).1) (hst : ∀ j, j < L.length → (L.getD j (0, 0)).1 < (L.getD j (0, 0)).2 → ¬ tx_gap (T (L.getD j (0, 0)).1)) : ∀ j, j ≤ L.length → (∀ x, x ∈ tx_acc T L j → x.2.1 ≤ x.2.2.length ∧ 0 < x.2.2.length) ∧ (j = 0 → sumA (tx_acc T L j) = 0) ∧ (0 < j → sumA (tx_acc T L j) ≤ (L.getD (j - 1) (0, 0)).2) := by
  intro j
  induction j with
  | zero => intro _; exact ⟨fun x hx => absurd hx List.not_mem_nil, fun _ => rfl, fun h => absurd h (Nat.lt_irrefl 0)⟩
  | succ j ih =>
    intro hj
    have ih := ih (by omega)
    have h1 := hle j (by omega)
    have hprev : sumA (tx_acc T L j) ≤ (L.getD j (0, 0)).1 ∧ (0 < j → sumA (tx_acc T L j) + 1 ≤ (L.getD j (0, 0)).1) := by
      by_cases c : j = 0
      · have := ih.2.1 c
        exact ⟨by omega, fun h => by omega⟩
      · have h2 := ih.2.2 (by omega)
        have h3 := hord (j - 1) (by omega)
        rw [show j - 1 + 1 = j by omega] at h3
        exact ⟨by omega, fun _ => by omega⟩
    rw [show j + 1 - 1 = j by omega]
    by_cases hf : tx_free L j
    · rw [tx_acc_f hf]
      exact ⟨ih.1, fun h => by omega, fun _ => by omega⟩
    · have hlt : (L.getD j (0, 0)).1 < (L.getD j (0, 0)).2 := by
        have h4 : ¬ (L.getD j (0, 0)).1 = (L.getD j (0, 0)).2 := fun z => hf (Or.inr z)
        omega
      by_cases hm : tx_more T L j
      · rw [tx_acc_m hf hm]
        have hj1 := hm.1
        cases hac : tx_acc T L j with
        | nil => exact ⟨fun x hx => absurd hx List.not_mem_nil, fun h => by omega, fun _ => Nat.zero_le _⟩
        | cons x t =>
          rw [hac] at ih hprev
          have hx := ih.1 x List.mem_cons_self
          have h5 := tx_sc_len1 T ((L.getD j (0, 0)).2 - (L.getD j (0, 0)).1) (L.getD j (0, 0)).1 x.2.1 x.2.2 hx.1
          have h6 := sc_grow T ((L.getD j (0, 0)).2 - (L.getD j (0, 0)).1) (L.getD j (0, 0)).1 0 x.2.1 x.2.2
          have h7 : sumA (x :: t) = x.2.2.length + sumA t := rfl
          refine ⟨fun y hy => ?_, fun h => by omega, fun _ => ?_⟩
          · rcases List.mem_cons.mp hy with hy | hy
            · rw [hy]; exact ⟨h5.1, Nat.lt_of_lt_of_le hx.2 h6⟩
            · exact ih.1 y (List.mem_cons_of_mem _ hy)
          · show (tx_sc T ((L.getD j (0, 0)).2 - (L.getD j (0, 0)).1) (L.getD j (0, 0)).1 0 x.2.1 x.2.2).2.length + sumA t ≤ _
            have h8 := hprev.2 (by omega)
            omega
      · rw [tx_acc_n hf hm]
        have h5 := tx_sc_len0 T ((L.getD j (0, 0)).2 - (L.getD j (0, 0)).1) (L.getD j (0, 0)).1
        have h6 := sc_word T ((L.getD j (0, 0)).2 - (L.getD j (0, 0)).1) (L.getD j (0, 0)).1 0 0 [] ⟨0, by omega, by rw [Nat.add_zero]; exact hst j (by omega) hlt⟩
        refine ⟨fun y hy => ?_, fun h => by omega, fun _ => ?_⟩
        · rcases List.mem_cons.mp hy with hy | hy
          · rw [hy]; exact ⟨h5.1, h6⟩
          · exact ih.1 y hy
        · show (tx_sc T ((L.getD j (0, 0)).2 - (L.getD j (0, 0)).1) (L.getD j (0, 0)).1 0 0 []).2.length + sumA (tx_acc T L j) ≤ _
          omega
theorem acE_mem {Es : List E5} {e : Nat} (h : e < Es.length) : a3 (Es.getD e dE) ∈ acE Es := by
  unfold acE
  rw [List.mem_reverse]
  refine List.mem_map.mpr ⟨Es.getD e dE, ?_, rfl⟩
  rw [List.getD_eq_getElem?_getD, List.getElem?_eq_getElem h]
  exact List.getElem_mem _
/-- what read makes -/
theorem read_in {T : Nat → Int32} {n : Nat} {L : List (Nat × Nat)} {Es : List E5} (eL : L = tx_ln T n (n + 1) 0) (h : tx_acc T L L.length = acE Es) : txs Es ≤ n ∧ ∀ e, e < Es.length → 0 < eRw (Es.getD e dE) := by
  have ho := tx_ln_ord T n (n + 1) 0
  have hs := ln_st T n (n + 1) 0
  rw [← eL] at ho hs
  have h1 := acc_in (T := T) (fun j hj => (ho.1 j hj).2.1) ho.2 hs L.length (Nat.le_refl _)
  rw [h] at h1
  rw [sumA_acE] at h1
  refine ⟨?_, fun e he => rows_pos (h1.1 _ (acE_mem he)).2⟩
  by_cases c : L.length = 0
  · rw [h1.2.1 c]; exact Nat.zero_le _
  · have h2 := h1.2.2 (by omega)
    have h3 := (ho.1 (L.length - 1) (by omega)).2.2
    omega
theorem wd_iff {T : Nat → Int32} {n : Nat} : ∀ k i, i + k = n → (tx_wd T n k i ↔ ∃ j, i ≤ j ∧ j < n ∧ ¬ tx_gap (T j)) := by
  intro k
  induction k with
  | zero => intro i hi; exact ⟨fun h => h.elim, fun ⟨j, h1, h2, _⟩ => by omega⟩
  | succ k ih =>
    intro i hi
    have h1 := ih (i + 1) (by omega)
    refine ⟨fun h => ?_, fun ⟨j, h2, h3, h4⟩ => ?_⟩
    · rcases h with h | h
      · rw [tx_ta_in (by omega)] at h
        exact ⟨i, Nat.le_refl _, by omega, h⟩
      · obtain ⟨j, h2, h3, h4⟩ := h1.mp h
        exact ⟨j, by omega, h3, h4⟩
    · by_cases c : j = i
      · left
        rw [tx_ta_in (by omega), ← c]
        exact h4
      · right
        exact h1.mpr ⟨j, by omega, h3, h4⟩
theorem wd_ex {T : Nat → Int32} {n : Nat} : tx_wd T n n 0 ↔ ∃ j, j < n ∧ ¬ tx_gap (T j) := by
  rw [wd_iff n 0 (Nat.zero_add n)]
  exact ⟨fun ⟨j, _, h2, h3⟩ => ⟨j, h2, h3⟩, fun ⟨j, h2, h3⟩ => ⟨j, Nat.zero_le _, h2, h3⟩⟩
theorem insE_in {T : Nat → Int32} {n : Nat} {kd : Int32} {en : Nat} (h : ∃ j, j < n ∧ ¬ tx_gap (T j)) : 0 < eRw (insE T n kd en) ∧ (insE T n kd en).2.2.2.2.length ≤ n := by
  obtain ⟨j, h1, h2⟩ := h
  refine ⟨rows_pos (sc_word T n 0 0 0 [] ⟨j, h1, by rw [Nat.zero_add]; exact h2⟩), ?_⟩
  exact (tx_sc_len0 T n 0).2
/-- the state of the reference -/
def rS (I : Nat → Int32) (F : Nat → Nat → Int32) (T : Nat → Int32) (n : Nat) (Es : List E5) (sl : Nat → Nat) (P : List Q4) (mo lk gs : Nat) : Prop :=
  (F 0 = T ∧ I 1 = nI n ∧ I 2 = nI mo ∧ I 3 = nI Es.length ∧ I 14 = nI P.length ∧ I 20 = nI lk) ∧ (0 < lk → I 19 = nI gs) ∧ reR F Es sl ∧ pc_is P (F 15) (F 16) (F 17) (F 18)
theorem elF_x {F F2 : Nat → Nat → Int32} (h : fx F F2) {t : Nat} {x : E5} (h1 : elF F t x) : elF F2 t x := by
  obtain ⟨f0, f4, f5, f6, f7, f8, f9, f10, f11, f12, f13⟩ := h
  obtain ⟨a1, a2, a3, a4, a5, a6, a7, a8, a9, a10⟩ := h1
  exact ⟨by rw [f5]; exact a1, by rw [f6]; exact a2, by rw [f7]; exact a3, by rw [f8]; exact a4, by rw [f9]; exact a5, a6, by rw [f10]; exact a7, by rw [f11]; exact a8, by rw [f12, f13]; exact a9, a10⟩
theorem reR_x {F F2 : Nat → Nat → Int32} (h : fx F F2) {Es : List E5} {sl : Nat → Nat} (h1 : reR F Es sl) : reR F2 Es sl := by
  refine ⟨h1.1, fun e he => ⟨?_, (h1.2.1 e he).2.1, elF_x h (h1.2.1 e he).2.2⟩, h1.2.2.1, fun w hw => ?_⟩
  · rw [h.2.1]; exact (h1.2.1 e he).1
  · rw [h.2.2.1]; exact h1.2.2.2 w hw
theorem rS.sm {I I2 : Nat → Int32} {F F2 : Nat → Nat → Int32} {T : Nat → Int32} {n : Nat} {Es : List E5} {sl : Nat → Nat} {P : List Q4} {mo lk gs : Nat} (h : rS I F T n Es sl P mo lk gs) (hs : sm I I2 F F2) : rS I2 F2 T n Es sl P mo lk gs := by
  obtain ⟨⟨a0, a1, a2, a3, a4, a5⟩, b1, c1, c2⟩ := h
  obtain ⟨⟨i1, i2, i3⟩, ⟨j1, j2, j3⟩, hf, p1, p2, p3, p4⟩ := hs
  exact ⟨⟨hf.1.trans a0, i1.trans a1, i2.trans a2, i3.trans a3, j1.trans a4, j3.trans a5⟩, fun h9 => j2.trans (b1 h9), reR_x hf c1, by rw [p1, p2, p3, p4]; exact c2⟩
/-- read -/
theorem acE_at {Es : List E5} {i : Nat} (h : i < Es.length) : tx_at (acE Es) i = a3 (Es.getD i dE) := by
  unfold tx_at
  rw [acE_len]
  unfold acE
  rw [List.getD_eq_getElem?_getD, List.getElem?_reverse (by rw [List.length_map]; omega), List.length_map, List.getElem?_map, show Es.length - 1 - (Es.length - 1 - i) = i by omega, List.getElem?_eq_getElem h, List.getD_eq_getElem?_getD, List.getElem?_eq_getElem h]
  rfl
theorem rS.rd {I I2 : Nat → Int32} {F F2 : Nat → Nat → Int32} {T : Nat → Int32} {n : Nat} {Es Es2 : List E5} {sl : Nat → Nat} {P : List Q4} {mo lk gs gs2 : Nat} (h : rS I F T n Es sl P mo lk gs) (hr : rd_ok I I2 F F2 (acE Es2)) (hl : Es2.length ≤ 60) (hn : nmR Es2) : rS I2 F2 T 0 Es2 (fun e => e) (upP Es2 Es2.length) mo 0 gs2 := by
  obtain ⟨⟨a0, a1, a2, a3_, a4, a5⟩, b1, c1, c2⟩ := h
  obtain ⟨⟨r1, r2, r3, r4, r5⟩, r6, ⟨z, r7⟩, r8, r9, r10, r11⟩ := hr
  rw [acE_len] at r3 r4 r9 r10 r11
  have hel := fun e (he : e < Es2.length) => tx_el_at r7 e (by rw [acE_len]; exact he)
  refine ⟨⟨r6.trans a0, r1, r2.trans a2, r3, by rw [upP_len]; exact r4, r5⟩, fun h => absurd h (Nat.lt_irrefl 0), ⟨hl, fun e he => ?_, fun e f _ _ h => h, fun w hw => ?_⟩, ?_⟩
  · have h1 := hel e he
    have h2 := r10 e he
    have h3 := acE_at he
    rw [h3] at h1 h2
    have h4 := r8 _ (acE_mem he)
    exact ⟨h1.1, Nat.lt_of_lt_of_le he hl, h1.2.1, h1.2.2.1, h1.2.2.2.1.trans (hn e he).2.symm, h1.2.2.2.2.1, h1.2.2.2.2.2.1, h4, h1.2.2.2.2.2.2.2, h2.1, h2.2.1, h2.2.2⟩
  · by_cases c : w < Es2.length
    · exact Or.inr ⟨w, c, rfl⟩
    · exact Or.inl (r9 w (by omega) hw)
  · refine pc_up (fun i hi => ?_)
    have h1 := r11 i hi
    rw [acE_at hi] at h1
    exact h1
