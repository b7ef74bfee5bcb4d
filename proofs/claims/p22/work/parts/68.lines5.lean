theorem tx_bk_gt (T : Nat → Int32) : ∀ k b, k ≤ b → 0 < k → ¬ T (b - k) = 32 → b - k < tx_bk T k b := by
  intro k
  induction k with
  | zero => intro b _ h _; exact absurd h (Nat.lt_irrefl 0)
  | succ k ih =>
    intro b h1 _ h3
    by_cases h4 : T (b - 1) = 32
    · rw [show tx_bk T (k + 1) b = tx_bk T k (b - 1) from if_pos h4]
      by_cases h5 : k = 0
      · rw [h5] at h3; exact absurd h4 h3
      · have h6 := ih (b - 1) (by omega) (by omega) (by rw [show b - 1 - k = b - (k + 1) by omega]; exact h3)
        omega
    · rw [show tx_bk T (k + 1) b = b from if_neg h4]; omega
theorem tx_sk_ne (T : Nat → Int32) : ∀ k a, tx_sk T k a < a + k → ¬ T (tx_sk T k a) = 32 := by
  intro k
  induction k with
  | zero => intro a h; exact absurd h (Nat.lt_irrefl a)
  | succ k ih =>
    intro a h
    by_cases h4 : T a = 32
    · rw [show tx_sk T (k + 1) a = tx_sk T k (a + 1) from if_pos h4] at h ⊢
      exact ih (a + 1) (by omega)
    · rw [show tx_sk T (k + 1) a = a from if_neg h4]; exact h4
theorem ln_free {T : Nat → Int32} {e i y x : Nat} (hi : i ≤ e) (ey : y = tx_sk T (e - i) i) (ex : x = tx_bk T (e - y) e) : y = x ↔ tx_ab T (e - i) i := by
  have h1 := tx_sk_le T (e - i) i
  rw [← ey] at h1
  unfold tx_ab
  rw [← ey]
  constructor
  · intro h
    by_cases h2 : y < e
    · have h3 := tx_sk_ne T (e - i) i (by omega)
      rw [← ey] at h3
      have h4 := tx_bk_gt T (e - y) e (by omega) (by omega) (by rw [show e - (e - y) = y by omega]; exact h3)
      rw [← ex] at h4
      omega
    · omega
  · intro h
    rw [ex, show e - y = 0 by omega]
    show y = e
    omega
theorem dr_len {α : Type} {A B : List α} {a : α} {j : Nat} (h : A.drop j = a :: B) : j < A.length := by
  by_cases h1 : j < A.length
  · exact h1
  · rw [List.drop_eq_nil_of_le (by omega)] at h; cases h
theorem dr_nil {α : Type} {A : List α} {j : Nat} (h : A.drop j = []) : A.length ≤ j := by
  by_cases h1 : j < A.length
  · exact absurd h (dr_ne h1)
  · omega
/-- one line of the list -/
theorem ln_step {T : Nat → Int32} {n f nx j : Nat} {L : List (Nat × Nat)} (hdr : L.drop j = tx_ln T n f nx) (hf : n + 1 ≤ nx + f) (h : nx < n) : L.drop j = (tx_sk T (tx_el2 T n nx - nx) nx, tx_bk T (tx_el2 T n nx - tx_sk T (tx_el2 T n nx - nx) nx) (tx_el2 T n nx)) :: tx_ln T n (f - 1) (tx_el2 T n nx + 1) := by
  rw [hdr, show f = (f - 1) + 1 by omega, tx_ln_in h (tx_el2_in h).symm.symm rfl rfl, tx_el2_in h]
  rfl
theorem el2_ge {T : Nat → Int32} {n i : Nat} (h : i < n) : i ≤ tx_el2 T n i ∧ tx_el2 T n i ≤ n := by
  rw [tx_el2_in h]
  have := tx_eol_le T (n - i) i
  omega
theorem fb_free {T : Nat → Int32} {n f i j : Nat} {L : List (Nat × Nat)} (hdr : L.drop j = tx_ln T n f i) (hf : n + 1 ≤ i + f) : tx_fb T n i ↔ tx_free L j := by
  by_cases h : i < n
  · have h1 := ln_step hdr hf h
    have h2 := dr_len h1
    have h3 := dr_g (d := (0, 0)) h1
    have h4 := el2_ge (T := T) h
    have h5 := ln_free (T := T) h4.1 rfl rfl
    unfold tx_fb tx_free
    rw [h3, ← h5]
    constructor
    · intro z; exact Or.inr z
    · intro z
      rcases z with z | z
      · omega
      · exact z
  · have h1 : L.length ≤ j := dr_nil (by rw [hdr, tx_ln_out (by omega)])
    unfold tx_fb tx_free
    rw [tx_el2_out h, show n - i = 0 by omega]
    exact ⟨fun _ => Or.inl h1, fun _ => tx_ab_0 T i⟩
theorem tx_kd6 (T : Nat → Int32) (a b : Nat) (fa fb : Prop) (pk : Int32) : kd6 (tx_kd T a b fa fb pk) := by
  unfold tx_kd kd6
  by_cases h1 : tx_isbig T a b ∧ fa ∧ (tx_beg T a b 73 78 84 ∨ tx_beg T a b 69 88 84)
  · rw [pif_p h1]; exact Or.inl rfl
  · rw [pif_n h1]
    by_cases h2 : tx_isbig T a b ∧ fa ∧ fb ∧ T (b - 1) = 58
    · rw [pif_p h2]; exact Or.inr (Or.inl rfl)
    · rw [pif_n h2]
      by_cases h3 : tx_isbig T a b ∧ fa ∧ ¬ fb ∧ b - a ≤ 24
      · rw [pif_p h3]; exact Or.inr (Or.inr (Or.inl rfl))
      · rw [pif_n h3]
        by_cases h4 : ¬ fa ∧ ¬ pk < 2 ∧ ¬ 4 < pk
        · rw [pif_p h4]
          by_cases h5 : T a = 40 ∧ T (b - 1) = 41
          · rw [pif_p h5]; exact Or.inr (Or.inr (Or.inr (Or.inl rfl)))
          · rw [pif_n h5]; exact Or.inr (Or.inr (Or.inr (Or.inr (Or.inl rfl))))
        · rw [pif_n h4]; exact Or.inr (Or.inr (Or.inr (Or.inr (Or.inr rfl))))
theorem kd6_n {k : Int32} (h : kd6 k) : ¬ k = -1 := by
  rcases h with rfl | rfl | rfl | rfl | rfl | rfl <;> decide
theorem kd6_45 {k : Int32} (h : kd6 k) : (¬ k < 4 ∧ ¬ 5 < k) ↔ (k = 4 ∨ k = 5) := by
  rcases h with rfl | rfl | rfl | rfl | rfl | rfl <;> decide
theorem tx_k_c (T : Nat → Int32) (L : List (Nat × Nat)) : ∀ j, (tx_free L j ∧ tx_k T L j = -1) ∨ (¬ tx_free L j ∧ kd6 (tx_k T L j)) := by
  intro j
  cases j with
  | zero =>
    by_cases h : tx_free L 0
    · exact Or.inl ⟨h, pif_p h⟩
    · refine Or.inr ⟨h, ?_⟩
      rw [show tx_k T L 0 = _ from pif_n h]
      exact tx_kd6 _ _ _ _ _ _
  | succ l =>
    by_cases h : tx_free L (l + 1)
    · exact Or.inl ⟨h, pif_p h⟩
    · refine Or.inr ⟨h, ?_⟩
      rw [show tx_k T L (l + 1) = _ from pif_n h]
      exact tx_kd6 _ _ _ _ _ _
theorem tx_k_f {T : Nat → Int32} {L : List (Nat × Nat)} {j : Nat} : tx_k T L j = -1 ↔ tx_free L j := by
  rcases tx_k_c T L j with h | h
  · exact ⟨fun _ => h.1, fun _ => h.2⟩
  · exact ⟨fun z => absurd z (kd6_n h.2), fun z => absurd z h.1⟩
/-- the kind ahead of line j -/
noncomputable def ka_ (T : Nat → Int32) (L : List (Nat × Nat)) (j : Nat) : Int32 := if j = 0 then -1 else tx_k T L (j - 1)
theorem kc_k {T : Nat → Int32} {n nx j y x : Nat} {L : List (Nat × Nat)} {fb : Prop} (hj : j < L.length) (hg : L.getD j (0, 0) = (y, x)) (hyx : y ≤ x) (hfb : fb ↔ tx_free L (j + 1)) : tx_kc T y x (ka_ T L j) fb = tx_k T L j := by
  have hfr : tx_free L j ↔ ¬ y < x := by
    unfold tx_free
    rw [hg]
    constructor
    · intro z
      rcases z with z | z
      · omega
      · have z : y = x := z
        omega
    · intro z
      refine Or.inr ?_
      show y = x
      omega
  unfold tx_kc
  by_cases h : y < x
  · have hnf : ¬ tx_free L j := fun z => hfr.mp z h
    rw [if_pos h, propext hfb]
    cases j with
    | zero =>
      rw [show tx_k T L 0 = _ from pif_n hnf, hg]
      show tx_kd T y x ((-1 : Int32) = -1) _ (-1) = tx_kd T y x True _ (-1)
      rw [show ((-1 : Int32) = -1) = True from propext ⟨fun _ => trivial, fun _ => rfl⟩]
    | succ l =>
      rw [show tx_k T L (l + 1) = _ from pif_n hnf, hg]
      show tx_kd T y x (tx_k T L l = -1) _ (tx_k T L l) = tx_kd T y x (tx_free L l) _ (tx_k T L l)
      rw [propext (tx_k_f (T := T) (L := L) (j := l))]
  · rw [if_neg h]
    exact (tx_k_f.mpr (hfr.mpr h)).symm
theorem ka_more {T : Nat → Int32} {L : List (Nat × Nat)} {j : Nat} : (tx_k T L j = ka_ T L j ∧ (tx_k T L j = 4 ∨ tx_k T L j = 5)) ↔ (¬ tx_free L j ∧ tx_more T L j) := by
  unfold ka_ tx_more
  cases j with
  | zero =>
    refine ⟨fun z => ?_, fun z => absurd z.2.1 (by omega)⟩
    have z1 : tx_k T L 0 = -1 := z.1
    rw [z1] at z
    rcases z.2 with z2 | z2 <;> exact absurd z2 (by decide)
  | succ l =>
    show (tx_k T L (l + 1) = tx_k T L l ∧ _) ↔ (¬ tx_free L (l + 1) ∧ 1 ≤ l + 1 ∧ ¬ tx_free L l ∧ tx_k T L (l + 1) = tx_k T L l ∧ _)
    rcases tx_k_c T L (l + 1) with h | h
    · refine ⟨fun z => ?_, fun z => absurd h.1 z.1⟩
      rw [h.2] at z
      rcases z.2 with z2 | z2 <;> exact absurd z2 (by decide)
    · refine ⟨fun z => ⟨h.1, by omega, fun z3 => ?_, z.1, (kd6_45 h.2).mpr z.2⟩, fun z => ⟨z.2.2.2.1, (kd6_45 h.2).mp z.2.2.2.2⟩⟩
      exact kd6_n h.2 (z.1.trans (tx_k_f.mpr z3))
