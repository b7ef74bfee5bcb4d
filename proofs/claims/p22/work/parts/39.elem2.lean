def ck_nx (g : Nat → Int32) (n e : Nat) : Nat := if e < n ∧ g e = 32 then e + 1 else e
def ck_lay (wd : Nat) (g : Nat → Int32) (n : Nat) : Nat → Nat → List (Nat × Nat) → List (Nat × Nat)
  | 0, _, Rv => Rv
  | f + 1, k, Rv => if k < n then ck_lay wd g n f (ck_nx g n (ck_e g n wd k)) (ck_pr wd Rv k (ck_e g n wd k)) else Rv
theorem ck_lay_in {wd : Nat} {g : Nat → Int32} {n f k : Nat} {Rv : List (Nat × Nat)} (h : k < n) : ck_lay wd g n (f + 1) k Rv = ck_lay wd g n f (ck_nx g n (ck_e g n wd k)) (ck_pr wd Rv k (ck_e g n wd k)) := if_pos h
theorem ck_lay_out {wd : Nat} {g : Nat → Int32} {n f k : Nat} {Rv : List (Nat × Nat)} (h : n ≤ k) : ck_lay wd g n f k Rv = Rv := by
  cases f with
  | zero => rfl
  | succ f => exact if_neg (by omega)
theorem ck_lim_b {n wd k : Nat} (h : k < n) (hw : 1 ≤ wd) : k < ck_lim n wd k ∧ ck_lim n wd k ≤ n ∧ ck_lim n wd k ≤ k + wd := by
  unfold ck_lim
  by_cases c : k + wd < n
  · rw [if_pos c]; omega
  · rw [if_neg c]; omega
theorem ck_e_b (g : Nat → Int32) {n wd k : Nat} (h : k < n) (hw : 1 ≤ wd) : k ≤ ck_e g n wd k ∧ ck_e g n wd k ≤ n ∧ ck_e g n wd k - k ≤ wd ∧ ck_e g n wd k ≤ ck_lim n wd k := by
  have h1 := ck_lim_b h hw
  have h2 := ck_end_le g (ck_lim n wd k - k) k
  unfold ck_e
  omega
theorem ck_end_bl {g : Nat → Int32} : ∀ k i, ck_end g k i < i + k → g (ck_end g k i) = 32 := by
  intro k
  induction k with
  | zero => intro i h; exact absurd h (Nat.lt_irrefl _)
  | succ k ih =>
    intro i h
    unfold ck_end at h ⊢
    by_cases c : g i = 32
    · rw [if_pos c]; exact c
    · rw [if_neg c] at h ⊢
      exact ih (i + 1) (by omega)
theorem ck_end_nb {g : Nat → Int32} : ∀ k i j, i ≤ j → j < ck_end g k i → ¬ g j = 32 := by
  intro k
  induction k with
  | zero => intro i j h1 h2; exact absurd h2 (Nat.not_lt.mpr h1)
  | succ k ih =>
    intro i j h1 h2
    unfold ck_end at h2
    by_cases c : g i = 32
    · rw [if_pos c] at h2; exact absurd h2 (Nat.not_lt.mpr h1)
    · rw [if_neg c] at h2
      by_cases e : j = i
      · rw [e]; exact c
      · exact ih (i + 1) j (by omega) h2
/-- where a chunk begins behind what was laid -/
def ck_J (wd : Nat) (Rv : List (Nat × Nat)) (k : Nat) : Prop := ∀ x t, Rv = x :: t → k = x.1 + x.2 + 1 ∨ (k = x.1 + x.2 ∧ wd ≤ x.2)
theorem ck_pr_p {wd k e : Nat} {x : Nat × Nat} {t : List (Nat × Nat)} (c : e - x.1 ≤ wd) : ck_pr wd (x :: t) k e = (x.1, e - x.1) :: t := if_pos c
theorem ck_pr_g {wd k e : Nat} {x : Nat × Nat} {t : List (Nat × Nat)} (c : ¬ e - x.1 ≤ wd) : ck_pr wd (x :: t) k e = (k, e - k) :: x :: t := if_neg c
theorem tx_pt_p {wd k d : Nat} {x : Nat × Nat} {t : List (Nat × Nat)} (c : x.2 + 1 + d ≤ wd) : tx_pt wd (x :: t) k d = (x.1, x.2 + 1 + d) :: t := if_pos c
theorem tx_pt_g {wd k d : Nat} {x : Nat × Nat} {t : List (Nat × Nat)} (c : ¬ x.2 + 1 + d ≤ wd) : tx_pt wd (x :: t) k d = (k, d) :: x :: t := if_neg c
theorem ck_pr_pt {wd k e : Nat} {Rv : List (Nat × Nat)} (h : ck_J wd Rv k) (he : k ≤ e) (hne : k < e ∨ ∀ x t, Rv = x :: t → k = x.1 + x.2 + 1) : ck_pr wd Rv k e = tx_pt wd Rv k (e - k) := by
  cases Rv with
  | nil => rfl
  | cons x t =>
    rcases h x t rfl with h1 | ⟨h1, h2⟩
    · have e1 : e - x.1 = x.2 + 1 + (e - k) := by omega
      by_cases c : e - x.1 ≤ wd
      · rw [ck_pr_p c, tx_pt_p (by omega), e1]
      · rw [ck_pr_g c, tx_pt_g (by omega)]
    · have h3 : k < e := by
        rcases hne with h3 | h3
        · exact h3
        · have := h3 x t rfl; omega
      rw [ck_pr_g (by omega), tx_pt_g (by omega)]
/-- the next chunk's beginning, and what stands behind it -/
theorem ck_step {wd n k : Nat} {g : Nat → Int32} {Rv : List (Nat × Nat)} (hk : k < n) (hw : 20 ≤ wd) (hJ : ck_J wd Rv k) (hp : tx_pre wd k Rv) (h0 : k = ck_e g n wd k → ∀ x t, Rv = x :: t → k = x.1 + x.2 + 1) :
    ck_pr wd Rv k (ck_e g n wd k) = tx_pt wd Rv k (ck_e g n wd k - k) ∧ tx_rok wd (ck_e g n wd k) (ck_pr wd Rv k (ck_e g n wd k)) ∧ k < ck_nx g n (ck_e g n wd k) ∧
    (ck_nx g n (ck_e g n wd k) < n → tx_pre wd (ck_nx g n (ck_e g n wd k)) (ck_pr wd Rv k (ck_e g n wd k)) ∧ ck_J wd (ck_pr wd Rv k (ck_e g n wd k)) (ck_nx g n (ck_e g n wd k))) := by
  have hb := ck_e_b g hk (show 1 ≤ wd by omega)
  have hl := ck_lim_b hk (show 1 ≤ wd by omega)
  generalize ee : ck_e g n wd k = e at *
  have e1 : ck_pr wd Rv k e = tx_pt wd Rv k (e - k) := ck_pr_pt hJ hb.1 (by
    by_cases c : k < e
    · exact Or.inl c
    · exact Or.inr (h0 (by omega)))
  have h1 : tx_rok wd e (tx_pt wd Rv k (e - k)) := by
    have := tx_pre_p hp hb.2.2.1
    rw [show k + (e - k) = e by omega] at this
    exact this
  have hblank : e < ck_lim n wd k → g e = 32 := by
    intro h
    have h9 := ck_end_bl (g := g) (ck_lim n wd k - k) k
    unfold ck_e at ee
    rw [ee] at h9
    exact h9 (by omega)
  have hpt : ∀ (d : Nat) (x : Nat × Nat) (t : List (Nat × Nat)), tx_pt wd Rv k d = x :: t → x.1 + x.2 = k + d ∨ ∃ y s, Rv = y :: s ∧ y.2 + 1 + d ≤ wd ∧ x = (y.1, y.2 + 1 + d) := by
    intro d x t h
    cases Rv with
    | nil => cases h; exact Or.inl rfl
    | cons y s =>
      by_cases c : y.2 + 1 + d ≤ wd
      · rw [tx_pt_p c] at h; cases h; exact Or.inr ⟨y, _, rfl, c, rfl⟩
      · rw [tx_pt_g c] at h; cases h; exact Or.inl rfl
  have hend : ∀ (x : Nat × Nat) (t : List (Nat × Nat)), tx_pt wd Rv k (e - k) = x :: t → x.1 + x.2 = e := by
    intro x t h
    rcases hpt _ x t h with h2 | ⟨y, s, h2, h3, h4⟩
    · omega
    · subst h2
      rcases hJ y s rfl with h5 | ⟨h5, h6⟩
      · rw [h4]; show y.1 + (y.2 + 1 + (e - k)) = e; omega
      · omega
  refine ⟨e1, by rw [e1]; exact h1, ?_, ?_⟩
  · unfold ck_nx
    by_cases c : e < n ∧ g e = 32
    · rw [if_pos c]; omega
    · rw [if_neg c]
      have : ¬ e < ck_lim n wd k ∨ ¬ e < n := by
        by_cases c2 : e < ck_lim n wd k
        · exact Or.inr (fun c3 => c ⟨c3, hblank c2⟩)
        · exact Or.inl c2
      omega
  · intro hx
    rw [e1]
    unfold ck_nx at hx ⊢
    by_cases c : e < n ∧ g e = 32
    · rw [if_pos c] at hx ⊢
      refine ⟨tx_pre_n h1, fun x t h => Or.inl ?_⟩
      have := hend x t h
      omega
    · rw [if_neg c] at hx ⊢
      have c2 : ¬ e < ck_lim n wd k := fun c2 => c ⟨hx, hblank c2⟩
      have c3 : e = k + wd := by
        have : ck_lim n wd k = k + wd ∨ ck_lim n wd k = n := by
          unfold ck_lim
          by_cases c4 : k + wd < n
          · rw [if_pos c4]; exact Or.inl rfl
          · rw [if_neg c4]; exact Or.inr rfl
        omega
      have c5 : e - k = wd := by omega
      rw [c5]
      refine ⟨by rw [c3]; exact tx_pre_f hp, fun x t h => Or.inr ⟨?_, ?_⟩⟩
      · have := hend x t (by rw [c5]; exact h)
        omega
      · rcases hpt _ x t h with h2 | ⟨y, s, h2, h3, h4⟩
        · cases Rv with
          | nil => cases h; exact Nat.le_refl _
          | cons y s =>
            rw [tx_pt_g (by omega)] at h
            cases h; exact Nat.le_refl _
        · omega
theorem tx_ev_even (wd : Nat) : ∀ (Rv : List (Nat × Nat)), tx_ev wd Rv → Rv.length % 2 = 0
  | [], _ => rfl
  | [_], h => h.elim
  | x :: y :: t, h => by
    have := tx_ev_even wd t h.2
    show (t.length + 1 + 1) % 2 = 0
    omega
theorem tx_rok_M {wd k n : Nat} {Rv : List (Nat × Nat)} (h : tx_rok wd k Rv) (hk : k ≤ n) (hw : 20 ≤ wd) : Rv.length ≤ 2 * (n / 20) + 1 := by
  have key : ∀ (R2 : List (Nat × Nat)), tx_ev wd R2 → tx_sum R2 ≤ n → R2.length ≤ 2 * (n / 20) := by
    intro R2 h1 h2
    have h3 := tx_ev_len wd R2 h1
    have h4 := tx_ev_even wd R2 h1
    have h5 := Nat.mul_le_mul hw (Nat.le_refl R2.length)
    omega
  rcases h.2.2 with h1 | h1
  · have := key Rv h1 (Nat.le_trans h.1 hk); omega
  · cases Rv with
    | nil => exact h1.elim
    | cons x t =>
      have h2 : x.2 + tx_sum t ≤ k := h.1
      have := key t h1 (by omega)
      show t.length + 1 ≤ _
      omega
theorem ck_pr_len {wd k e : Nat} {Rv : List (Nat × Nat)} : (ck_pr wd Rv k e).length = Rv.length ∨ (ck_pr wd Rv k e).length = Rv.length + 1 := by
  cases Rv with
  | nil => exact Or.inr rfl
  | cons x t =>
    by_cases c : e - x.1 ≤ wd
    · rw [ck_pr_p c]; exact Or.inl rfl
    · rw [ck_pr_g c]; exact Or.inr rfl
/-- an empty chunk begins behind a blank -/
theorem ck_h0 {wd n k : Nat} {g : Nat → Int32} {Rv : List (Nat × Nat)} (hk : k < n) (hw : 20 ≤ wd) (hJ : ck_J wd Rv k) (hnb : ∀ x t, Rv = x :: t → k = x.1 + x.2 → ¬ g k = 32) : k = ck_e g n wd k → ∀ x t, Rv = x :: t → k = x.1 + x.2 + 1 := by
  intro h x t e
  rcases hJ x t e with h1 | ⟨h1, h2⟩
  · exact h1
  · have h3 := hnb x t e h1
    have hl := ck_lim_b hk (show 1 ≤ wd by omega)
    have h9 := ck_end_bl (g := g) (ck_lim n wd k - k) k
    unfold ck_e at h
    rw [← h] at h9
    exact absurd (h9 (by omega)) h3
/-- no blank at the place where a word was cut -/
def ck_nb (g : Nat → Int32) (Rv : List (Nat × Nat)) (k : Nat) : Prop := ∀ x t, Rv = x :: t → k = x.1 + x.2 → ¬ g k = 32
theorem ck_nb_s {wd n k : Nat} {g : Nat → Int32} {Rv : List (Nat × Nat)} (hx : ck_nx g n (ck_e g n wd k) < n) (hJ : ck_J wd (ck_pr wd Rv k (ck_e g n wd k)) (ck_nx g n (ck_e g n wd k))) (hend : ∀ x t, ck_pr wd Rv k (ck_e g n wd k) = x :: t → x.1 + x.2 = ck_e g n wd k) : ck_nb g (ck_pr wd Rv k (ck_e g n wd k)) (ck_nx g n (ck_e g n wd k)) := by
  intro x t h h2
  have h3 := hend x t h
  unfold ck_nx at hx h2 ⊢
  by_cases c : ck_e g n wd k < n ∧ g (ck_e g n wd k) = 32
  · rw [if_pos c] at h2; omega
  · rw [if_neg c] at hx ⊢
    exact fun z => c ⟨hx, z⟩
theorem ck_pr_end {wd k e : Nat} {Rv : List (Nat × Nat)} (hb : k ≤ e) (hx : ∀ x t, Rv = x :: t → x.1 ≤ e) : ∀ x t, ck_pr wd Rv k e = x :: t → x.1 + x.2 = e := by
  intro x t h
  cases Rv with
  | nil => cases h; show k + (e - k) = e; omega
  | cons y s =>
    have := hx y s rfl
    by_cases c : e - y.1 ≤ wd
    · rw [ck_pr_p c] at h; cases h; show y.1 + (e - y.1) = e; omega
    · rw [ck_pr_g c] at h; cases h; show k + (e - k) = e; omega
