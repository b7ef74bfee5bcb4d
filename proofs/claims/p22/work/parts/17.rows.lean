theorem tx_eow_c {g h : Nat → Int32} {b c n : Nat} (hg : ∀ i, i < n → g (b + i) = h (c + i)) : ∀ k i, i + k ≤ n → tx_eow g b k i = tx_eow h c k i := by
  intro k
  induction k with
  | zero => intro i _; rfl
  | succ k ih =>
    intro i hi
    unfold tx_eow
    rw [hg i (by omega)]
    by_cases e : h (c + i) = 32
    · rw [if_pos e, if_pos e]
    · rw [if_neg e, if_neg e]; exact ih (i + 1) (by omega)
theorem tx_lay_c {g h : Nat → Int32} {b c n wd : Nat} (hg : ∀ i, i < n → g (b + i) = h (c + i)) : ∀ f k Rv, tx_lay wd g b n f k Rv = tx_lay wd h c n f k Rv := by
  intro f
  induction f with
  | zero => intro k Rv; rfl
  | succ f ih =>
    intro k Rv
    by_cases hk : k < n
    · rw [tx_lay_in hk rfl (Prod.eta _), tx_lay_in hk rfl (Prod.eta _), tx_eow_c hg (n - k) k (by omega)]
      exact ih _ _
    · rw [tx_lay_out (by omega), tx_lay_out (by omega)]
/-- the rows of a text -/
def tx_rows (kd : Int32) (X : List Int32) : List (Nat × Nat) := tx_lay (tx_w kd) (fun i => X.getD i 0) 0 X.length X.length 0 []
/-- element number i of a list that has the last one first -/
def tx_at (ac : List (Int32 × Nat × List Int32)) (i : Nat) : Int32 × Nat × List Int32 := ac.getD (ac.length - 1 - i) (0, 0, [])
theorem tx_at_mem {ac : List (Int32 × Nat × List Int32)} {i : Nat} (h : i < ac.length) : tx_at ac i ∈ ac := by
  unfold tx_at
  rw [List.getD_eq_getElem?_getD, List.getElem?_eq_getElem (show ac.length - 1 - i < ac.length by omega)]
  exact List.getElem_mem _
theorem tx_el_at {f4 f5 f6 f7 f8 f9 f11 g : Nat → Int32} : ∀ {ac : List (Int32 × Nat × List Int32)}, tx_el f4 f5 f6 f7 f8 f9 f11 g ac → ∀ i, i < ac.length → f4 i = nI i ∧ f5 i = 1 ∧ f6 i = (tx_at ac i).1 ∧ f7 i = 0 ∧ f8 i = nI (tx_at ac i).2.1 ∧ f9 i = nI (tx_at ac i).2.2.length ∧ f11 i = 0 ∧ ∀ j, j < (tx_at ac i).2.2.length → g (1200 * i + j) = (tx_at ac i).2.2.getD j 0
  | [], _, i, hi => absurd hi (Nat.not_lt_zero i)
  | x :: t, h, i, hi => by
    have hl : (x :: t).length = t.length + 1 := rfl
    by_cases e : i = t.length
    · have ex : tx_at (x :: t) i = x := by
        unfold tx_at
        rw [show (x :: t).length - 1 - i = 0 by omega]
        rfl
      rw [ex, e]
      exact h.1
    · have ex : tx_at (x :: t) i = tx_at t i := by
        unfold tx_at
        rw [show (x :: t).length - 1 - i = (t.length - 1 - i) + 1 by omega]
        rfl
      rw [ex]
      exact tx_el_at h.2 i (by omega)
theorem tx_ln_ord (T : Nat → Int32) (n : Nat) : ∀ k i, (∀ j, j < (tx_ln T n k i).length → i ≤ ((tx_ln T n k i).getD j (0, 0)).1 ∧ ((tx_ln T n k i).getD j (0, 0)).1 ≤ ((tx_ln T n k i).getD j (0, 0)).2 ∧ ((tx_ln T n k i).getD j (0, 0)).2 ≤ n) ∧ ∀ j, j + 1 < (tx_ln T n k i).length → ((tx_ln T n k i).getD j (0, 0)).2 + 1 ≤ ((tx_ln T n k i).getD (j + 1) (0, 0)).1 := by
  intro k
  induction k with
  | zero => intro i; exact ⟨fun j hj => absurd hj (Nat.not_lt_zero j), fun j hj => absurd hj (Nat.not_lt_zero _)⟩
  | succ k ih =>
    intro i
    by_cases h : i < n
    · have hz := tx_eol_le T (n - i) i
      generalize ez : tx_eol T (n - i) i = z at hz
      have hy := tx_sk_le T (z - i) i
      generalize ey : tx_sk T (z - i) i = y at hy
      have hx := tx_bk_le T (z - y) z (by omega)
      generalize ex : tx_bk T (z - y) z = x at hx
      rw [tx_ln_in h ez.symm ey.symm ex.symm]
      have h1 := ih (z + 1)
      refine ⟨fun j hj => ?_, fun j hj => ?_⟩
      · cases j with
        | zero => exact ⟨by show i ≤ y; omega, by show y ≤ x; omega, by show x ≤ n; omega⟩
        | succ j =>
          have h2 := h1.1 j (by simpa using hj)
          exact ⟨by show i ≤ ((tx_ln T n k (z + 1)).getD j (0, 0)).1; omega, h2.2.1, h2.2.2⟩
      · cases j with
        | zero =>
          have h2 := h1.1 0 (by simpa using hj)
          show x + 1 ≤ ((tx_ln T n k (z + 1)).getD 0 (0, 0)).1
          omega
        | succ j => exact h1.2 j (by simpa using hj)
    · rw [tx_ln_out (by omega)]
      exact ⟨fun j hj => absurd hj (Nat.not_lt_zero j), fun j hj => absurd hj (Nat.not_lt_zero _)⟩
theorem tx_ln_ok {T : Nat → Int32} {n k i : Nat} (hn : n ≤ 1200) : tx_ok (tx_ln T n k i) := by
  refine ⟨Nat.le_trans (tx_ln_len T n k i) (by omega), fun j hj => ?_⟩
  have := (tx_ln_ord T n k i).1 j hj
  omega
theorem tx_rok_len2 {wd k : Nat} {Rv : List (Nat × Nat)} (h : tx_rok wd k Rv) (hk : k ≤ 1201) (hw : 20 ≤ wd) : Rv.length ≤ 121 := by
  have h1 := h.1
  rcases h.2.2 with h2 | h2
  · have h3 := tx_ev_len wd Rv h2
    have h4 : 20 * Rv.length ≤ wd * Rv.length := Nat.mul_le_mul_right _ hw
    omega
  · cases Rv with
    | nil => exact h2.elim
    | cons x t =>
      have h3 := tx_ev_len wd t h2
      have h4 : 20 * t.length ≤ wd * t.length := Nat.mul_le_mul_right _ hw
      have h5 : tx_sum (x :: t) = x.2 + tx_sum t := rfl
      show t.length + 1 ≤ 121
      omega
theorem tx_pre_b {wd n : Nat} {Rv : List (Nat × Nat)} (h : tx_pre wd (n + 1) Rv) : tx_rok wd (n + 1) Rv := h.1
/-- rows of the elements below j -/
def tx_rws (ac : List (Int32 × Nat × List Int32)) (j : Nat) (f11 f12 f13 : Nat → Int32) : Prop := ∀ i, i < j → f11 i = nI (tx_rows (tx_at ac i).1 (tx_at ac i).2.2).length ∧ tx_rv f12 f13 (131 * i) (tx_rows (tx_at ac i).1 (tx_at ac i).2.2) ∧ tx_pre (tx_w (tx_at ac i).1) ((tx_at ac i).2.2.length + 1) (tx_rows (tx_at ac i).1 (tx_at ac i).2.2)
theorem tx_rv_c {f12 f13 g12 g13 : Nat → Int32} {b : Nat} : ∀ {Rv : List (Nat × Nat)}, (∀ j, b ≤ j → j < b + Rv.length → g12 j = f12 j ∧ g13 j = f13 j) → tx_rv f12 f13 b Rv → tx_rv g12 g13 b Rv
  | [], _, _ => trivial
  | x :: t, h, h2 => by
    have hl : (x :: t).length = t.length + 1 := rfl
    have e := h (b + t.length) (by omega) (by omega)
    exact ⟨e.1.trans h2.1, e.2.trans h2.2.1, tx_rv_c (fun j h3 h4 => h j h3 (by omega)) h2.2.2⟩
theorem tx_rws_s {F : Nat → Nat → Int32} {ac : List (Int32 × Nat × List Int32)} {j : Nat} {f11 f12 f13 g11 g12 g13 : Nat → Int32} {Rv : List (Nat × Nat)} (h : tx_rws ac j f11 f12 f13) (hb : ∀ i, i < j + 1 → (tx_at ac i).2.2.length ≤ 1200) (h2 : tx_rs F j Rv g11 g12 g13) (e : Rv = tx_rows (tx_at ac j).1 (tx_at ac j).2.2) (hp : tx_pre (tx_w (tx_at ac j).1) ((tx_at ac j).2.2.length + 1) Rv) (e11 : F 11 = f11) (e12 : F 12 = f12) (e13 : F 13 = f13) : tx_rws ac (j + 1) g11 g12 g13 := by
  intro i hi
  by_cases hij : i = j
  · rw [hij, ← e]
    exact ⟨h2.1, h2.2.1, hp⟩
  · have h1 := h i (by omega)
    have hlen := tx_rok_len2 h1.2.2.1 (show (tx_at ac i).2.2.length + 1 ≤ 1201 by have := hb i hi; omega) (tx_w_in _).1
    refine ⟨?_, tx_rv_c (fun k a b => ?_) h1.2.1, h1.2.2⟩
    · rw [h2.2.2.1 i hij, e11]; exact h1.1
    · have := h2.2.2.2 k (by omega)
      rw [e12, e13] at this
      exact this
