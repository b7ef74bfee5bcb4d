theorem sc_s {T : Nat → Int32} {r i b w : Nat} {X : List Int32} : tx_sc T (r + 1) i b w X = pif (tx_gap (T i)) (tx_sc T r (i + 1) 0 w X) (tx_sc T r (i + 1) 1 (if b = 1 then w else w + 1) ((if b = 1 then X else if w = 0 then X else X ++ [32]) ++ [T i])) := rfl
theorem sc_cat (T : Nat → Int32) : ∀ r1 i b w X, ∃ b2, ∀ r2, tx_sc T (r1 + r2) i b w X = tx_sc T r2 (i + r1) b2 (tx_sc T r1 i b w X).1 (tx_sc T r1 i b w X).2 := by
  intro r1
  induction r1 with
  | zero => intro i b w X; exact ⟨b, fun r2 => by rw [Nat.zero_add]; rfl⟩
  | succ r1 ih =>
    intro i b w X
    by_cases h : tx_gap (T i)
    · obtain ⟨b2, h2⟩ := ih (i + 1) 0 w X
      refine ⟨b2, fun r2 => ?_⟩
      rw [show r1 + 1 + r2 = (r1 + r2) + 1 by omega, sc_s, pif_p h, sc_s, pif_p h, h2 r2, show i + 1 + r1 = i + (r1 + 1) by omega]
    · obtain ⟨b2, h2⟩ := ih (i + 1) 1 (if b = 1 then w else w + 1) ((if b = 1 then X else if w = 0 then X else X ++ [32]) ++ [T i])
      refine ⟨b2, fun r2 => ?_⟩
      rw [show r1 + 1 + r2 = (r1 + r2) + 1 by omega, sc_s, pif_n h, sc_s, pif_n h, h2 r2, show i + 1 + r1 = i + (r1 + 1) by omega]
theorem sc_gap (T : Nat → Int32) : ∀ g i b w X r, (∀ t, t < g → tx_gap (T (i + t))) → 0 < g → tx_sc T (g + r) i b w X = tx_sc T r (i + g) 0 w X := by
  intro g
  induction g with
  | zero => intro i b w X r _ h; exact absurd h (Nat.lt_irrefl 0)
  | succ g ih =>
    intro i b w X r hg _
    have h0 : tx_gap (T i) := hg 0 (by omega)
    rw [show g + 1 + r = (g + r) + 1 by omega, sc_s, pif_p h0]
    by_cases h1 : g = 0
    · rw [h1, Nat.zero_add]
    · rw [ih (i + 1) 0 w X r (fun t ht => by rw [show i + 1 + t = i + (t + 1) by omega]; exact hg (t + 1) (by omega)) (by omega), show i + 1 + g = i + (g + 1) by omega]
/-- lines that join are one range -/
theorem sc_app {T : Nat → Int32} {oF oT y x : Nat} (h1 : oF ≤ oT) (h2 : oT < y) (h3 : y ≤ x) (hg : ∀ t, oT ≤ t → t < y → tx_gap (T t)) : tx_sc T (x - oF) oF 0 0 [] = tx_sc T (x - y) y 0 (tx_sc T (oT - oF) oF 0 0 []).1 (tx_sc T (oT - oF) oF 0 0 []).2 := by
  obtain ⟨b2, h⟩ := sc_cat T (oT - oF) oF 0 0 []
  rw [show x - oF = (oT - oF) + ((y - oT) + (x - y)) by omega, h, show oF + (oT - oF) = oT by omega, sc_gap T (y - oT) oT b2 _ _ (x - y) (fun t ht => hg (oT + t) (by omega) (by omega)) (by omega), show oT + (y - oT) = y by omega]
theorem sk_all (T : Nat → Int32) : ∀ k a t, a ≤ t → t < tx_sk T k a → T t = 32 := by
  intro k
  induction k with
  | zero => intro a t h1 h2; exact absurd (Nat.lt_of_le_of_lt h1 h2) (Nat.lt_irrefl _)
  | succ k ih =>
    intro a t h1 h2
    by_cases h : T a = 32
    · rw [show tx_sk T (k + 1) a = tx_sk T k (a + 1) from if_pos h] at h2
      by_cases e : t = a
      · rw [e]; exact h
      · exact ih (a + 1) t (by omega) h2
    · rw [show tx_sk T (k + 1) a = a from if_neg h] at h2; omega
theorem bk_all_ (T : Nat → Int32) : ∀ k b t, tx_bk T k b ≤ t → t < b → T t = 32 := by
  intro k
  induction k with
  | zero => intro b t h1 h2; exact absurd (Nat.lt_of_lt_of_le h2 h1) (Nat.lt_irrefl _)
  | succ k ih =>
    intro b t h1 h2
    by_cases h : T (b - 1) = 32
    · rw [show tx_bk T (k + 1) b = tx_bk T k (b - 1) from if_pos h] at h1
      by_cases e : t = b - 1
      · rw [e]; exact h
      · exact ih (b - 1) t h1 (by omega)
    · rw [show tx_bk T (k + 1) b = b from if_neg h] at h1; omega
theorem eol_at (T : Nat → Int32) : ∀ k i, tx_eol T k i < i + k → T (tx_eol T k i) = 10 := by
  intro k
  induction k with
  | zero => intro i h; exact absurd h (Nat.lt_irrefl _)
  | succ k ih =>
    intro i h
    by_cases c : T i = 10
    · rw [show tx_eol T (k + 1) i = i from if_pos c]; exact c
    · rw [show tx_eol T (k + 1) i = tx_eol T k (i + 1) from if_neg c] at h ⊢
      exact ih (i + 1) (by omega)
/-- nothing but gaps from the end of a line's words to the next line -/
theorem ln_gap {T : Nat → Int32} {n nx e y x : Nat} (h : nx < n) (ee : e = tx_el2 T n nx) (ey : y = tx_sk T (e - nx) nx) (ex : x = tx_bk T (e - y) e) : ∀ t, x ≤ t → t < e + 1 → t < n → tx_gap (T t) := by
  intro t h1 h2 h3
  by_cases c : t < e
  · exact Or.inl (bk_all_ T (e - y) e t (by rw [← ex]; exact h1) c)
  · have e9 : t = e := by omega
    rw [tx_el2_in h] at ee
    have h4 := eol_at T (n - nx) nx (by omega)
    rw [← ee] at h4
    rw [e9]
    exact Or.inr h4
