/-- the pieces of an element stand one behind the other: element e is open at row a (0: none is) -/
def chL (Rw : Nat → Nat) : Nat → Nat → List Q4 → Prop
  | _, a, [] => a = 0
  | e, a, x :: t => (a = 0 → x.2.1 = 0) ∧ (0 < a → x.1 = e ∧ x.2.1 = a) ∧ (x.2.1 < x.2.2.1 ∧ x.2.2.1 ≤ Rw x.1) ∧ chL Rw x.1 (if x.2.2.1 = Rw x.1 then 0 else x.2.2.1) t
theorem chL_0 {Rw : Nat → Nat} {e e2 : Nat} : ∀ {P : List Q4}, chL Rw e 0 P → chL Rw e2 0 P
  | [], h => h
  | _ :: _, h => ⟨h.1, fun h9 => absurd h9 (Nat.lt_irrefl 0), h.2.2.1, h.2.2.2⟩
theorem chL_c {Rw Rw2 : Nat → Nat} : ∀ (P : List Q4) (e a : Nat), (∀ x, x ∈ P → Rw x.1 = Rw2 x.1) → chL Rw e a P → chL Rw2 e a P
  | [], _, _, _, h => h
  | x :: t, e, a, hr, h => by
    have h1 := hr x List.mem_cons_self
    obtain ⟨a1, a2, a3, a4⟩ := h
    rw [h1] at a3 a4
    exact ⟨a1, a2, a3, chL_c t _ _ (fun y hy => hr y (List.mem_cons_of_mem _ hy)) a4⟩
theorem chp_L {Rw : Nat → Nat} {f h : Nat} : ∀ (P : List Q4) (e a g : Nat), chp Rw e a g P f 0 h → chL Rw e a P
  | [], _, _, _, h1 => h1.2.1
  | x :: t, e, a, g, h1 => by
    obtain ⟨h1, h2, h3, h4, h5, h6⟩ := h1
    refine ⟨fun h9 => by omega, fun _ => ⟨h1, h2⟩, ⟨by omega, by rw [h1]; exact h4⟩, ?_⟩
    rw [h1]
    by_cases c : x.2.2.1 = Rw e
    · rw [if_pos c] at h6 ⊢
      exact chL_0 (chp_L t _ _ _ h6)
    · rw [if_neg c] at h6 ⊢
      exact chp_L t _ _ _ h6
theorem chL_f {Rw : Nat → Nat} (j : Nat) : ∀ (P : List Q4) (e a : Nat), chL Rw e a P → ((a = 0 ∨ e ≠ j) → chL Rw e a (P.filter (fun x => !decide (x.1 = j)))) ∧ (0 < a → e = j → ∀ e2, chL Rw e2 0 (P.filter (fun x => !decide (x.1 = j))))
  | [], e, a, h => ⟨fun _ => h, fun h1 _ => absurd h1 (by have h0 : a = 0 := h; omega)⟩
  | x :: t, e, a, h => by
    obtain ⟨h1, h2, h3, h4⟩ := h
    have ih := chL_f j t x.1 (if x.2.2.1 = Rw x.1 then 0 else x.2.2.1) h4
    by_cases c : x.1 = j
    · have hf : (x :: t).filter (fun x => !decide (x.1 = j)) = t.filter (fun x => !decide (x.1 = j)) := List.filter_cons_of_neg (by simp [c])
      rw [hf]
      have key : ∀ e2, chL Rw e2 0 (t.filter (fun x => !decide (x.1 = j))) := by
        intro e2
        by_cases c2 : x.2.2.1 = Rw x.1
        · rw [if_pos c2] at ih
          exact chL_0 (ih.1 (Or.inl rfl))
        · rw [if_neg c2] at ih
          exact ih.2 (by omega) c e2
      refine ⟨fun h9 => ?_, fun _ _ => key⟩
      have ha : a = 0 := by
        rcases h9 with h9 | h9
        · exact h9
        · rcases Nat.eq_zero_or_pos a with z | z
          · exact z
          · exact absurd ((h2 z).1.symm.trans c) h9
      rw [ha]
      exact key e
    · have hf : (x :: t).filter (fun x => !decide (x.1 = j)) = x :: t.filter (fun x => !decide (x.1 = j)) := List.filter_cons_of_pos (by simp [c])
      rw [hf]
      exact ⟨fun _ => ⟨h1, h2, h3, ih.1 (Or.inr c)⟩, fun h9 h8 => absurd ((h2 h9).1.trans h8) c⟩
theorem chL_i {Rw : Nat → Nat} {x : Q4} (hx : x.2.1 = 0 ∧ 0 < x.2.2.1 ∧ x.2.2.1 = Rw x.1) : ∀ (P : List Q4) (pl e a : Nat), chL Rw e a P → pl < P.length → (∀ i, pl < i → i < P.length → ¬ (P.getD i d4).1 = (P.getD pl d4).1) → chL Rw e a (P.take (pl + 1) ++ x :: P.drop (pl + 1))
  | [], pl, _, _, _, hp, _ => absurd hp (Nat.not_lt_zero pl)
  | y :: t, 0, e, a, h, _, hl => by
    show chL Rw e a (y :: x :: t)
    obtain ⟨h1, h2, h3, h4⟩ := h
    have h0 : (if y.2.2.1 = Rw y.1 then 0 else y.2.2.1) = 0 := by
      by_cases c : y.2.2.1 = Rw y.1
      · exact if_pos c
      · rw [if_neg c] at h4
        cases t with
        | nil => exact absurd (show y.2.2.1 = 0 from h4) (by omega)
        | cons z t => exact absurd (h4.2.1 (by omega)).1 (hl 1 (by omega) (by show 1 < t.length + 1 + 1; omega))
    rw [h0] at h4
    refine ⟨h1, h2, h3, ?_⟩
    rw [h0]
    exact ⟨fun _ => hx.1, fun h9 => absurd h9 (Nat.lt_irrefl 0), ⟨by omega, by omega⟩, by rw [if_pos hx.2.2]; exact chL_0 h4⟩
  | y :: t, pl + 1, e, a, h, hp, hl => by
    obtain ⟨h1, h2, h3, h4⟩ := h
    show chL Rw e a (y :: (t.take (pl + 1) ++ x :: t.drop (pl + 1)))
    exact ⟨h1, h2, h3, chL_i hx t pl _ _ h4 (by have hp : pl + 1 < t.length + 1 := hp; omega) (fun i h5 h6 => hl (i + 1) (by omega) (by show i + 1 < t.length + 1; omega))⟩
theorem chL_a {Rw : Nat → Nat} {x : Q4} (hx : x.2.1 = 0 ∧ 0 < x.2.2.1 ∧ x.2.2.1 = Rw x.1) : ∀ (P : List Q4) (e a : Nat), chL Rw e a P → chL Rw e a (P ++ [x])
  | [], _, a, h => ⟨fun _ => hx.1, fun h9 => absurd h9 (by have h0 : a = 0 := h; omega), ⟨by omega, by omega⟩, by rw [if_pos hx.2.2]; rfl⟩
  | y :: t, e, a, h => by
    show chL Rw e a (y :: (t ++ [x]))
    exact ⟨h.1, h.2.1, h.2.2.1, chL_a hx t _ _ h.2.2.2⟩
/-- what holds of the pieces -/
def chN (Es : List E5) (P : List Q4) : Prop := chL (fun e => eRw (Es.getD e dE)) 0 0 P
theorem chN_u {Es : List E5} (hp : ∀ e, e < Es.length → 0 < eRw (Es.getD e dE)) : ∀ n, n ≤ Es.length → chN Es (upP Es n) := by
  intro n
  induction n with
  | zero => intro _; rfl
  | succ n ih =>
    intro hn
    show chL (fun e => eRw (Es.getD e dE)) 0 0 (upP Es n ++ [(n, 0, eRw (Es.getD n dE), 0)])
    exact chL_a ⟨rfl, hp n (by omega), rfl⟩ _ _ _ (ih (by omega))
theorem chN_st {Es : List E5} {P : List Q4} {j : Nat} (h : chN Es P) : chN (stE Es j) (flI j P P.length) := by
  rw [flI_all]
  show chL (fun e => eRw ((stE Es j).getD e dE)) 0 0 _
  rw [sx_f (stE_sx Es j)]
  exact (chL_f j P 0 0 h).1 (Or.inl rfl)
theorem chN_ins {Es : List E5} {P : List Q4} {x : E5} {j pl g : Nat} (h : chN Es P) (hm : ∀ y, y ∈ P → y.1 < Es.length) (hx : 0 < eRw x) (hpl : pl < P.length) (hj : (P.getD pl d4).1 = j) (hl : ∀ i, pl < i → i < P.length → ¬ (P.getD i d4).1 = j) : chN (Es ++ [x]) (lsJ P (pl + 1) (Es.length, 0, eRw x, g)) := by
  unfold lsJ
  refine chL_i ⟨rfl, hx, ?_⟩ P pl 0 0 (chL_c P 0 0 (fun y hy => ?_) h) hpl (fun i h1 h2 => by rw [hj]; exact hl i h1 h2)
  · show eRw x = eRw ((Es ++ [x]).getD Es.length dE)
    rw [gd_r]
  · show eRw (Es.getD y.1 dE) = eRw ((Es ++ [x]).getD y.1 dE)
    rw [gd_l (hm y hy)]
theorem chL_1 {Rw : Nat → Nat} {e : Nat} : ∀ {P : List Q4}, chL Rw e 0 P → 0 < P.length → (P.getD 0 d4).2.1 = 0
  | [], _, h => absurd h (Nat.lt_irrefl 0)
  | _ :: _, h, _ => h.1 rfl
theorem chL_at {Rw : Nat → Nat} : ∀ (P : List Q4) (e a : Nat), chL Rw e a P → ∀ i, i < P.length → ((P.getD i d4).2.1 < (P.getD i d4).2.2.1 ∧ (P.getD i d4).2.2.1 ≤ Rw (P.getD i d4).1) ∧ ((P.getD i d4).2.2.1 = Rw (P.getD i d4).1 → i + 1 < P.length → (P.getD (i + 1) d4).2.1 = 0) ∧ (¬ (P.getD i d4).2.2.1 = Rw (P.getD i d4).1 → i + 1 < P.length ∧ (P.getD (i + 1) d4).1 = (P.getD i d4).1 ∧ (P.getD (i + 1) d4).2.1 = (P.getD i d4).2.2.1)
  | [], _, _, _, i, hi => absurd hi (Nat.not_lt_zero i)
  | x :: t, e, a, h, 0, _ => by
    have h3 := h.2.2.1
    have h4 := h.2.2.2
    refine ⟨h3, fun c h9 => ?_, fun c => ?_⟩
    · have c : x.2.2.1 = Rw x.1 := c
      rw [if_pos c] at h4
      cases t with
      | nil => exact absurd h9 (Nat.lt_irrefl 1)
      | cons z t => exact h4.1 rfl
    · have c : ¬ x.2.2.1 = Rw x.1 := c
      rw [if_neg c] at h4
      cases t with
      | nil => exact absurd (show x.2.2.1 = 0 from h4) (by omega)
      | cons z t =>
        have h5 := h4.2.1 (by omega)
        exact ⟨by show 1 < t.length + 1 + 1; omega, h5.1, h5.2⟩
  | x :: t, e, a, h, i + 1, hi => by
    have hi : i < t.length := by have hi : i + 1 < t.length + 1 := hi; omega
    have h1 := chL_at t _ _ h.2.2.2 i hi
    exact ⟨h1.1, fun c h9 => h1.2.1 c (by have h9 : i + 1 + 1 < t.length + 1 := h9; omega), fun c => ⟨by have := (h1.2.2 c).1; show i + 1 + 1 < t.length + 1; omega, (h1.2.2 c).2⟩⟩
def rsm (f : Nat → Nat) : Nat → Nat
  | 0 => 0
  | k + 1 => rsm f k + f k
theorem rsm_m (f : Nat → Nat) {a : Nat} : ∀ d, rsm f a ≤ rsm f (a + d) := by
  intro d
  induction d with
  | zero => exact Nat.le_refl _
  | succ d ih => show rsm f a ≤ rsm f (a + d) + f (a + d); omega
theorem rsm_mo (f : Nat → Nat) {a b : Nat} (h : a ≤ b) : rsm f a ≤ rsm f b := by
  have h1 := rsm_m f (a := a) (b - a)
  rw [show a + (b - a) = b by omega] at h1
  exact h1
theorem rsm_le {f : Nat → Nat} {c : Nat} : ∀ k, (∀ i, i < k → f i ≤ c) → rsm f k ≤ c * k := by
  intro k
  induction k with
  | zero => intro _; exact Nat.zero_le _
  | succ k ih =>
    intro h
    have h1 := ih (fun i hi => h i (by omega))
    have h2 := h k (by omega)
    show rsm f k + f k ≤ c * (k + 1)
    rw [Nat.mul_succ]
    omega
/-- rows that an element takes, with the empty one ahead -/
noncomputable def spE (x : E5) : Nat := eRw x + pb (¬ x.1 = 3 ∧ ¬ x.1 = 4)
noncomputable def spW (Es : List E5) (Rw : Nat → Nat) (i : Nat) : Nat := spE (Es.getD (Rw i) dE)
noncomputable def remP (Es : List E5) (P : List Q4) (t : Nat) : Nat := if t < P.length ∧ ¬ (P.getD t d4).2.1 = 0 then eRw (Es.getD (P.getD t d4).1 dE) - (P.getD t d4).2.1 else 0
theorem remP_0 {Es : List E5} {P : List Q4} {t : Nat} (h : t < P.length → (P.getD t d4).2.1 = 0) : remP Es P t = 0 := if_neg (fun z9 => z9.2 (h z9.1))
theorem remP_1 {Es : List E5} {P : List Q4} {t : Nat} (h1 : t < P.length) (h2 : ¬ (P.getD t d4).2.1 = 0) : remP Es P t = eRw (Es.getD (P.getD t d4).1 dE) - (P.getD t d4).2.1 := if_pos ⟨h1, h2⟩
theorem span_eq {Es : List E5} {P : List Q4} (h : chN Es P) : ∀ t, t ≤ P.length → pspan (fun e => Es.getD e dE) P t + remP Es P t = rsm (spW Es (fun j => (mgI P P.length).getD j 0)) (rho P t) := by
  intro t
  induction t with
  | zero =>
    intro _
    rw [remP_0 (chL_1 h)]
    rfl
  | succ t ih =>
    intro ht
    have ih := ih (by omega)
    obtain ⟨a1, a2, a3⟩ := chL_at P 0 0 h t (by omega)
    have a1 : (P.getD t d4).2.1 < (P.getD t d4).2.2.1 ∧ (P.getD t d4).2.2.1 ≤ eRw (Es.getD (P.getD t d4).1 dE) := a1
    have hn : remP Es P (t + 1) = eRw (Es.getD (P.getD t d4).1 dE) - (P.getD t d4).2.2.1 := by
      by_cases c : (P.getD t d4).2.2.1 = eRw (Es.getD (P.getD t d4).1 dE)
      · rw [remP_0 (fun h9 => a2 c h9)]; omega
      · obtain ⟨b1, b2, b3⟩ := a3 c
        rw [remP_1 b1 (by omega), b2, b3]
    show pspan (fun e => Es.getD e dE) P t + ((P.getD t d4).2.2.1 - (P.getD t d4).2.1) + pb (rp_he (Es.getD (P.getD t d4).1 dE).1 (P.getD t d4).2.1) + remP Es P (t + 1) = _
    rw [hn]
    by_cases c : (P.getD t d4).2.1 = 0
    · rw [remP_0 (fun _ => c)] at ih
      rw [rho_s c]
      show _ = rsm (spW Es (fun j => (mgI P P.length).getD j 0)) (rho P t) + spE (Es.getD ((mgI P P.length).getD (rho P t) 0) dE)
      rw [rho_at c (by omega), ← ih]
      have hp : pb (rp_he (Es.getD (P.getD t d4).1 dE).1 (P.getD t d4).2.1) = pb (¬ (Es.getD (P.getD t d4).1 dE).1 = 3 ∧ ¬ (Es.getD (P.getD t d4).1 dE).1 = 4) := by
        by_cases c2 : ¬ (Es.getD (P.getD t d4).1 dE).1 = 3 ∧ ¬ (Es.getD (P.getD t d4).1 dE).1 = 4
        · rw [pb_1 c2, pb_1 ⟨c2.1, c2.2, c⟩]
        · rw [pb_0 c2, pb_0 (fun z9 => c2 ⟨z9.1, z9.2.1⟩)]
      unfold spE
      omega
    · rw [remP_1 (by omega) c] at ih
      have hr : rho P (t + 1) = rho P t := by unfold rho; rw [mgI_0 c]
      rw [hr, ← ih, pb_0 (fun z9 => c z9.2.2)]
      omega
theorem remP_n {Es : List E5} {P : List Q4} : remP Es P P.length = 0 := remP_0 (fun h9 => absurd h9 (Nat.lt_irrefl _))
theorem span_at {Es : List E5} {P : List Q4} {s t : Nat} (h : chN Es P) (hb : bgs (fun e => Es.getD e dE) P P.length s t) : pspan (fun e => Es.getD e dE) P t = rsm (spW Es (fun j => (mgI P P.length).getD j 0)) (rho P t) := by
  have h1 := span_eq h t (bgR_le hb)
  have h2 : remP Es P t = 0 := by
    rcases hb with ⟨_, a2, _⟩ | ⟨a1, _⟩
    · exact remP_0 (fun _ => a2.1)
    · rw [a1]; exact remP_n
  omega
theorem pspan_upl (lk : Nat) (EE : Nat → E5) (P : List Q4) : ∀ t, pspan EE (upl lk P) t = pspan EE P t := by
  intro t
  induction t with
  | zero => rfl
  | succ t ih =>
    show pspan EE (upl lk P) t + (((upl lk P).getD t d4).2.2.1 - ((upl lk P).getD t d4).2.1) + pb (rp_he (EE ((upl lk P).getD t d4).1).1 ((upl lk P).getD t d4).2.1) = _
    rw [ih, (upl_1 lk P t).1, (upl_1 lk P t).2.1, (upl_1 lk P t).2.2]
    rfl
theorem nw_in {Es : List E5} {P : List Q4} {fm : Nat} : ∀ d, fm + d ≤ P.length → pcnt (nwq (fun e => Es.getD e dE) P fm) (fm + d) + pcnt (nwR Es (fun j => (mgI P P.length).getD j 0) (rho P fm)) (rho P fm) = pcnt (nwq (fun e => Es.getD e dE) P fm) fm + pcnt (nwR Es (fun j => (mgI P P.length).getD j 0) (rho P fm)) (rho P (fm + d)) := by
  intro d
  induction d with
  | zero => intro _; rw [Nat.add_zero]
  | succ d ih =>
    intro hd
    have ih := ih (by omega)
    show pcnt (nwq (fun e => Es.getD e dE) P fm) (fm + d + 1) + _ = _ + pcnt _ (rho P (fm + d + 1))
    by_cases c : (P.getD (fm + d) d4).2.1 = 0
    · have h7 := rho_at (n := P.length) c (by omega)
      have hq : nwq (fun e => Es.getD e dE) P fm (fm + d) ↔ nwR Es (fun j => (mgI P P.length).getD j 0) (rho P fm) (rho P (fm + d)) := by
        unfold nwq nwR
        rw [hp_in (n := P.length) (show fm + d ≤ P.length by omega)]
        show (bgq (fun e => Es.getD e dE) P 2 (fm + d) ∧ _) ↔ ((Es.getD ((mgI P P.length).getD (rho P (fm + d)) 0) dE).1 = 2 ∧ ¬ inR Es _ (Es.getD ((mgI P P.length).getD (rho P (fm + d)) 0) dE).2.2.2.2 _ _)
        rw [h7]
        exact ⟨fun z9 => ⟨z9.1.2, z9.2⟩, fun z9 => ⟨⟨c, z9.1⟩, z9.2⟩⟩
      rw [rho_s c]
      by_cases c2 : nwq (fun e => Es.getD e dE) P fm (fm + d)
      · rw [pcnt_1 c2, pcnt_1 (hq.mp c2)]; omega
      · rw [pcnt_0 c2, pcnt_0 (fun z9 => c2 (hq.mpr z9))]; omega
    · have hr : rho P (fm + d + 1) = rho P (fm + d) := by unfold rho; rw [mgI_0 c]
      rw [hr, pcnt_0 (fun z9 => c z9.1.1)]
      omega
theorem spW_1 {Es : List E5} {Rw : Nat → Nat} {i : Nat} (h3 : ¬ (Es.getD (Rw i) dE).1 = 3) (h4 : ¬ (Es.getD (Rw i) dE).1 = 4) : spW Es Rw i = eRw (Es.getD (Rw i) dE) + 1 := by
  unfold spW spE
  rw [pb_1 ⟨h3, h4⟩]
theorem spW_0 {Es : List E5} {Rw : Nat → Nat} {i : Nat} (h : (Es.getD (Rw i) dE).1 = 3 ∨ (Es.getD (Rw i) dE).1 = 4) : spW Es Rw i = eRw (Es.getD (Rw i) dE) := by
  unfold spW spE
  rw [pb_0 (fun z9 => h.elim z9.1 z9.2)]
  rfl
theorem sfR_in {Es : List E5} {Rw : Nat → Nat} {mr s z : Nat} (h : sfR Es Rw mr s z) (hs : s < hdC Es Rw mr) : z < mr := by
  rcases h with ⟨h1, _⟩ | ⟨_, h2⟩
  · exact h1
  · omega
theorem sfR_ex {Es : List E5} {Rw : Nat → Nat} {s : Nat} : ∀ mr, ∃ z, sfR Es Rw mr s z := by
  intro mr
  rcases Nat.lt_or_ge s (hdC Es Rw mr) with h | h
  · have key : ∀ k, s < hdC Es Rw k → ∃ z, z < k ∧ (Es.getD (Rw z) dE).1 = 0 ∧ hdC Es Rw z = s := by
      intro k
      induction k with
      | zero => intro h9; exact absurd h9 (Nat.not_lt_zero s)
      | succ k ih =>
        intro h9
        by_cases c : (Es.getD (Rw k) dE).1 = 0
        · rw [hdC_y c] at h9
          by_cases c2 : hdC Es Rw k = s
          · exact ⟨k, by omega, c, c2⟩
          · obtain ⟨z, a1, a2⟩ := ih (by omega)
            exact ⟨z, by omega, a2⟩
        · rw [hdC_n c] at h9
          obtain ⟨z, a1, a2⟩ := ih h9
          exact ⟨z, by omega, a2⟩
    obtain ⟨z, a1, a2⟩ := key mr h
    exact ⟨z, Or.inl ⟨a1, a2⟩⟩
  · exact ⟨mr, Or.inr ⟨rfl, h⟩⟩
theorem spW_b {F : Nat → Nat → Int32} {Es : List E5} {sl : Nat → Nat} {Rw : Nat → Nat} {mr : Nat} (hre : reR F Es sl) (hr : ∀ j, j < mr → Rw j < Es.length) (hm : mr ≤ 60) : ∀ z, z ≤ mr → rsm (spW Es Rw) z ≤ 7320 := by
  intro z hz
  have h1 := rsm_le (f := spW Es Rw) (c := 122) z (fun i hi => by
    have h2 := elF_rw (hre.2.1 _ (hr i (by omega))).2.2
    have h3 := pb_le (¬ (Es.getD (Rw i) dE).1 = 3 ∧ ¬ (Es.getD (Rw i) dE).1 = 4)
    unfold spW spE
    omega)
  omega
/-- scene: the answer -/
def scC (Es : List E5) (Rw : Nat → Nat) (mr mo : Nat) (x1 x2 r : Int32) : Prop := ((¬ (∃ s : Nat, s < hdC Es Rw mr ∧ x1 = nI s) ∨ x2 < 0 ∨ 4 < x2) ∧ r = (-2)) ∨ (∃ s y z : Nat, (s < hdC Es Rw mr ∧ x1 = nI s) ∧ (sfR Es Rw mr s y ∧ sfR Es Rw mr (s + 1) z) ∧ ((x2 = 0 ∧ r = nI (Rw y)) ∨ (x2 = 1 ∧ r = nI (pcnt (nwR Es Rw y) z - pcnt (nwR Es Rw y) y)) ∨ (x2 = 2 ∧ r = nI (rsm (spW Es Rw) z - rsm (spW Es Rw) y)) ∨ (x2 = 3 ∧ ∃ z0, sfR Es Rw mr 0 z0 ∧ r = nI (8 * (rsm (spW Es Rw) z - rsm (spW Es Rw) z0) / mo) - nI (8 * (rsm (spW Es Rw) y - rsm (spW Es Rw) z0) / mo)) ∨ (x2 = 4 ∧ r = nI (z - y))))
theorem scC_det {Es : List E5} {Rw : Nat → Nat} {mr mo : Nat} {x1 x2 r1 r2 : Int32} (hm : mr ≤ 60) (h1 : scC Es Rw mr mo x1 x2 r1) (h2 : scC Es Rw mr mo x1 x2 r2) : r1 = r2 := by
  have hc := hdC_le Es Rw mr
  have nob : ∀ {x : Int32}, (x = 0 ∨ x = 1 ∨ x = 2 ∨ x = 3 ∨ x = 4) → ¬ (x < 0 ∨ 4 < x) := fun {x} h => by
    rcases h with h | h | h | h | h <;> rw [h] <;> decide
  rcases h1 with ⟨a1, a2⟩ | ⟨s, y, z, a1, a2, a3⟩
  · rcases h2 with ⟨_, b2⟩ | ⟨t, u, v, b1, b2, b3⟩
    · rw [a2, b2]
    · exfalso
      rcases a1 with a1 | a1
      · exact a1 ⟨t, b1⟩
      · exact nob (b3.elim (fun h => Or.inl h.1) (fun h => h.elim (fun h => Or.inr (Or.inl h.1)) (fun h => h.elim (fun h => Or.inr (Or.inr (Or.inl h.1))) (fun h => h.elim (fun h => Or.inr (Or.inr (Or.inr (Or.inl h.1)))) (fun h => Or.inr (Or.inr (Or.inr (Or.inr h.1)))))))) a1
  · rcases h2 with ⟨b1, b2⟩ | ⟨t, u, v, b1, b2, b3⟩
    · exfalso
      rcases b1 with b1 | b1
      · exact b1 ⟨s, a1⟩
      · exact nob (a3.elim (fun h => Or.inl h.1) (fun h => h.elim (fun h => Or.inr (Or.inl h.1)) (fun h => h.elim (fun h => Or.inr (Or.inr (Or.inl h.1))) (fun h => h.elim (fun h => Or.inr (Or.inr (Or.inr (Or.inl h.1)))) (fun h => Or.inr (Or.inr (Or.inr (Or.inr h.1)))))))) b1
    · have e1 := q_eqn (a := s) (b := t) (by omega) (by omega) (a1.2.symm.trans b1.2)
      rw [e1] at a2
      have e2 := sfR_un a2.1 b2.1
      have e3 := sfR_un a2.2 b2.2
      rw [e2, e3] at a3
      rcases a3 with ⟨c1, c2⟩ | ⟨c1, c2⟩ | ⟨c1, c2⟩ | ⟨c1, z0, c3, c2⟩ | ⟨c1, c2⟩ <;> rcases b3 with ⟨d1, d2⟩ | ⟨d1, d2⟩ | ⟨d1, d2⟩ | ⟨d1, z9, d3, d2⟩ | ⟨d1, d2⟩ <;> first | exact absurd (c1.symm.trans d1) (by decide) | (rw [c2, d2, sfR_un c3 d3]) | (rw [c2, d2])
theorem sw_in4 {w : Int32} (h0 : ¬ w < 0) (h4 : ¬ 4 < w) (n0 : ¬ w = 0) (n1 : ¬ w = 1) (n2 : ¬ w = 2) (n3 : ¬ w = 3) : w = 4 := by
  rcases q_sw_0_4 w with h | h | h | h | h | h
  · exact absurd h n0
  · exact absurd h n1
  · exact absurd h n2
  · exact absurd h n3
  · exact h
  · have e0 : (0 : Int32).toInt = 0 := by decide
    have e4 : (4 : Int32).toInt = 4 := by decide
    rcases h with h | h
    · exact absurd (by rw [Int32.lt_iff_toInt_lt]; omega) h0
    · exact absurd (by rw [Int32.lt_iff_toInt_lt]; omega) h4
theorem sw_o4 {w : Int32} (h : w.toInt < 0 ∨ 4 < w.toInt) : w < 0 ∨ 4 < w := by
  have e0 : (0 : Int32).toInt = 0 := by decide
  have e4 : (4 : Int32).toInt = 4 := by decide
  rcases h with h | h
  · exact Or.inl (by rw [Int32.lt_iff_toInt_lt]; omega)
  · exact Or.inr (by rw [Int32.lt_iff_toInt_lt]; omega)

set_option maxHeartbeats 1000000 in
set_option maxRecDepth 100000 in
theorem lsp2_ {p : Program} {l : Launch} {e : Env} {R : Room} {s : State} {m : MethodId} {args : Array Value} {below : List Frame} {meth : Method} {c : Code} {cells slots : Nat} {Q : State → Prop} {D : va_G} {A : Nat → Prop} {h0 : Nat} {q : Nat → Nat} {cB cI cZ : ClassId} {I : Nat → Int32} {F : Nat → Nat → Int32} {Es : List E5} {sl : Nat → Nat} {mr : Nat} {Rw : Nat → Nat} {s1 z1 : Nat} (hs1 : s1 ≤ 99) (hre : reR F Es sl) (hI44 : I 44 = nI mr) (hm : mr ≤ 60) (hrow : ∀ j, j < mr → F 45 j = nI (Rw j) ∧ Rw j < Es.length) (hRf : 2 ≤ R.frames) (hRl : 60 ≤ R.locals) (hRc : cells ≤ R.cells) (hRs : slots ≤ R.slots) (hA : ∀ q : Nat, s.heap.size ≤ q → A q) (hf : CallFix p m c cX10_span 5 s args gT yX10_span.cls) (hK : va_K D vcl (mT cB cI cZ) s) :
    ∀ (k : Nat) (i : Nat) (v : Nat) (H : Heap) (locs : List Loc) (ls : Array Slot), i + k = mr → z1 ≤ i → (∀ z2, sfR Es Rw mr (s1 + 1) z2 → i ≤ z2) → v + rsm (spW Es Rw) z1 = rsm (spW Es Rw) i →  va_P D vcl (mW h0 q cB cI cZ I F) H → va_D A (mW h0 q cB cI cZ I F) → va_S A s.heap H locs → lv_has ls 5 [(3, .int (nI i)), (2, .int (nI v)), (1, .int (nI s1)), (0, .ref h0)] →
    (∀ (v : Nat) (z2 : Nat) (H : Heap) (locs : List Loc) (ls : Array Slot), sfR Es Rw mr (s1 + 1) z2 → v + rsm (spW Es Rw) z1 = rsm (spW Es Rw) z2 → va_P D vcl (mW h0 q cB cI cZ I F) H → va_D A (mW h0 q cB cI cZ I F) → va_S A s.heap H locs → lv_has ls 5 [(2, .int (nI v)), (0, .ref h0)] → W p l e R s m args below meth c H locs cells slots Q (F0 m 76 ls [])) →
    W p l e R s m args below meth c H locs cells slots Q (F0 m 8 ls []) := by
  obtain ⟨hx, hb, hml, hown, hts⟩ := id hf
  have hre1 := hre.1
  intro k
  induction k with
  | zero =>
    intro i v H locs ls hik hz1 hiz hv hP hD hS hl kk
    refine lv_iload_n hx hb dX10_span_8 rfl (lv_at hl 0 rfl) ?_
    refine lv_aload_n hx hb dX10_span_9 rfl (lv_at hl 3 rfl) ?_
    refine lv_iload_n hx hb dX10_span_10 rfl (lv_at hl 2 rfl) ?_
    refine lv_iconst (v := 1) hx hb dX10_span_11 (by decide) ?_
    refine lv_iadd hx hb dX10_span_12 ?_
    refine q_seti (y := nI (s1 + 1)) (nI_add s1 1) ?_
    refine q_ci (k := cells) (n := slots) hK hP hD hS hA (fun hPc hKc hDc => q_rV (As := [.int (nI (s1 + 1))]) (rest := [.int (nI i)]) hf (r_sceneF2 _ D h0 q cB cI cZ I F Es sl mr Rw (s1 + 1) (by omega) hre hI44 hm hrow _) k_1504 k_1501 k_1503 k_79 k_98 (nA := 1) (by decide +kernel) ⟨Nat.le_trans (by decide) hRf, Nat.le_trans (by decide) hRl⟩ hK hP (ci := 11) (q0 := 0) rfl rfl rfl hPc hKc hDc (fun _ _ _ _ h => h) (fun _ _ _ => trivial) rfl hl.1 rfl (Nat.le_of_ble_eq_true rfl) dX10_span_13 ⟨hRc, hRs⟩) (Nat.le_refl _) (Nat.le_refl _) (fun r u H locs hw hK hP hD hS => ?_)
    obtain ⟨z_1, rfl, hz_1s, rfl⟩ := hw
    have hP : va_P D vcl (mW h0 q cB cI cZ I F) H := hP
    have hD : va_D A (mW h0 q cB cI cZ I F) := hD
    have hz_1a := (sfR_le hz_1s).1
    refine lv_icmp_ge (tgt := 76) hx hb dX10_span_16 (by decide) (fun c_2 => ?_) (fun c_2 => ?_)
    · have c_2 := q_le (a := z_1) (b := i) (by omega) (by omega) c_2
      obtain rfl : i = z_1 := by have := hiz _ hz_1s; omega
      exact kk v i H locs ls hz_1s hv hP hD hS (lv_sub hl (l' := [(2, .int (nI v)), (0, .ref h0)]) [1, 3] rfl)
    · have c_2 := q_nle (a := z_1) (b := i) (by omega) (by omega) c_2
      exact absurd hik (by omega)
  | succ k ih =>
    intro i v H locs ls hik hz1 hiz hv hP hD hS hl kk
    refine lv_iload_n hx hb dX10_span_8 rfl (lv_at hl 0 rfl) ?_
    refine lv_aload_n hx hb dX10_span_9 rfl (lv_at hl 3 rfl) ?_
    refine lv_iload_n hx hb dX10_span_10 rfl (lv_at hl 2 rfl) ?_
    refine lv_iconst (v := 1) hx hb dX10_span_11 (by decide) ?_
    refine lv_iadd hx hb dX10_span_12 ?_
    refine q_seti (y := nI (s1 + 1)) (nI_add s1 1) ?_
    refine q_ci (k := cells) (n := slots) hK hP hD hS hA (fun hPc hKc hDc => q_rV (As := [.int (nI (s1 + 1))]) (rest := [.int (nI i)]) hf (r_sceneF2 _ D h0 q cB cI cZ I F Es sl mr Rw (s1 + 1) (by omega) hre hI44 hm hrow _) k_1504 k_1501 k_1503 k_79 k_98 (nA := 1) (by decide +kernel) ⟨Nat.le_trans (by decide) hRf, Nat.le_trans (by decide) hRl⟩ hK hP (ci := 11) (q0 := 0) rfl rfl rfl hPc hKc hDc (fun _ _ _ _ h => h) (fun _ _ _ => trivial) rfl hl.1 rfl (Nat.le_of_ble_eq_true rfl) dX10_span_13 ⟨hRc, hRs⟩) (Nat.le_refl _) (Nat.le_refl _) (fun r u H locs hw hK hP hD hS => ?_)
    obtain ⟨z_1, rfl, hz_1s, rfl⟩ := hw
    have hP : va_P D vcl (mW h0 q cB cI cZ I F) H := hP
    have hD : va_D A (mW h0 q cB cI cZ I F) := hD
    have hz_1a := (sfR_le hz_1s).1
    refine lv_icmp_ge (tgt := 76) hx hb dX10_span_16 (by decide) (fun c_2 => ?_) (fun c_2 => ?_)
    · have c_2 := q_le (a := z_1) (b := i) (by omega) (by omega) c_2
      obtain rfl : i = z_1 := by have := hiz _ hz_1s; omega
      exact kk v i H locs ls hz_1s hv hP hD hS (lv_sub hl (l' := [(2, .int (nI v)), (0, .ref h0)]) [1, 3] rfl)
    · have c_2 := q_nle (a := z_1) (b := i) (by omega) (by omega) c_2
      have hrj1 := (hrow i (by omega)).2
      have hsj1 := (hre.2.1 _ hrj1).2.1
      have hwj1 := elF_rw (hre.2.1 _ hrj1).2.2
      refine lv_aload_n hx hb dX10_span_19 rfl (lv_at hl 3 rfl) ?_
      refine va_get (D := D) (ci := 11) (v := .ref (q 4)) (C := RX10) (T := TX10) (N := 48) hx hb hts inX10 hown hK hP 0 rfl rfl 4 (by decide) (hts _ k_1148) (fun _ h9 => h9) rfl dX10_span_20 ?_
      refine lv_aload_n hx hb dX10_span_23 rfl (lv_at hl 3 rfl) ?_
      refine va_get (D := D) (ci := 11) (v := .ref (q 45)) (C := RX10) (T := TX10) (N := 48) hx hb hts inX10 hown hK hP 0 rfl rfl 45 (by decide) (hts _ k_1189) (fun _ h9 => h9) rfl dX10_span_24 ?_
      refine lv_iload_n hx hb dX10_span_27 rfl (lv_at hl 0 rfl) ?_
      refine q_ild (X := i) (f := (F 45)) hx hb hK hP 33 1 rfl rfl (by omega) (by decide) dX10_span_28 ?_
      refine q_seti (y := (nI ((Rw i)))) (hrow i (by omega)).1 ?_
      refine q_ild (X := (Rw i)) (f := (F 4)) hx hb hK hP 2 1 rfl rfl (by omega) (by decide) dX10_span_29 ?_
      refine q_seti (y := (nI ((sl ((Rw i)))))) (hre.2.1 ((Rw i)) (by omega)).1 ?_
      refine lv_istore (lv' := [(4, .int (nI ((sl ((Rw i)))))), (3, .int (nI i)), (2, .int (nI v)), (1, .int (nI s1)), (0, .ref h0)]) hx hb dX10_span_30 hl (by decide) rfl (fun ls hl => ?_)
      refine lv_iload_n hx hb dX10_span_32 rfl (lv_at hl 2 rfl) ?_
      refine lv_aload_n hx hb dX10_span_33 rfl (lv_at hl 4 rfl) ?_
      refine va_get (D := D) (ci := 11) (v := .ref (q 11)) (C := RX10) (T := TX10) (N := 48) hx hb hts inX10 hown hK hP 0 rfl rfl 11 (by decide) (hts _ k_1155) (fun _ h9 => h9) rfl dX10_span_34 ?_
      refine lv_iload hx hb dX10_span_37 (lv_at hl 0 rfl) ?_
      refine q_ild (X := (sl ((Rw i)))) (f := (F 11)) hx hb hK hP 9 1 rfl rfl (by omega) (by decide) dX10_span_39 ?_
      refine q_seti (y := (nI (eRw (Es.getD ((Rw i)) dE)))) (hre.2.1 ((Rw i)) (by omega)).2.2.2.2.2.2.2.2.2.1 ?_
      refine lv_aload_n hx hb dX10_span_40 rfl (lv_at hl 4 rfl) ?_
      refine va_get (D := D) (ci := 11) (v := .ref (q 6)) (C := RX10) (T := TX10) (N := 48) hx hb hts inX10 hown hK hP 0 rfl rfl 6 (by decide) (hts _ k_1150) (fun _ h9 => h9) rfl dX10_span_41 ?_
      refine lv_iload hx hb dX10_span_44 (lv_at hl 0 rfl) ?_
      refine q_ild (X := (sl ((Rw i)))) (f := (F 6)) hx hb hK hP 4 1 rfl rfl (by omega) (by decide) dX10_span_46 ?_
      refine q_seti (y := (Es.getD ((Rw i)) dE).1) (hre.2.1 ((Rw i)) (by omega)).2.2.2.1 ?_
      refine lv_iconst (v := 3) hx hb dX10_span_47 (by decide) ?_
      refine lv_icmp_eq (tgt := 62) hx hb dX10_span_48 (by decide) (fun c_3 => ?_) (fun c_3 => ?_)
      · refine lv_iconst (v := 0) hx hb dX10_span_62 (by decide) ?_
        refine lv_goto (tgt := 67) hx hb dX10_span_63 (by decide) ?_
        refine lv_iadd hx hb dX10_span_67 ?_
        refine q_seti (y := nI ((eRw (Es.getD ((Rw i)) dE)) + 0)) (nI_add (eRw (Es.getD ((Rw i)) dE)) 0) ?_
        refine lv_iadd hx hb dX10_span_68 ?_
        refine q_seti (y := nI (v + ((eRw (Es.getD ((Rw i)) dE)) + 0))) (nI_add v ((eRw (Es.getD ((Rw i)) dE)) + 0)) ?_
        refine lv_istore_n (lv' := [(2, .int (nI (v + ((eRw (Es.getD ((Rw i)) dE)) + 0)))), (4, .int (nI ((sl ((Rw i)))))), (3, .int (nI i)), (1, .int (nI s1)), (0, .ref h0)]) hx hb dX10_span_69 rfl hl (by decide) rfl (fun ls hl => ?_)
        refine lv_iinc (v := (nI (i + 1))) (lv' := [(3, .int (nI (i + 1))), (2, .int (nI (v + ((eRw (Es.getD ((Rw i)) dE)) + 0)))), (4, .int (nI ((sl ((Rw i)))))), (1, .int (nI s1)), (0, .ref h0)]) hx hb dX10_span_70 hl (k := 2) rfl (nI_add i 1) (by decide) rfl (fun ls hl => ?_)
        refine lv_goto (tgt := 8) hx hb dX10_span_73 (by decide) ?_
        have hs9 := spW_0 (Es := Es) (Rw := Rw) (i := i) (Or.inl c_3)
        have hs8 : rsm (spW Es Rw) (i + 1) = rsm (spW Es Rw) i + spW Es Rw i := rfl
        exact ih (i + 1) (v + ((eRw (Es.getD ((Rw i)) dE)) + 0)) H locs ls (by omega) (by omega) (fun z9 h9 => by have := sfR_un hz_1s h9; omega) (by omega) hP hD hS (lv_sub hl (l' := [(3, .int (nI (i + 1))), (2, .int (nI (v + ((eRw (Es.getD ((Rw i)) dE)) + 0)))), (1, .int (nI s1)), (0, .ref h0)]) [0, 1, 3, 4] rfl) kk
      · refine lv_aload_n hx hb dX10_span_51 rfl (lv_at hl 4 rfl) ?_
        refine va_get (D := D) (ci := 11) (v := .ref (q 6)) (C := RX10) (T := TX10) (N := 48) hx hb hts inX10 hown hK hP 0 rfl rfl 6 (by decide) (hts _ k_1150) (fun _ h9 => h9) rfl dX10_span_52 ?_
        refine lv_iload hx hb dX10_span_55 (lv_at hl 0 rfl) ?_
        refine q_ild (X := (sl ((Rw i)))) (f := (F 6)) hx hb hK hP 4 1 rfl rfl (by omega) (by decide) dX10_span_57 ?_
        refine q_seti (y := (Es.getD ((Rw i)) dE).1) (hre.2.1 ((Rw i)) (by omega)).2.2.2.1 ?_
        refine lv_iconst (v := 4) hx hb dX10_span_58 (by decide) ?_
        refine lv_icmp_ne (tgt := 66) hx hb dX10_span_59 (by decide) (fun c_4 => ?_) (fun c_4 => ?_)
        · refine lv_iconst (v := 1) hx hb dX10_span_66 (by decide) ?_
          refine lv_iadd hx hb dX10_span_67 ?_
          refine q_seti (y := nI ((eRw (Es.getD ((Rw i)) dE)) + 1)) (nI_add (eRw (Es.getD ((Rw i)) dE)) 1) ?_
          refine lv_iadd hx hb dX10_span_68 ?_
          refine q_seti (y := nI (v + ((eRw (Es.getD ((Rw i)) dE)) + 1))) (nI_add v ((eRw (Es.getD ((Rw i)) dE)) + 1)) ?_
          refine lv_istore_n (lv' := [(2, .int (nI (v + ((eRw (Es.getD ((Rw i)) dE)) + 1)))), (4, .int (nI ((sl ((Rw i)))))), (3, .int (nI i)), (1, .int (nI s1)), (0, .ref h0)]) hx hb dX10_span_69 rfl hl (by decide) rfl (fun ls hl => ?_)
          refine lv_iinc (v := (nI (i + 1))) (lv' := [(3, .int (nI (i + 1))), (2, .int (nI (v + ((eRw (Es.getD ((Rw i)) dE)) + 1)))), (4, .int (nI ((sl ((Rw i)))))), (1, .int (nI s1)), (0, .ref h0)]) hx hb dX10_span_70 hl (k := 2) rfl (nI_add i 1) (by decide) rfl (fun ls hl => ?_)
          refine lv_goto (tgt := 8) hx hb dX10_span_73 (by decide) ?_
          have hs9 := spW_1 (Es := Es) (Rw := Rw) (i := i) c_3 c_4
          have hs8 : rsm (spW Es Rw) (i + 1) = rsm (spW Es Rw) i + spW Es Rw i := rfl
          exact ih (i + 1) (v + ((eRw (Es.getD ((Rw i)) dE)) + 1)) H locs ls (by omega) (by omega) (fun z9 h9 => by have := sfR_un hz_1s h9; omega) (by omega) hP hD hS (lv_sub hl (l' := [(3, .int (nI (i + 1))), (2, .int (nI (v + ((eRw (Es.getD ((Rw i)) dE)) + 1)))), (1, .int (nI s1)), (0, .ref h0)]) [0, 1, 3, 4] rfl) kk
        · refine lv_iconst (v := 0) hx hb dX10_span_62 (by decide) ?_
          refine lv_goto (tgt := 67) hx hb dX10_span_63 (by decide) ?_
          refine lv_iadd hx hb dX10_span_67 ?_
          refine q_seti (y := nI ((eRw (Es.getD ((Rw i)) dE)) + 0)) (nI_add (eRw (Es.getD ((Rw i)) dE)) 0) ?_
          refine lv_iadd hx hb dX10_span_68 ?_
          refine q_seti (y := nI (v + ((eRw (Es.getD ((Rw i)) dE)) + 0))) (nI_add v ((eRw (Es.getD ((Rw i)) dE)) + 0)) ?_
          refine lv_istore_n (lv' := [(2, .int (nI (v + ((eRw (Es.getD ((Rw i)) dE)) + 0)))), (4, .int (nI ((sl ((Rw i)))))), (3, .int (nI i)), (1, .int (nI s1)), (0, .ref h0)]) hx hb dX10_span_69 rfl hl (by decide) rfl (fun ls hl => ?_)
          refine lv_iinc (v := (nI (i + 1))) (lv' := [(3, .int (nI (i + 1))), (2, .int (nI (v + ((eRw (Es.getD ((Rw i)) dE)) + 0)))), (4, .int (nI ((sl ((Rw i)))))), (1, .int (nI s1)), (0, .ref h0)]) hx hb dX10_span_70 hl (k := 2) rfl (nI_add i 1) (by decide) rfl (fun ls hl => ?_)
          refine lv_goto (tgt := 8) hx hb dX10_span_73 (by decide) ?_
          have hs9 := spW_0 (Es := Es) (Rw := Rw) (i := i) (Or.inr c_4)
          have hs8 : rsm (spW Es Rw) (i + 1) = rsm (spW Es Rw) i + spW Es Rw i := rfl
          exact ih (i + 1) (v + ((eRw (Es.getD ((Rw i)) dE)) + 0)) H locs ls (by omega) (by omega) (fun z9 h9 => by have := sfR_un hz_1s h9; omega) (by omega) hP hD hS (lv_sub hl (l' := [(3, .int (nI (i + 1))), (2, .int (nI (v + ((eRw (Es.getD ((Rw i)) dE)) + 0)))), (1, .int (nI s1)), (0, .ref h0)]) [0, 1, 3, 4] rfl) kk
set_option maxHeartbeats 1000000 in
set_option maxRecDepth 100000 in
theorem r_span2 (l : Launch) (D : va_G) (h0 : Nat) (q : Nat → Nat) (cB cI_ cZ : ClassId) (I : Nat → Int32) (F : Nat → Nat → Int32) (Es : List E5) (sl : Nat → Nat) (mr : Nat) (Rw : Nat → Nat) (s1 : Nat) (hs1 : s1 ≤ 99) (hre : reR F Es sl) (hI44 : I 44 = nI mr) (hm : mr ≤ 60) (hrow : ∀ j, j < mr → F 45 j = nI (Rw j) ∧ Rw j < Es.length) : cI l D yX10_span cX10_span 5 (some .int) 2 60 0 0 [.ref h0, .int (nI s1)] zT (mW h0 q cB cI_ cZ I F) (mT cB cI_ cZ) (fun r u => ∃ (y z : Nat), r = nI (rsm (spW Es Rw) z - rsm (spW Es Rw) y) ∧ sfR Es Rw mr s1 y ∧ sfR Es Rw mr (s1 + 1) z ∧ u = (mW h0 q cB cI_ cZ I F, mT cB cI_ cZ)) := by
  refine q_si (by decide) (Nat.le_of_ble_eq_true rfl) ?_
  intro p e s m below meth c A ls hAe hf hr hlocks hin hK hP hD hS hA hZ hl
  obtain ⟨hx, hb, hml, hown, hts⟩ := id hf
  have hl : lv_has ls 5 [(0, .ref h0), (1, .int (nI s1))] := hl
  refine lv_iconst (v := 0) hx hb dX10_span_0 (by decide) ?_
  refine lv_istore_n (lv' := [(2, .int 0), (0, .ref h0), (1, .int (nI s1))]) hx hb dX10_span_1 rfl hl (by decide) rfl (fun ls hl => ?_)
  refine lv_aload_n hx hb dX10_span_2 rfl (lv_at hl 1 rfl) ?_
  refine lv_iload_n hx hb dX10_span_3 rfl (lv_at hl 2 rfl) ?_
  refine q_ci (k := 0) (n := 0) hK hP hD hS hA (fun hPc hKc hDc => q_rV (As := [.int (nI s1)]) (rest := []) hf (r_sceneF2 _ D h0 q cB cI_ cZ I F Es sl mr Rw s1 (by omega) hre hI44 hm hrow _) k_1504 k_1501 k_1503 k_79 k_98 (nA := 1) (by decide +kernel) ⟨Nat.le_of_ble_eq_true rfl, Nat.le_of_ble_eq_true rfl⟩ hK hP (ci := 11) (q0 := 0) rfl rfl rfl hPc hKc hDc (fun _ _ _ _ h => h) (fun _ _ _ => trivial) rfl hl.1 rfl (Nat.le_of_ble_eq_true rfl) dX10_span_4 ⟨Nat.le_of_ble_eq_true rfl, Nat.le_of_ble_eq_true rfl⟩) (by decide) (by decide) (fun r u H locs hw hK hP hD hS => ?_)
  obtain ⟨z_1, rfl, hz_1s, rfl⟩ := hw
  have hP : va_P D vcl (mW h0 q cB cI_ cZ I F) H := hP
  have hD : va_D A (mW h0 q cB cI_ cZ I F) := hD
  have hz_1a := (sfR_le hz_1s).1
  refine lv_istore_n (lv' := [(3, .int (nI z_1)), (2, .int 0), (0, .ref h0), (1, .int (nI s1))]) hx hb dX10_span_7 rfl hl (by decide) rfl (fun ls hl => ?_)
  refine lsp2_ (Es := Es) (sl := sl) (mr := mr) (Rw := Rw) (s1 := s1) (z1 := z_1) hs1 hre hI44 hm hrow (Nat.le_of_ble_eq_true rfl) (Nat.le_of_ble_eq_true rfl) (Nat.le_of_ble_eq_true rfl) (Nat.le_of_ble_eq_true rfl) hA hf hK (mr - z_1) z_1 0 _ _ ls (by omega) (Nat.le_refl _) (fun z9 h9 => sfR_lt hz_1s h9 (Nat.le_succ _)) (Nat.zero_add _) hP hD hS (lv_sub hl (l' := [(3, .int (nI z_1)), (2, .int 0), (1, .int (nI s1)), (0, .ref h0)]) [0, 1, 3, 2] rfl) (fun v z2 H locs ls a1 a2 hP hD hS hl => ?_)
  refine lv_iload_n hx hb dX10_span_76 rfl (lv_at hl 0 rfl) ?_
  exact q_zi hf hr rfl hlocks hK hP hD hS (Nat.le_of_ble_eq_true rfl) (Nat.le_of_ble_eq_true rfl) ⟨z_1, z2, congrArg nI (by omega), hz_1s, a1, rfl⟩ dX10_span_77
set_option maxHeartbeats 1000000 in
set_option maxRecDepth 100000 in
theorem lei2_ {p : Program} {l : Launch} {e : Env} {R : Room} {s : State} {m : MethodId} {args : Array Value} {below : List Frame} {meth : Method} {c : Code} {cells slots : Nat} {Q : State → Prop} {D : va_G} {A : Nat → Prop} {h0 : Nat} {q : Nat → Nat} {cB cI cZ : ClassId} {I : Nat → Int32} {F : Nat → Nat → Int32} {Es : List E5} {sl : Nat → Nat} {mr : Nat} {Rw : Nat → Nat} {s1 z0 : Nat} (hs1 : s1 ≤ 99) (hre : reR F Es sl) (hI44 : I 44 = nI mr) (hm : mr ≤ 60) (hrow : ∀ j, j < mr → F 45 j = nI (Rw j) ∧ Rw j < Es.length) (hRf : 3 ≤ R.frames) (hRl : 90 ≤ R.locals) (hRc : cells ≤ R.cells) (hRs : slots ≤ R.slots) (hA : ∀ q : Nat, s.heap.size ≤ q → A q) (hf : CallFix p m c cX10_eighths 4 s args gT yX10_eighths.cls) (hK : va_K D vcl (mT cB cI cZ) s) :
    ∀ (k : Nat) (i : Nat) (v : Nat) (zi : Nat) (H : Heap) (locs : List Loc) (ls : Array Slot), i + k = s1 → sfR Es Rw mr i zi → v + rsm (spW Es Rw) z0 = rsm (spW Es Rw) zi →  va_P D vcl (mW h0 q cB cI cZ I F) H → va_D A (mW h0 q cB cI cZ I F) → va_S A s.heap H locs → lv_has ls 4 [(3, .int (nI i)), (2, .int (nI v)), (1, .int (nI s1)), (0, .ref h0)] →
    (∀ (v : Nat) (zi : Nat) (H : Heap) (locs : List Loc) (ls : Array Slot), sfR Es Rw mr s1 zi → v + rsm (spW Es Rw) z0 = rsm (spW Es Rw) zi → va_P D vcl (mW h0 q cB cI cZ I F) H → va_D A (mW h0 q cB cI cZ I F) → va_S A s.heap H locs → lv_has ls 4 [(2, .int (nI v)), (1, .int (nI s1)), (0, .ref h0)] → W p l e R s m args below meth c H locs cells slots Q (F0 m 23 ls [])) →
    W p l e R s m args below meth c H locs cells slots Q (F0 m 4 ls []) := by
  obtain ⟨hx, hb, hml, hown, hts⟩ := id hf
  intro k
  induction k with
  | zero =>
    intro i v zi H locs ls hik hzi hv hP hD hS hl kk
    refine lv_iload_n hx hb dX10_eighths_4 rfl (lv_at hl 0 rfl) ?_
    refine lv_iload_n hx hb dX10_eighths_5 rfl (lv_at hl 2 rfl) ?_
    refine lv_icmp_ge (tgt := 23) hx hb dX10_eighths_6 (by decide) (fun c_1 => ?_) (fun c_1 => ?_)
    · have c_1 := q_le (a := s1) (b := i) (by omega) (by omega) c_1
      obtain rfl : s1 = i := by omega
      exact kk v zi H locs ls hzi hv hP hD hS (lv_sub hl (l' := [(2, .int (nI v)), (1, .int (nI s1)), (0, .ref h0)]) [1, 2, 3] rfl)
    · have c_1 := q_nle (a := s1) (b := i) (by omega) (by omega) c_1
      exact absurd hik (by omega)
  | succ k ih =>
    intro i v zi H locs ls hik hzi hv hP hD hS hl kk
    refine lv_iload_n hx hb dX10_eighths_4 rfl (lv_at hl 0 rfl) ?_
    refine lv_iload_n hx hb dX10_eighths_5 rfl (lv_at hl 2 rfl) ?_
    refine lv_icmp_ge (tgt := 23) hx hb dX10_eighths_6 (by decide) (fun c_1 => ?_) (fun c_1 => ?_)
    · have c_1 := q_le (a := s1) (b := i) (by omega) (by omega) c_1
      exact absurd hik (by omega)
    · have c_1 := q_nle (a := s1) (b := i) (by omega) (by omega) c_1
      refine lv_iload_n hx hb dX10_eighths_9 rfl (lv_at hl 1 rfl) ?_
      refine lv_aload_n hx hb dX10_eighths_10 rfl (lv_at hl 3 rfl) ?_
      refine lv_iload_n hx hb dX10_eighths_11 rfl (lv_at hl 0 rfl) ?_
      refine q_ci (k := cells) (n := slots) hK hP hD hS hA (fun hPc hKc hDc => q_rV (As := [.int (nI i)]) (rest := [.int (nI v)]) hf (r_span2 _ D h0 q cB cI cZ I F Es sl mr Rw i (by omega) hre hI44 hm hrow _) k_1512 k_1509 k_1511 k_81 k_98 (nA := 1) (by decide +kernel) ⟨Nat.le_trans (by decide) hRf, Nat.le_trans (by decide) hRl⟩ hK hP (ci := 11) (q0 := 0) rfl rfl rfl hPc hKc hDc (fun _ _ _ _ h => h) (fun _ _ _ => trivial) rfl hl.1 rfl (Nat.le_of_ble_eq_true rfl) dX10_eighths_12 ⟨hRc, hRs⟩) (Nat.le_refl _) (Nat.le_refl _) (fun r u H locs hw hK hP hD hS => ?_)
      obtain ⟨y_2, y_3, rfl, hy_2, hy_3, rfl⟩ := hw
      have hP : va_P D vcl (mW h0 q cB cI cZ I F) H := hP
      have hD : va_D A (mW h0 q cB cI cZ I F) := hD
      refine lv_iadd hx hb dX10_eighths_15 ?_
      refine q_seti (y := nI (v + ((rsm (spW Es Rw) y_3 - rsm (spW Es Rw) y_2)))) (nI_add v ((rsm (spW Es Rw) y_3 - rsm (spW Es Rw) y_2))) ?_
      refine lv_istore_n (lv' := [(2, .int (nI (v + ((rsm (spW Es Rw) y_3 - rsm (spW Es Rw) y_2))))), (3, .int (nI i)), (1, .int (nI s1)), (0, .ref h0)]) hx hb dX10_eighths_16 rfl hl (by decide) rfl (fun ls hl => ?_)
      refine lv_iinc (v := (nI (i + 1))) (lv' := [(3, .int (nI (i + 1))), (2, .int (nI (v + ((rsm (spW Es Rw) y_3 - rsm (spW Es Rw) y_2))))), (1, .int (nI s1)), (0, .ref h0)]) hx hb dX10_eighths_17 hl (k := 1) rfl (nI_add i 1) (by decide) rfl (fun ls hl => ?_)
      refine lv_goto (tgt := 4) hx hb dX10_eighths_20 (by decide) ?_
      have hyy := sfR_un hy_2 hzi
      have hym := rsm_mo (spW Es Rw) (sfR_lt hy_2 hy_3 (Nat.le_succ _))
      rw [hyy] at hym
      exact ih (i + 1) (v + ((rsm (spW Es Rw) y_3 - rsm (spW Es Rw) y_2))) y_3 H locs ls (by omega) hy_3 (by rw [hyy]; omega) hP hD hS (lv_sub hl (l' := [(3, .int (nI (i + 1))), (2, .int (nI (v + ((rsm (spW Es Rw) y_3 - rsm (spW Es Rw) y_2))))), (1, .int (nI s1)), (0, .ref h0)]) [0, 1, 2, 3] rfl) kk
set_option maxHeartbeats 1000000 in
set_option maxRecDepth 100000 in
theorem r_eighths2 (l : Launch) (D : va_G) (h0 : Nat) (q : Nat → Nat) (cB cI_ cZ : ClassId) (I : Nat → Int32) (F : Nat → Nat → Int32) (Es : List E5) (sl : Nat → Nat) (mr : Nat) (Rw : Nat → Nat) (s1 mo : Nat) (hs1 : s1 ≤ 99) (hI2 : I 2 = nI mo) (hmo1 : 10 ≤ mo) (hmo : mo ≤ 40) (hre : reR F Es sl) (hI44 : I 44 = nI mr) (hm : mr ≤ 60) (hrow : ∀ j, j < mr → F 45 j = nI (Rw j) ∧ Rw j < Es.length) : cI l D yX10_eighths cX10_eighths 4 (some .int) 3 90 0 0 [.ref h0, .int (nI s1)] zT (mW h0 q cB cI_ cZ I F) (mT cB cI_ cZ) (fun r u => ∃ (z0 y z : Nat), sfR Es Rw mr 0 z0 ∧ sfR Es Rw mr s1 y ∧ sfR Es Rw mr (s1 + 1) z ∧ r = nI (8 * (rsm (spW Es Rw) z - rsm (spW Es Rw) z0) / mo) - nI (8 * (rsm (spW Es Rw) y - rsm (spW Es Rw) z0) / mo) ∧ u = (mW h0 q cB cI_ cZ I F, mT cB cI_ cZ)) := by
  refine q_si (by decide) (Nat.le_of_ble_eq_true rfl) ?_
  intro p e s m below meth c A ls hAe hf hr hlocks hin hK hP hD hS hA hZ hl
  obtain ⟨hx, hb, hml, hown, hts⟩ := id hf
  have hl : lv_has ls 4 [(0, .ref h0), (1, .int (nI s1))] := hl
  have hmoz : ¬ nI mo = 0 := fun z9 => absurd (q_eqn (a := mo) (b := 0) (by omega) (by decide) z9) (by omega)
  refine lv_iconst (v := 0) hx hb dX10_eighths_0 (by decide) ?_
  refine lv_istore_n (lv' := [(2, .int 0), (0, .ref h0), (1, .int (nI s1))]) hx hb dX10_eighths_1 rfl hl (by decide) rfl (fun ls hl => ?_)
  refine lv_iconst (v := 0) hx hb dX10_eighths_2 (by decide) ?_
  refine lv_istore_n (lv' := [(3, .int 0), (2, .int 0), (0, .ref h0), (1, .int (nI s1))]) hx hb dX10_eighths_3 rfl hl (by decide) rfl (fun ls hl => ?_)
  obtain ⟨z0, hz0⟩ := sfR_ex (Es := Es) (Rw := Rw) (s := 0) mr
  refine lei2_ (Es := Es) (sl := sl) (mr := mr) (Rw := Rw) (s1 := s1) (z0 := z0) hs1 hre hI44 hm hrow (Nat.le_of_ble_eq_true rfl) (Nat.le_of_ble_eq_true rfl) (Nat.le_of_ble_eq_true rfl) (Nat.le_of_ble_eq_true rfl) hA hf hK s1 0 0 z0 _ _ ls (by omega) hz0 (Nat.zero_add _) hP hD hS (lv_sub hl (l' := [(3, .int 0), (2, .int 0), (1, .int (nI s1)), (0, .ref h0)]) [0, 1, 3, 2] rfl) (fun v zi H locs ls hzi hv hP hD hS hl => ?_)
  have hspb := spW_b (Rw := Rw) hre (fun j hj => (hrow j hj).2) hm
  have hb1 := hspb zi (sfR_le hzi).1
  refine lv_bipush (v := 8) hx hb dX10_eighths_23 (by decide) ?_
  refine lv_iload_n hx hb dX10_eighths_25 rfl (lv_at hl 0 rfl) ?_
  refine lv_aload_n hx hb dX10_eighths_26 rfl (lv_at hl 2 rfl) ?_
  refine lv_iload_n hx hb dX10_eighths_27 rfl (lv_at hl 1 rfl) ?_
  refine q_ci (k := 0) (n := 0) hK hP hD hS hA (fun hPc hKc hDc => q_rV (As := [.int (nI s1)]) (rest := [.int (nI v), .int 8]) hf (r_span2 _ D h0 q cB cI_ cZ I F Es sl mr Rw s1 (by omega) hre hI44 hm hrow _) k_1512 k_1509 k_1511 k_81 k_98 (nA := 1) (by decide +kernel) ⟨Nat.le_of_ble_eq_true rfl, Nat.le_of_ble_eq_true rfl⟩ hK hP (ci := 11) (q0 := 0) rfl rfl rfl hPc hKc hDc (fun _ _ _ _ h => h) (fun _ _ _ => trivial) rfl hl.1 rfl (Nat.le_of_ble_eq_true rfl) dX10_eighths_28 ⟨Nat.le_of_ble_eq_true rfl, Nat.le_of_ble_eq_true rfl⟩) (by decide) (by decide) (fun r u H locs hw hK hP hD hS => ?_)
  obtain ⟨y_1, y_2, rfl, hy_1, hy_2, rfl⟩ := hw
  have hP : va_P D vcl (mW h0 q cB cI_ cZ I F) H := hP
  have hD : va_D A (mW h0 q cB cI_ cZ I F) := hD
  refine lv_iadd hx hb dX10_eighths_31 ?_
  refine q_seti (y := nI (v + ((rsm (spW Es Rw) y_2 - rsm (spW Es Rw) y_1)))) (nI_add v ((rsm (spW Es Rw) y_2 - rsm (spW Es Rw) y_1))) ?_
  refine lv_imul hx hb dX10_eighths_32 ?_
  refine q_seti (y := nI (8 * (v + ((rsm (spW Es Rw) y_2 - rsm (spW Es Rw) y_1))))) (pk_mul 8 (v + ((rsm (spW Es Rw) y_2 - rsm (spW Es Rw) y_1)))) ?_
  refine lv_aload_n hx hb dX10_eighths_33 rfl (lv_at hl 2 rfl) ?_
  refine va_get (D := D) (ci := 11) (v := .int (I 2)) (C := RX10) (T := TX10) (N := 48) hx hb hts inX10 hown hK hP 0 rfl rfl 2 (by decide) (hts _ k_1146) (fun _ h9 => h9) rfl dX10_eighths_34 ?_
  refine q_seti (y := (nI mo)) hI2 ?_
  have hyy := sfR_un hy_1 hzi
  have hb2 := hspb y_2 (sfR_le hy_2).1
  refine lv_idiv hx hb dX10_eighths_37 hmoz ?_
  refine q_seti (y := nI ((8 * (v + ((rsm (spW Es Rw) y_2 - rsm (spW Es Rw) y_1)))) / mo)) (pk_div (by omega) (by omega) (by omega)) ?_
  refine lv_bipush (v := 8) hx hb dX10_eighths_38 (by decide) ?_
  refine lv_iload_n hx hb dX10_eighths_40 rfl (lv_at hl 0 rfl) ?_
  refine lv_imul hx hb dX10_eighths_41 ?_
  refine q_seti (y := nI (8 * v)) (pk_mul 8 v) ?_
  refine lv_aload_n hx hb dX10_eighths_42 rfl (lv_at hl 2 rfl) ?_
  refine va_get (D := D) (ci := 11) (v := .int (I 2)) (C := RX10) (T := TX10) (N := 48) hx hb hts inX10 hown hK hP 0 rfl rfl 2 (by decide) (hts _ k_1146) (fun _ h9 => h9) rfl dX10_eighths_43 ?_
  refine q_seti (y := (nI mo)) hI2 ?_
  refine lv_idiv hx hb dX10_eighths_46 hmoz ?_
  refine q_seti (y := nI ((8 * v) / mo)) (pk_div (by omega) (by omega) (by omega)) ?_
  refine lv_isub hx hb dX10_eighths_47 ?_
  have hym := rsm_mo (spW Es Rw) (sfR_lt hy_1 hy_2 (Nat.le_succ _))
  have e1 : v + (rsm (spW Es Rw) y_2 - rsm (spW Es Rw) y_1) = rsm (spW Es Rw) y_2 - rsm (spW Es Rw) z0 := by rw [hyy] at hym ⊢; omega
  have e2 : v = rsm (spW Es Rw) zi - rsm (spW Es Rw) z0 := by omega
  exact q_zi hf hr rfl hlocks hK hP hD hS (Nat.le_of_ble_eq_true rfl) (Nat.le_of_ble_eq_true rfl) ⟨z0, zi, y_2, hz0, hzi, hy_2, by rw [e1, ← e2], rfl⟩ dX10_eighths_48
set_option maxHeartbeats 1000000 in
set_option maxRecDepth 100000 in
theorem r_scene2 (l : Launch) (D : va_G) (h0 : Nat) (q : Nat → Nat) (cB cI_ cZ : ClassId) (I : Nat → Int32) (F : Nat → Nat → Int32) (Es : List E5) (sl : Nat → Nat) (P : List Q4) (mo : Nat) (x1 x2 : Int32) (hre : reR F Es sl) (hI2 : I 2 = nI mo) (hmo1 : 10 ≤ mo) (hmo : mo ≤ 40) (hI14 : I 14 = nI P.length) (hpn : P.length ≤ 7000) (hpcF : pc_is P (F 15) (F 16) (F 17) (F 18)) (hQ : pq_ok Es.length (fun e => Es.getD e dE) P) (hmg : (mgI P P.length).length ≤ 60) : cI l D yX10_scene cX10_scene 3 (some .int) 4 120 0 0 [.ref h0, .int x1, .int x2] zT (mW h0 q cB cI_ cZ I F) (mT cB cI_ cZ) (fun r u => scC Es (fun j => (mgI P P.length).getD j 0) (mgI P P.length).length mo x1 x2 r ∧ (∃ (I2 : Nat → Int32) (F2 : Nat → Nat → Int32), sm I I2 F F2 ∧ u = (mW h0 q cB cI_ cZ I2 F2, mT cB cI_ cZ))) := by
  refine q_si (by decide) (Nat.le_of_ble_eq_true rfl) ?_
  intro p e s m below meth c A ls hAe hf hr hlocks hin hK hP hD hS hA hZ hl
  obtain ⟨hx, hb, hml, hown, hts⟩ := id hf
  have hl : lv_has ls 3 [(0, .ref h0), (1, .int x1), (2, .int x2)] := hl
  refine lv_iload_n hx hb dX10_scene_0 rfl (lv_at hl 1 rfl) ?_
  refine lv_iconst (v := 0) hx hb dX10_scene_1 (by decide) ?_
  refine lv_aload_n hx hb dX10_scene_2 rfl (lv_at hl 0 rfl) ?_
  refine q_ci (k := 0) (n := 0) hK hP hD hS hA (fun hPc hKc hDc => q_rV (As := []) (rest := [.int 0, .int x1]) hf (r_scenes _ D h0 q cB cI_ cZ I F Es sl P hre hI14 hpn hpcF hQ hmg _) k_1483 k_1496 k_1481 k_1482 k_98 (nA := 0) (by decide +kernel) ⟨Nat.le_of_ble_eq_true rfl, Nat.le_of_ble_eq_true rfl⟩ hK hP (ci := 11) (q0 := 0) rfl rfl rfl hPc hKc hDc (fun _ _ _ _ h => h) (fun _ _ _ => trivial) rfl hl.1 rfl (Nat.le_of_ble_eq_true rfl) dX10_scene_3 ⟨Nat.le_of_ble_eq_true rfl, Nat.le_of_ble_eq_true rfl⟩) (by decide) (by decide) (fun r u H locs hw hK hP hD hS => ?_)
  obtain ⟨g45, hr9, hrwI, rfl⟩ := hw
  obtain ⟨c9, hc9, rfl⟩ : ∃ c9 : Nat, c9 = hdC Es (fun j => (mgI P P.length).getD j 0) (mgI P P.length).length ∧ r = nI c9 := ⟨_, rfl, hr9⟩
  have hc8 := hdC_le Es (fun j => (mgI P P.length).getD j 0) (mgI P P.length).length
  have hrow : ∀ j, j < (mgI P P.length).length → g45 j = nI ((fun j => (mgI P P.length).getD j 0) j) ∧ (fun j => (mgI P P.length).getD j 0) j < Es.length := fun j hj => ⟨hrwI j hj, mgI_in (fun i hi => (hQ i hi).1) _ (Nat.le_refl _) j hj⟩
  have hP : va_P D vcl (mW h0 q cB cI_ cZ (upd I 44 (nI ((mgI P P.length).length))) (va_up F 45 g45)) H := hP
  have hD : va_D A (mW h0 q cB cI_ cZ (upd I 44 (nI ((mgI P P.length).length))) (va_up F 45 g45)) := hD
  refine lv_iconst (v := 1) hx hb dX10_scene_6 (by decide) ?_
  refine lv_isub hx hb dX10_scene_7 ?_
  refine q_ei (k := 0) (n := 0) hP hS hA (q_rS (wc := []) (tc := []) (As := [.int x1, .int 0, .int ((nI c9) - 1)]) (rest := []) hf (m_X10_in_1 _ D x1 0 ((nI c9) - 1) _) k_1296 k_1294 k_1295 k_98 (nA := 3) (by decide +kernel) ⟨Nat.le_of_ble_eq_true rfl, Nat.le_of_ble_eq_true rfl⟩ (fun k q h => by simp at h) (hK.sub (tys' := []) [] rfl) (A := A) ⟨fun i j p q h => by simp at h, fun k q h => by simp at h⟩ (fun _ _ _ _ h => h) (fun _ _ _ => trivial) rfl hl.1 rfl (Nat.le_of_ble_eq_true rfl) dX10_scene_8 ⟨Nat.le_of_ble_eq_true rfl, Nat.le_of_ble_eq_true rfl⟩) (by decide) (by decide) (fun r u H locs hw hP hS => ?_)
  rcases hw with ⟨c_1, rfl, rfl⟩ | ⟨c_2, c_3, rfl, rfl⟩ | ⟨c_4, c_5, rfl, rfl⟩
  · refine lv_if_eq (tgt := 23) hx hb dX10_scene_11 (by decide) (fun _ => ?_) (fun hno => absurd hno (by decide))
    refine lv_bipush (v := (-2)) hx hb dX10_scene_23 (by decide) ?_
    exact q_zi hf hr rfl hlocks hK hP hD hS (Nat.le_of_ble_eq_true rfl) (Nat.le_of_ble_eq_true rfl) ⟨Or.inl ⟨Or.inl (by rw [← hc9]; exact ix_no1 (by omega) c_1), rfl⟩, ⟨(upd I 44 (nI ((mgI P P.length).length))), (va_up F 45 g45), ⟨⟨rfl, rfl, rfl⟩, ⟨rfl, rfl, rfl⟩, ⟨rfl, rfl, rfl, rfl, rfl, rfl, rfl, rfl, rfl, rfl, rfl⟩, rfl, rfl, rfl, rfl⟩, rfl⟩⟩ dX10_scene_25
  · refine lv_if_eq (tgt := 23) hx hb dX10_scene_11 (by decide) (fun _ => ?_) (fun hno => absurd hno (by decide))
    refine lv_bipush (v := (-2)) hx hb dX10_scene_23 (by decide) ?_
    exact q_zi hf hr rfl hlocks hK hP hD hS (Nat.le_of_ble_eq_true rfl) (Nat.le_of_ble_eq_true rfl) ⟨Or.inl ⟨Or.inl (by rw [← hc9]; exact ix_no3 (by omega) c_3), rfl⟩, ⟨(upd I 44 (nI ((mgI P P.length).length))), (va_up F 45 g45), ⟨⟨rfl, rfl, rfl⟩, ⟨rfl, rfl, rfl⟩, ⟨rfl, rfl, rfl, rfl, rfl, rfl, rfl, rfl, rfl, rfl, rfl⟩, rfl, rfl, rfl, rfl⟩, rfl⟩⟩ dX10_scene_25
  · refine lv_if_eq (tgt := 23) hx hb dX10_scene_11 (by decide) (fun hno => absurd hno (by decide)) (fun _ => ?_)
    refine lv_iload_n hx hb dX10_scene_14 rfl (lv_at hl 2 rfl) ?_
    refine lv_iconst (v := 0) hx hb dX10_scene_15 (by decide) ?_
    refine lv_iconst (v := 4) hx hb dX10_scene_16 (by decide) ?_
    refine q_ei (k := 0) (n := 0) hP hS hA (q_rS (wc := []) (tc := []) (As := [.int x2, .int 0, .int 4]) (rest := []) hf (m_X10_in_1 _ D x2 0 4 _) k_1296 k_1294 k_1295 k_98 (nA := 3) (by decide +kernel) ⟨Nat.le_of_ble_eq_true rfl, Nat.le_of_ble_eq_true rfl⟩ (fun k q h => by simp at h) (hK.sub (tys' := []) [] rfl) (A := A) ⟨fun i j p q h => by simp at h, fun k q h => by simp at h⟩ (fun _ _ _ _ h => h) (fun _ _ _ => trivial) rfl hl.1 rfl (Nat.le_of_ble_eq_true rfl) dX10_scene_17 ⟨Nat.le_of_ble_eq_true rfl, Nat.le_of_ble_eq_true rfl⟩) (by decide) (by decide) (fun r u H locs hw hP hS => ?_)
    rcases hw with ⟨c_6, rfl, rfl⟩ | ⟨c_7, c_8, rfl, rfl⟩ | ⟨c_9, c_10, rfl, rfl⟩
    · refine lv_if_ne (tgt := 26) hx hb dX10_scene_20 (by decide) (fun hno => absurd hno (by decide)) (fun _ => ?_)
      refine lv_bipush (v := (-2)) hx hb dX10_scene_23 (by decide) ?_
      exact q_zi hf hr rfl hlocks hK hP hD hS (Nat.le_of_ble_eq_true rfl) (Nat.le_of_ble_eq_true rfl) ⟨Or.inl ⟨Or.inr (Or.inl c_6), rfl⟩, ⟨(upd I 44 (nI ((mgI P P.length).length))), (va_up F 45 g45), ⟨⟨rfl, rfl, rfl⟩, ⟨rfl, rfl, rfl⟩, ⟨rfl, rfl, rfl, rfl, rfl, rfl, rfl, rfl, rfl, rfl, rfl⟩, rfl, rfl, rfl, rfl⟩, rfl⟩⟩ dX10_scene_25
    · refine lv_if_ne (tgt := 26) hx hb dX10_scene_20 (by decide) (fun hno => absurd hno (by decide)) (fun _ => ?_)
      refine lv_bipush (v := (-2)) hx hb dX10_scene_23 (by decide) ?_
      exact q_zi hf hr rfl hlocks hK hP hD hS (Nat.le_of_ble_eq_true rfl) (Nat.le_of_ble_eq_true rfl) ⟨Or.inl ⟨Or.inr (Or.inr c_8), rfl⟩, ⟨(upd I 44 (nI ((mgI P P.length).length))), (va_up F 45 g45), ⟨⟨rfl, rfl, rfl⟩, ⟨rfl, rfl, rfl⟩, ⟨rfl, rfl, rfl, rfl, rfl, rfl, rfl, rfl, rfl, rfl, rfl⟩, rfl, rfl, rfl, rfl⟩, rfl⟩⟩ dX10_scene_25
    · refine lv_if_ne (tgt := 26) hx hb dX10_scene_20 (by decide) (fun _ => ?_) (fun hno => absurd hno (by decide))
      obtain ⟨s1, hs1, rfl⟩ := ie_1 (by omega) c_4 c_5
      have hl : lv_has ls 3 [(0, .ref h0), (1, .int (nI s1)), (2, .int x2)] := hl
      refine lv_aload_n hx hb dX10_scene_26 rfl (lv_at hl 0 rfl) ?_
      refine lv_iload_n hx hb dX10_scene_27 rfl (lv_at hl 1 rfl) ?_
      refine q_cv (k := 0) (n := 0) hK hP hD hS hA (fun hPc hKc hDc => q_rV (As := [.int (nI s1)]) (rest := []) hf (r_findWho2 _ D h0 q cB cI_ cZ (upd I 44 (nI ((mgI P P.length).length))) (va_up F 45 g45) Es sl (mgI P P.length).length (fun j => (mgI P P.length).getD j 0) s1 (by omega) hre rfl hmg hrow _) k_1500 k_1497 k_1499 k_78 k_98 (nA := 1) (by decide +kernel) ⟨Nat.le_of_ble_eq_true rfl, Nat.le_of_ble_eq_true rfl⟩ hK hP (ci := 11) (q0 := 0) rfl rfl rfl hPc hKc hDc (fun _ _ _ _ h => h) (fun _ _ _ => trivial) rfl hl.1 rfl (Nat.le_of_ble_eq_true rfl) dX10_scene_28 ⟨Nat.le_of_ble_eq_true rfl, Nat.le_of_ble_eq_true rfl⟩) (by decide) (by decide) (fun u H locs hw hK hP hD hS => ?_)
      obtain ⟨wn, g47, z1, z2, hwn, hwho, hwa, hwb, hwq, hwc, rfl⟩ := hw
      have hP : va_P D vcl (mW h0 q cB cI_ cZ (upd (upd I 44 (nI ((mgI P P.length).length))) 46 (nI wn)) (va_up (va_up F 45 g45) 47 g47)) H := hP
      have hD : va_D A (mW h0 q cB cI_ cZ (upd (upd I 44 (nI ((mgI P P.length).length))) 46 (nI wn)) (va_up (va_up F 45 g45) 47 g47)) := hD
      refine lv_iload_n hx hb dX10_scene_31 rfl (lv_at hl 2 rfl) ?_
      refine lv_if_ne (tgt := 48) hx hb dX10_scene_32 (by decide) (fun c_11 => ?_) (fun c_11 => ?_)
      · refine lv_iload_n hx hb dX10_scene_48 rfl (lv_at hl 2 rfl) ?_
        refine lv_iconst (v := 1) hx hb dX10_scene_49 (by decide) ?_
        refine lv_icmp_ne (tgt := 60) hx hb dX10_scene_50 (by decide) (fun c_12 => ?_) (fun c_12 => ?_)
        · refine lv_iload_n hx hb dX10_scene_60 rfl (lv_at hl 2 rfl) ?_
          refine lv_iconst (v := 2) hx hb dX10_scene_61 (by decide) ?_
          refine lv_icmp_ne (tgt := 73) hx hb dX10_scene_62 (by decide) (fun c_13 => ?_) (fun c_13 => ?_)
          · refine lv_iload_n hx hb dX10_scene_73 rfl (lv_at hl 2 rfl) ?_
            refine lv_iconst (v := 3) hx hb dX10_scene_74 (by decide) ?_
            refine lv_icmp_ne (tgt := 86) hx hb dX10_scene_75 (by decide) (fun c_14 => ?_) (fun c_14 => ?_)
            · refine lv_aload_n hx hb dX10_scene_86 rfl (lv_at hl 0 rfl) ?_
              refine lv_iload_n hx hb dX10_scene_87 rfl (lv_at hl 1 rfl) ?_
              refine lv_iconst (v := 1) hx hb dX10_scene_88 (by decide) ?_
              refine lv_iadd hx hb dX10_scene_89 ?_
              refine q_seti (y := nI (s1 + 1)) (nI_add s1 1) ?_
              refine q_ci (k := 0) (n := 0) hK hP hD hS hA (fun hPc hKc hDc => q_rV (As := [.int (nI (s1 + 1))]) (rest := []) hf (r_sceneF2 _ D h0 q cB cI_ cZ (upd (upd I 44 (nI ((mgI P P.length).length))) 46 (nI wn)) (va_up (va_up F 45 g45) 47 g47) Es sl (mgI P P.length).length (fun j => (mgI P P.length).getD j 0) (s1 + 1) (by omega) hre rfl hmg hrow _) k_1504 k_1501 k_1503 k_79 k_98 (nA := 1) (by decide +kernel) ⟨Nat.le_of_ble_eq_true rfl, Nat.le_of_ble_eq_true rfl⟩ hK hP (ci := 11) (q0 := 0) rfl rfl rfl hPc hKc hDc (fun _ _ _ _ h => h) (fun _ _ _ => trivial) rfl hl.1 rfl (Nat.le_of_ble_eq_true rfl) dX10_scene_90 ⟨Nat.le_of_ble_eq_true rfl, Nat.le_of_ble_eq_true rfl⟩) (by decide) (by decide) (fun r u H locs hw hK hP hD hS => ?_)
              obtain ⟨z_15, rfl, hz_15s, rfl⟩ := hw
              have hP : va_P D vcl (mW h0 q cB cI_ cZ (upd (upd I 44 (nI ((mgI P P.length).length))) 46 (nI wn)) (va_up (va_up F 45 g45) 47 g47)) H := hP
              have hD : va_D A (mW h0 q cB cI_ cZ (upd (upd I 44 (nI ((mgI P P.length).length))) 46 (nI wn)) (va_up (va_up F 45 g45) 47 g47)) := hD
              have hz_15a := (sfR_le hz_15s).1
              refine lv_aload_n hx hb dX10_scene_93 rfl (lv_at hl 0 rfl) ?_
              refine lv_iload_n hx hb dX10_scene_94 rfl (lv_at hl 1 rfl) ?_
              refine q_ci (k := 0) (n := 0) hK hP hD hS hA (fun hPc hKc hDc => q_rV (As := [.int (nI s1)]) (rest := [.int (nI z_15)]) hf (r_sceneF2 _ D h0 q cB cI_ cZ (upd (upd I 44 (nI ((mgI P P.length).length))) 46 (nI wn)) (va_up (va_up F 45 g45) 47 g47) Es sl (mgI P P.length).length (fun j => (mgI P P.length).getD j 0) s1 (by omega) hre rfl hmg hrow _) k_1504 k_1501 k_1503 k_79 k_98 (nA := 1) (by decide +kernel) ⟨Nat.le_of_ble_eq_true rfl, Nat.le_of_ble_eq_true rfl⟩ hK hP (ci := 11) (q0 := 0) rfl rfl rfl hPc hKc hDc (fun _ _ _ _ h => h) (fun _ _ _ => trivial) rfl hl.1 rfl (Nat.le_of_ble_eq_true rfl) dX10_scene_95 ⟨Nat.le_of_ble_eq_true rfl, Nat.le_of_ble_eq_true rfl⟩) (by decide) (by decide) (fun r u H locs hw hK hP hD hS => ?_)
              obtain ⟨z_16, rfl, hz_16s, rfl⟩ := hw
              have hP : va_P D vcl (mW h0 q cB cI_ cZ (upd (upd I 44 (nI ((mgI P P.length).length))) 46 (nI wn)) (va_up (va_up F 45 g45) 47 g47)) H := hP
              have hD : va_D A (mW h0 q cB cI_ cZ (upd (upd I 44 (nI ((mgI P P.length).length))) 46 (nI wn)) (va_up (va_up F 45 g45) 47 g47)) := hD
              have hz_16a := (sfR_le hz_16s).1
              refine lv_isub hx hb dX10_scene_98 ?_
              exact q_zi hf hr rfl hlocks hK hP hD hS (Nat.le_of_ble_eq_true rfl) (Nat.le_of_ble_eq_true rfl) ⟨Or.inr ⟨s1, z1, z2, ⟨by rw [← hc9]; exact hs1, rfl⟩, ⟨hwa, hwb⟩, Or.inr (Or.inr (Or.inr (Or.inr ⟨sw_in4 c_9 c_10 c_11 c_12 c_13 c_14, by rw [sfR_un hz_15s hwb, sfR_un hz_16s hwa]; exact pk_sub (sfR_lt hwa hwb (Nat.le_succ _))⟩)))⟩, ⟨(upd (upd I 44 (nI ((mgI P P.length).length))) 46 (nI wn)), (va_up (va_up F 45 g45) 47 g47), ⟨⟨rfl, rfl, rfl⟩, ⟨rfl, rfl, rfl⟩, ⟨rfl, rfl, rfl, rfl, rfl, rfl, rfl, rfl, rfl, rfl, rfl⟩, rfl, rfl, rfl, rfl⟩, rfl⟩⟩ dX10_scene_99
            · refine lv_aload_n hx hb dX10_scene_78 rfl (lv_at hl 0 rfl) ?_
              refine lv_iload_n hx hb dX10_scene_79 rfl (lv_at hl 1 rfl) ?_
              refine q_ci (k := 0) (n := 0) hK hP hD hS hA (fun hPc hKc hDc => q_rV (As := [.int (nI s1)]) (rest := []) hf (r_eighths2 _ D h0 q cB cI_ cZ (upd (upd I 44 (nI ((mgI P P.length).length))) 46 (nI wn)) (va_up (va_up F 45 g45) 47 g47) Es sl (mgI P P.length).length (fun j => (mgI P P.length).getD j 0) s1 mo (by omega) hI2 hmo1 hmo hre rfl hmg hrow _) k_1516 k_1513 k_1515 k_82 k_98 (nA := 1) (by decide +kernel) ⟨Nat.le_of_ble_eq_true rfl, Nat.le_of_ble_eq_true rfl⟩ hK hP (ci := 11) (q0 := 0) rfl rfl rfl hPc hKc hDc (fun _ _ _ _ h => h) (fun _ _ _ => trivial) rfl hl.1 rfl (Nat.le_of_ble_eq_true rfl) dX10_scene_80 ⟨Nat.le_of_ble_eq_true rfl, Nat.le_of_ble_eq_true rfl⟩) (by decide) (by decide) (fun r u H locs hw hK hP hD hS => ?_)
              obtain ⟨z0, y8, z8, h80, h81, h82, hr8, rfl⟩ := hw
              have hP : va_P D vcl (mW h0 q cB cI_ cZ (upd (upd I 44 (nI ((mgI P P.length).length))) 46 (nI wn)) (va_up (va_up F 45 g45) 47 g47)) H := hP
              have hD : va_D A (mW h0 q cB cI_ cZ (upd (upd I 44 (nI ((mgI P P.length).length))) 46 (nI wn)) (va_up (va_up F 45 g45) 47 g47)) := hD
              refine lv_goto (tgt := 99) hx hb dX10_scene_83 (by decide) ?_
              exact q_zi hf hr rfl hlocks hK hP hD hS (Nat.le_of_ble_eq_true rfl) (Nat.le_of_ble_eq_true rfl) ⟨Or.inr ⟨s1, z1, z2, ⟨by rw [← hc9]; exact hs1, rfl⟩, ⟨hwa, hwb⟩, Or.inr (Or.inr (Or.inr (Or.inl ⟨c_14, z0, h80, by rw [hr8, sfR_un h81 hwa, sfR_un h82 hwb]⟩)))⟩, ⟨(upd (upd I 44 (nI ((mgI P P.length).length))) 46 (nI wn)), (va_up (va_up F 45 g45) 47 g47), ⟨⟨rfl, rfl, rfl⟩, ⟨rfl, rfl, rfl⟩, ⟨rfl, rfl, rfl, rfl, rfl, rfl, rfl, rfl, rfl, rfl, rfl⟩, rfl, rfl, rfl, rfl⟩, rfl⟩⟩ dX10_scene_99
          · refine lv_aload_n hx hb dX10_scene_65 rfl (lv_at hl 0 rfl) ?_
            refine lv_iload_n hx hb dX10_scene_66 rfl (lv_at hl 1 rfl) ?_
            refine q_ci (k := 0) (n := 0) hK hP hD hS hA (fun hPc hKc hDc => q_rV (As := [.int (nI s1)]) (rest := []) hf (r_span2 _ D h0 q cB cI_ cZ (upd (upd I 44 (nI ((mgI P P.length).length))) 46 (nI wn)) (va_up (va_up F 45 g45) 47 g47) Es sl (mgI P P.length).length (fun j => (mgI P P.length).getD j 0) s1 (by omega) hre rfl hmg hrow _) k_1512 k_1509 k_1511 k_81 k_98 (nA := 1) (by decide +kernel) ⟨Nat.le_of_ble_eq_true rfl, Nat.le_of_ble_eq_true rfl⟩ hK hP (ci := 11) (q0 := 0) rfl rfl rfl hPc hKc hDc (fun _ _ _ _ h => h) (fun _ _ _ => trivial) rfl hl.1 rfl (Nat.le_of_ble_eq_true rfl) dX10_scene_67 ⟨Nat.le_of_ble_eq_true rfl, Nat.le_of_ble_eq_true rfl⟩) (by decide) (by decide) (fun r u H locs hw hK hP hD hS => ?_)
            obtain ⟨y_17, y_18, rfl, hy_17, hy_18, rfl⟩ := hw
            have hP : va_P D vcl (mW h0 q cB cI_ cZ (upd (upd I 44 (nI ((mgI P P.length).length))) 46 (nI wn)) (va_up (va_up F 45 g45) 47 g47)) H := hP
            have hD : va_D A (mW h0 q cB cI_ cZ (upd (upd I 44 (nI ((mgI P P.length).length))) 46 (nI wn)) (va_up (va_up F 45 g45) 47 g47)) := hD
            refine lv_goto (tgt := 99) hx hb dX10_scene_70 (by decide) ?_
            exact q_zi hf hr rfl hlocks hK hP hD hS (Nat.le_of_ble_eq_true rfl) (Nat.le_of_ble_eq_true rfl) ⟨Or.inr ⟨s1, z1, z2, ⟨by rw [← hc9]; exact hs1, rfl⟩, ⟨hwa, hwb⟩, Or.inr (Or.inr (Or.inl ⟨c_13, by rw [sfR_un hy_17 hwa, sfR_un hy_18 hwb]⟩))⟩, ⟨(upd (upd I 44 (nI ((mgI P P.length).length))) 46 (nI wn)), (va_up (va_up F 45 g45) 47 g47), ⟨⟨rfl, rfl, rfl⟩, ⟨rfl, rfl, rfl⟩, ⟨rfl, rfl, rfl, rfl, rfl, rfl, rfl, rfl, rfl, rfl, rfl⟩, rfl, rfl, rfl, rfl⟩, rfl⟩⟩ dX10_scene_99
        · refine lv_aload_n hx hb dX10_scene_53 rfl (lv_at hl 0 rfl) ?_
          refine va_get (D := D) (ci := 11) (v := .int (nI wn)) (C := RX10) (T := TX10) (N := 48) hx hb hts inX10 hown hK hP 0 rfl rfl 46 (by decide) (hts _ k_1190) (fun _ h9 => h9) rfl dX10_scene_54 ?_
          refine lv_goto (tgt := 99) hx hb dX10_scene_57 (by decide) ?_
          exact q_zi hf hr rfl hlocks hK hP hD hS (Nat.le_of_ble_eq_true rfl) (Nat.le_of_ble_eq_true rfl) ⟨Or.inr ⟨s1, z1, z2, ⟨by rw [← hc9]; exact hs1, rfl⟩, ⟨hwa, hwb⟩, Or.inr (Or.inl ⟨c_12, congrArg nI (by omega)⟩)⟩, ⟨(upd (upd I 44 (nI ((mgI P P.length).length))) 46 (nI wn)), (va_up (va_up F 45 g45) 47 g47), ⟨⟨rfl, rfl, rfl⟩, ⟨rfl, rfl, rfl⟩, ⟨rfl, rfl, rfl, rfl, rfl, rfl, rfl, rfl, rfl, rfl, rfl⟩, rfl, rfl, rfl, rfl⟩, rfl⟩⟩ dX10_scene_99
      · refine lv_aload_n hx hb dX10_scene_35 rfl (lv_at hl 0 rfl) ?_
        refine va_get (D := D) (ci := 11) (v := .ref (q 45)) (C := RX10) (T := TX10) (N := 48) hx hb hts inX10 hown hK hP 0 rfl rfl 45 (by decide) (hts _ k_1189) (fun _ h9 => h9) rfl dX10_scene_36 ?_
        refine lv_aload_n hx hb dX10_scene_39 rfl (lv_at hl 0 rfl) ?_
        refine lv_iload_n hx hb dX10_scene_40 rfl (lv_at hl 1 rfl) ?_
        refine q_ci (k := 0) (n := 0) hK hP hD hS hA (fun hPc hKc hDc => q_rV (As := [.int (nI s1)]) (rest := [.ref (q 45)]) hf (r_sceneF2 _ D h0 q cB cI_ cZ (upd (upd I 44 (nI ((mgI P P.length).length))) 46 (nI wn)) (va_up (va_up F 45 g45) 47 g47) Es sl (mgI P P.length).length (fun j => (mgI P P.length).getD j 0) s1 (by omega) hre rfl hmg hrow _) k_1504 k_1501 k_1503 k_79 k_98 (nA := 1) (by decide +kernel) ⟨Nat.le_of_ble_eq_true rfl, Nat.le_of_ble_eq_true rfl⟩ hK hP (ci := 11) (q0 := 0) rfl rfl rfl hPc hKc hDc (fun _ _ _ _ h => h) (fun _ _ _ => trivial) rfl hl.1 rfl (Nat.le_of_ble_eq_true rfl) dX10_scene_41 ⟨Nat.le_of_ble_eq_true rfl, Nat.le_of_ble_eq_true rfl⟩) (by decide) (by decide) (fun r u H locs hw hK hP hD hS => ?_)
        obtain ⟨z_19, rfl, hz_19s, rfl⟩ := hw
        have hP : va_P D vcl (mW h0 q cB cI_ cZ (upd (upd I 44 (nI ((mgI P P.length).length))) 46 (nI wn)) (va_up (va_up F 45 g45) 47 g47)) H := hP
        have hD : va_D A (mW h0 q cB cI_ cZ (upd (upd I 44 (nI ((mgI P P.length).length))) 46 (nI wn)) (va_up (va_up F 45 g45) 47 g47)) := hD
        have hz_19a := (sfR_le hz_19s).1
        have hzb := sfR_in hz_19s (by omega)
        refine q_ild (X := z_19) (f := g45) hx hb hK hP 33 1 rfl rfl (by omega) (by decide) dX10_scene_44 ?_
        refine q_seti (y := (nI (((fun j => (mgI P P.length).getD j 0) z_19)))) (hrow z_19 (by omega)).1 ?_
        refine lv_goto (tgt := 99) hx hb dX10_scene_45 (by decide) ?_
        exact q_zi hf hr rfl hlocks hK hP hD hS (Nat.le_of_ble_eq_true rfl) (Nat.le_of_ble_eq_true rfl) ⟨Or.inr ⟨s1, z1, z2, ⟨by rw [← hc9]; exact hs1, rfl⟩, ⟨hwa, hwb⟩, Or.inl ⟨c_11, by rw [sfR_un hz_19s hwa]⟩⟩, ⟨(upd (upd I 44 (nI ((mgI P P.length).length))) 46 (nI wn)), (va_up (va_up F 45 g45) 47 g47), ⟨⟨rfl, rfl, rfl⟩, ⟨rfl, rfl, rfl⟩, ⟨rfl, rfl, rfl, rfl, rfl, rfl, rfl, rfl, rfl, rfl, rfl⟩, rfl, rfl, rfl, rfl⟩, rfl⟩⟩ dX10_scene_99
