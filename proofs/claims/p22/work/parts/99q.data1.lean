/-- the class's pieces: its groups begin with 1 when the pages are locked -/
def upl (lk : Nat) (P : List Q4) : List Q4 := P.map (fun x => (x.1, x.2.1, x.2.2.1, x.2.2.2 + lk))
theorem upl_len (lk : Nat) (P : List Q4) : (upl lk P).length = P.length := List.length_map _
theorem upl_at {lk : Nat} {P : List Q4} {i : Nat} (h : i < P.length) : (upl lk P).getD i d4 = ((P.getD i d4).1, (P.getD i d4).2.1, (P.getD i d4).2.2.1, (P.getD i d4).2.2.2 + lk) := by
  have e : P[i]? = some (P.getD i d4) := by rw [List.getD_eq_getElem?_getD, List.getElem?_eq_getElem h]; rfl
  unfold upl
  rw [List.getD_eq_getElem?_getD, List.getElem?_map, e]
  rfl
theorem gq_out {P : List Q4} {i : Nat} (h : ¬ i < P.length) : P.getD i d4 = d4 := by
  rw [List.getD_eq_getElem?_getD, List.getElem?_eq_none (by omega)]
  rfl
theorem upl_1 (lk : Nat) (P : List Q4) (i : Nat) : ((upl lk P).getD i d4).1 = (P.getD i d4).1 ∧ ((upl lk P).getD i d4).2.1 = (P.getD i d4).2.1 ∧ ((upl lk P).getD i d4).2.2.1 = (P.getD i d4).2.2.1 := by
  by_cases h : i < P.length
  · rw [upl_at h]; exact ⟨rfl, rfl, rfl⟩
  · rw [gq_out h, gq_out (by rw [upl_len]; exact h)]; exact ⟨rfl, rfl, rfl⟩
theorem upl_0 (P : List Q4) : upl 0 P = P := by
  unfold upl
  exact List.map_id' P
theorem upl_app (lk : Nat) (A B : List Q4) : upl lk (A ++ B) = upl lk A ++ upl lk B := List.map_append
theorem qF_upl (lk : Nat) (P : List Q4) : qF (upl lk P) = qF P := funext fun i => (upl_1 lk P i).2.1
theorem qT_upl (lk : Nat) (P : List Q4) : qT (upl lk P) = qT P := funext fun i => (upl_1 lk P i).2.2
theorem qK_upl (lk : Nat) (EE : Nat → E5) (P : List Q4) : qK EE (upl lk P) = qK EE P := funext fun i => by show (EE _).1 = _; rw [(upl_1 lk P i).1]
theorem qR_upl (lk : Nat) (EE : Nat → E5) (P : List Q4) : qR EE (upl lk P) = qR EE P := funext fun i => by show eRw (EE _) = _; rw [(upl_1 lk P i).1]
theorem qS_upl (lk : Nat) (P : List Q4) (k : Nat) : qS (upl lk P) k = qS P k := by
  unfold qS
  rw [qF_upl, qT_upl]
theorem pq_upl {lk ne : Nat} {EE : Nat → E5} {P : List Q4} (h : pq_ok ne EE P) : pq_ok ne EE (upl lk P) := by
  intro i hi
  rw [upl_len] at hi
  rw [(upl_1 lk P i).1, (upl_1 lk P i).2.1, (upl_1 lk P i).2.2]
  exact h i hi
theorem rg_c {G G2 : Nat → Nat} {g g2 : Nat} : ∀ k i, (∀ t, i ≤ t → t < i + k → (G t < g ↔ G2 t < g2)) → rg_first G g k i = rg_first G2 g2 k i := by
  intro k
  induction k with
  | zero => intro i _; rfl
  | succ k ih =>
    intro i h
    unfold rg_first
    have h1 := h i (Nat.le_refl _) (by omega)
    by_cases c : G i < g
    · rw [if_pos c, if_pos (h1.mp c)]; exact ih (i + 1) (fun t a b => h t (by omega) (by omega))
    · rw [if_neg c, if_neg (fun z => c (h1.mpr z))]
theorem rg_upl {lk g n : Nat} {P : List Q4} (hn : n ≤ P.length) : rg_first (fun t => ((upl lk P).getD t d4).2.2.2) (g + lk) n 0 = rg_first (fun t => (P.getD t d4).2.2.2) g n 0 := by
  refine rg_c n 0 (fun t _ ht => ?_)
  show ((upl lk P).getD t d4).2.2.2 < g + lk ↔ _
  rw [upl_at (by omega)]
  show (P.getD t d4).2.2.2 + lk < g + lk ↔ _
  omega
theorem lk_page_upl (Fm To : Nat → Nat) (p0 r0 qq ss g : Nat) : ∀ f p, lk_page Fm To p0 r0 qq ss (g + 1) f p = upl 1 (lk_page Fm To p0 r0 qq ss g f p) := by
  intro f
  induction f with
  | zero => intro p; rfl
  | succ f ih =>
    intro p
    unfold lk_page
    by_cases h : p < qq
    · rw [if_pos h, if_pos h, ih]; rfl
    · rw [if_neg h, if_neg h]
      by_cases h2 : p = qq ∧ 0 < ss
      · rw [if_pos h2, if_pos h2]; rfl
      · rw [if_neg h2, if_neg h2]; rfl
theorem lk_cls_upl (Fm To Bp Br : Nat → Nat) : ∀ n, lk_cls Fm To Bp Br n = upl 1 (lk_pcs Fm To Bp Br n) := by
  intro n
  induction n with
  | zero => rfl
  | succ n ih =>
    unfold lk_cls lk_pcs
    rw [ih, upl_app, lk_page_upl]
theorem lsJ_upl (lk : Nat) (P : List Q4) (i a b c g : Nat) : lsJ (upl lk P) i (a, b, c, g + lk) = upl lk (lsJ P i (a, b, c, g)) := by
  unfold lsJ upl
  rw [List.map_append, List.map_cons, List.map_take, List.map_drop]
theorem q_take {P : List Q4} {k : Nat} (h : k < P.length) : P.take (k + 1) = P.take k ++ [P.getD k d4] := by
  rw [List.take_succ, List.getElem?_eq_getElem h, List.getD_eq_getElem?_getD, List.getElem?_eq_getElem h]
  rfl
theorem q_drop {P : List Q4} {k : Nat} (h : k < P.length) : P.drop k = P.getD k d4 :: P.drop (k + 1) := by
  rw [List.drop_eq_getElem_cons h, List.getD_eq_getElem?_getD, List.getElem?_eq_getElem h]
  rfl
theorem fl1_y {p : Q4 → Bool} {x : Q4} (h : p x = true) : [x].filter p = [x] := List.filter_cons_of_pos h
theorem fl1_n {p : Q4 → Bool} {x : Q4} (h : p x = false) : [x].filter p = [] := List.filter_cons_of_neg (by rw [h]; decide)
theorem nd_t {a b : Nat} (h : ¬ a = b) : (!decide (a = b)) = true := by rw [decide_eq_false h]; rfl
theorem nd_f {a b : Nat} (h : a = b) : (!decide (a = b)) = false := by rw [decide_eq_true h]; rfl
theorem flI_f (e : Nat) (P : List Q4) : ∀ n, n ≤ P.length → flI e P n = (P.take n).filter (fun x => !decide (x.1 = e)) := by
  intro n
  induction n with
  | zero => intro _; rfl
  | succ n ih =>
    intro hn
    rw [q_take (by omega), List.filter_append]
    by_cases h : (P.getD n d4).1 = e
    · rw [flI_y h, ih (by omega), fl1_n (nd_f h), List.append_nil]
    · rw [flI_n h, ih (by omega), fl1_y (nd_t h)]
theorem flI_all (e : Nat) (P : List Q4) : flI e P P.length = P.filter (fun x => !decide (x.1 = e)) := by
  rw [flI_f e P _ (Nat.le_refl _), List.take_length]
theorem rmv_f (ea : Nat → Nat) (el : Nat) : ∀ (k : Nat) (P : List Q4), k ≤ P.length → rmv ea el k P = (P.take k).filter (fun x => !decide (ea x.1 = el)) ++ P.drop k := by
  intro k
  induction k with
  | zero => intro P _; rfl
  | succ k ih =>
    intro P hk
    have hl : (P.take k).length = k := by rw [List.length_take]; omega
    unfold rmv
    by_cases h : ea (P.getD k d4).1 = el
    · rw [if_pos h, List.eraseIdx_eq_take_drop_succ]
      have hl2 : (P.take k ++ P.drop (k + 1)).length = P.length - 1 := by rw [List.length_append, hl, List.length_drop]; omega
      rw [ih _ (by omega)]
      have e1 : (P.take k ++ P.drop (k + 1)).take k = P.take k := by rw [List.take_append_of_le_length (by omega), List.take_of_length_le (by omega)]
      have e2 : (P.take k ++ P.drop (k + 1)).drop k = P.drop (k + 1) := by rw [List.drop_append_of_le_length (by omega), List.drop_eq_nil_of_le (by omega)]; rfl
      rw [e1, e2, q_take (by omega), List.filter_append, fl1_n (nd_f h), List.append_nil]
    · rw [if_neg h, ih P (by omega), q_take (by omega), List.filter_append, q_drop (show k < P.length by omega), fl1_y (nd_t h), List.append_assoc]
      rfl
theorem rmv_fl {ea : Nat → Nat} {e : Nat} {P : List Q4} (h : ∀ x, x ∈ P → (ea x.1 = ea e ↔ x.1 = e)) : rmv ea (ea e) P.length P = flI e P P.length := by
  rw [rmv_f ea (ea e) _ P (Nat.le_refl _), flI_all, List.take_length, List.drop_length, List.append_nil]
  refine List.filter_congr (fun x hx => ?_)
  rw [decide_eq_decide.mpr (h x hx)]
theorem flI_upl (lk e : Nat) (P : List Q4) : flI e (upl lk P) P.length = upl lk (flI e P P.length) := by
  have h := flI_all e (upl lk P)
  rw [upl_len] at h
  rw [h, flI_all]
  unfold upl
  rw [List.filter_map]
  rfl
/-- pieces that part the rows from a on to r -/
def prt (r : Nat) : Nat → List Q4 → Prop
  | a, [] => a = r
  | a, x :: t => x.2.1 = a ∧ x.2.1 < x.2.2.1 ∧ prt r x.2.2.1 t
/-- pieces that go on from row a of element e, group g, to row b of element f -/
def chp (Rw : Nat → Nat) : Nat → Nat → Nat → List Q4 → Nat → Nat → Nat → Prop
  | e, a, g, [], f, b, h => e = f ∧ a = b ∧ g ≤ h
  | e, a, g, x :: t, f, b, h => x.1 = e ∧ x.2.1 = a ∧ a < x.2.2.1 ∧ x.2.2.1 ≤ Rw e ∧ g ≤ x.2.2.2 ∧ if x.2.2.1 = Rw e then chp Rw (e + 1) 0 x.2.2.2 t f b h else chp Rw e x.2.2.1 (x.2.2.2 + 1) t f b h
theorem chp_mo {Rw : Nat → Nat} {e a g g2 f b h : Nat} (hg : g2 ≤ g) : ∀ {P : List Q4}, chp Rw e a g P f b h → chp Rw e a g2 P f b h
  | [], h1 => ⟨h1.1, h1.2.1, Nat.le_trans hg h1.2.2⟩
  | x :: t, h1 => ⟨h1.1, h1.2.1, h1.2.2.1, h1.2.2.2.1, Nat.le_trans hg h1.2.2.2.2.1, h1.2.2.2.2.2⟩
theorem chp_app {Rw : Nat → Nat} {f b h f2 b2 h2 : Nat} {Q : List Q4} (hQ : chp Rw f b h Q f2 b2 h2) : ∀ (P : List Q4) (e a g : Nat), chp Rw e a g P f b h → chp Rw e a g (P ++ Q) f2 b2 h2 := by
  intro P
  induction P with
  | nil =>
    intro e a g h1
    rw [h1.1, h1.2.1]
    exact chp_mo h1.2.2 hQ
  | cons x t ih =>
    intro e a g h1
    refine ⟨h1.1, h1.2.1, h1.2.2.1, h1.2.2.2.1, h1.2.2.2.2.1, ?_⟩
    have h3 := h1.2.2.2.2.2
    by_cases c : x.2.2.1 = Rw e
    · rw [if_pos c] at h3 ⊢; exact ih _ _ _ h3
    · rw [if_neg c] at h3 ⊢; exact ih _ _ _ h3
theorem chp_page {Fm To : Nat → Nat} {p0 r0 qq ss g pn : Nat} (hq : qq ≤ pn) (hz : ∀ p, p < pn → 0 < To p - Fm p) (hr0 : p0 < pn → r0 < To p0 - Fm p0) (hs : qq < pn → ss < To qq - Fm qq) (h0 : qq = pn → ss = 0) (hord : p0 = qq → r0 < ss) : ∀ f p, qq + 1 ≤ p + f → p0 ≤ p → p ≤ qq → chp (fun t => To t - Fm t) p (if p = p0 then r0 else 0) g (lk_page Fm To p0 r0 qq ss g f p) qq ss (g + 1) := by
  intro f
  induction f with
  | zero => intro p h1 h2 h3; omega
  | succ f ih =>
    intro p h1 h2 h3
    by_cases c : p < qq
    · rw [lk_page_lt c rfl]
      have hlt : (if p = p0 then r0 else 0) < To p - Fm p := by
        by_cases c2 : p = p0
        · rw [if_pos c2, c2]; exact hr0 (by omega)
        · rw [if_neg c2]; exact hz p (by omega)
      refine ⟨rfl, rfl, hlt, Nat.le_refl _, Nat.le_refl _, ?_⟩
      show (if To p - Fm p = To p - Fm p then _ else _)
      rw [if_pos rfl]
      have h4 := ih (p + 1) (by omega) (by omega) (by omega)
      rw [if_neg (show ¬ p + 1 = p0 by omega)] at h4
      exact h4
    · have ep : p = qq := by omega
      by_cases c2 : 0 < ss
      · rw [lk_page_eq ep c2 rfl, lk_page_out (f := f) (p := p + 1) (by omega) (by omega)]
        have hlt : (if p = p0 then r0 else 0) < ss := by
          by_cases c3 : p = p0
          · rw [if_pos c3]; exact hord (by omega)
          · rw [if_neg c3]; exact c2
        have hqn : qq < pn := by
          by_cases c3 : qq = pn
          · have := h0 c3; omega
          · omega
        have hss := hs hqn
        refine ⟨rfl, rfl, hlt, by show ss ≤ To p - Fm p; rw [ep]; omega, Nat.le_refl _, ?_⟩
        show (if ss = To p - Fm p then _ else _)
        rw [if_neg (by rw [ep]; omega)]
        exact ⟨ep, rfl, Nat.le_refl _⟩
      · rw [lk_page_out c (by omega)]
        refine ⟨ep, ?_, Nat.le_succ _⟩
        have hss : ss = 0 := by omega
        by_cases c3 : p = p0
        · have := hord (by omega); omega
        · rw [if_neg c3, hss]
theorem chp_pcs {Fm To Bp Br : Nat → Nat} {pn gn : Nat} (hz : ∀ p, p < pn → 0 < To p - Fm p) (h00 : Bp 0 = 0 ∧ Br 0 = 0) (hgood : pg_good Fm To pn gn Bp Br) (hpn : pn ≤ 8000) : ∀ n, n ≤ gn → chp (fun t => To t - Fm t) 0 0 0 (lk_pcs Fm To Bp Br n) (Bp n) (Br n) n := by
  intro n
  induction n with
  | zero =>
    intro _
    exact ⟨h00.1.symm, h00.2.symm, Nat.le_refl _⟩
  | succ n ih =>
    intro hn
    have hg := hgood n (by omega)
    have hord := rs_ord hg.1 hg.2.1 hg.2.2.1 hg.2.2.2.1 hg.2.2.2.2.1 hg.2.2.2.2.2
    have h1 := chp_page (g := n) hg.2.2.1 hz (fun _ => hg.2.1) hg.2.2.2.1 hg.2.2.2.2.1 hord.2 8001 (Bp n) (by omega) (Nat.le_refl _) hord.1
    rw [if_pos rfl] at h1
    exact chp_app h1 _ _ _ _ (ih (by omega))
/-- sizes of pieces -/
def szs : List Q4 → Nat
  | [] => 0
  | x :: t => (x.2.2.1 - x.2.1) + szs t
theorem szs_app (A B : List Q4) : szs (A ++ B) = szs A + szs B := by
  induction A with
  | nil => show szs B = 0 + szs B; omega
  | cons x t ih => show _ + szs (t ++ B) = _ + szs t + szs B; rw [ih]; omega
theorem szs_fl (p : Q4 → Bool) (A : List Q4) : szs (A.filter p) ≤ szs A := by
  induction A with
  | nil => exact Nat.le_refl _
  | cons x t ih =>
    by_cases h : p x = true
    · rw [List.filter_cons_of_pos h]; show _ + szs (t.filter p) ≤ _ + szs t; omega
    · rw [List.filter_cons_of_neg h]; show szs (t.filter p) ≤ _ + szs t; omega
theorem qS_szs (P : List Q4) : ∀ k, k ≤ P.length → qS P k = szs (P.take k) := by
  intro k
  induction k with
  | zero => intro _; rfl
  | succ k ih =>
    intro hk
    rw [qS_s, ih (by omega), q_take (by omega), szs_app]
    rfl
theorem qS_all (P : List Q4) : qS P P.length = szs P := by rw [qS_szs P _ (Nat.le_refl _), List.take_length]
theorem szs_up (lk : Nat) (P : List Q4) : szs (upl lk P) = szs P := by
  induction P with
  | nil => rfl
  | cons x t ih => show (x.2.2.1 - x.2.1) + szs (upl lk t) = _; rw [ih]; rfl
theorem chp_szs {Rw : Nat → Nat} {f b h : Nat} : ∀ (P : List Q4) (e a g : Nat), chp Rw e a g P f b h → szs P + (rs_S (fun _ => 0) Rw e + a) = rs_S (fun _ => 0) Rw f + b := by
  intro P
  induction P with
  | nil => intro e a g h1; rw [h1.1, h1.2.1]; show 0 + _ = _; omega
  | cons x t ih =>
    intro e a g h1
    obtain ⟨h2, h3, h4, h5, h6, h7⟩ := h1
    have hs : szs (x :: t) = (x.2.2.1 - x.2.1) + szs t := rfl
    by_cases c : x.2.2.1 = Rw e
    · rw [if_pos c] at h7
      have h8 := ih _ _ _ h7
      have h9 : rs_S (fun _ => 0) Rw (e + 1) = rs_S (fun _ => 0) Rw e + (Rw e - 0) := rfl
      omega
    · rw [if_neg c] at h7
      have h8 := ih _ _ _ h7
      omega
/-- what chp says of each piece -/
theorem chp_mem {Rw : Nat → Nat} {f b h : Nat} : ∀ (P : List Q4) (e a g : Nat), chp Rw e a g P f b h → ∀ x, x ∈ P → (e ≤ x.1 ∧ g ≤ x.2.2.2) ∧ x.2.1 < x.2.2.1 ∧ x.2.2.1 ≤ Rw x.1 ∧ (x.2.1 = 0 ∨ g < x.2.2.2 ∨ x.2.1 = a) := by
  intro P
  induction P with
  | nil => intro e a g _ x hx; exact absurd hx List.not_mem_nil
  | cons y t ih =>
    intro e a g h1 x hx
    obtain ⟨h2, h3, h4, h5, h6, h7⟩ := h1
    rcases List.mem_cons.mp hx with hx | hx
    · rw [hx]
      exact ⟨⟨by omega, h6⟩, by omega, by rw [h2]; exact h5, Or.inr (Or.inr h3)⟩
    · by_cases c : y.2.2.1 = Rw e
      · rw [if_pos c] at h7
        have h8 := ih _ _ _ h7 x hx
        refine ⟨⟨by omega, by omega⟩, h8.2.1, h8.2.2.1, ?_⟩
        rcases h8.2.2.2 with h9 | h9 | h9
        · exact Or.inl h9
        · exact Or.inr (Or.inl (by omega))
        · exact Or.inl h9
      · rw [if_neg c] at h7
        have h8 := ih _ _ _ h7 x hx
        exact ⟨⟨by omega, by omega⟩, h8.2.1, h8.2.2.1, Or.inr (Or.inl (by omega))⟩
theorem chp_hi {Rw : Nat → Nat} {f b h : Nat} : ∀ (P : List Q4) (e a g : Nat), chp Rw e a g P f b h → (∀ x, x ∈ P → x.1 < f ∨ (x.1 = f ∧ 0 < b)) ∧ g ≤ h ∧ ∀ x, x ∈ P → x.2.2.2 < h ∨ (x.2.2.2 = h ∧ x.2.2.1 = Rw x.1) := by
  intro P
  induction P with
  | nil => intro e a g h1; exact ⟨fun x hx => absurd hx List.not_mem_nil, h1.2.2, fun x hx => absurd hx List.not_mem_nil⟩
  | cons y t ih =>
    intro e a g h1
    obtain ⟨h2, h3, h4, h5, h6, h7⟩ := h1
    by_cases c : y.2.2.1 = Rw e
    · rw [if_pos c] at h7
      have h8 := ih _ _ _ h7
      refine ⟨fun x hx => ?_, by omega, fun x hx => ?_⟩
      · rcases List.mem_cons.mp hx with hx | hx
        · rw [hx, h2]
          cases t with
          | nil => have := h7.1; left; omega
          | cons z u =>
            have h9 := h8.1 z (List.mem_cons_self)
            have h10 := h7.1
            left; omega
        · exact h8.1 x hx
      · rcases List.mem_cons.mp hx with hx | hx
        · rw [hx]
          by_cases c2 : y.2.2.2 = h
          · right; exact ⟨c2, by rw [h2]; exact c⟩
          · left; omega
        · exact h8.2.2 x hx
    · rw [if_neg c] at h7
      have h8 := ih _ _ _ h7
      refine ⟨fun x hx => ?_, by omega, fun x hx => ?_⟩
      · rcases List.mem_cons.mp hx with hx | hx
        · rw [hx, h2]
          cases t with
          | nil => have h9 := h7.1; have h10 := h7.2.1; right; omega
          | cons z u =>
            have h9 := h8.1 z (List.mem_cons_self)
            have h10 := h7.1
            rcases h9 with h9 | h9
            · left; omega
            · right; omega
        · exact h8.1 x hx
      · rcases List.mem_cons.mp hx with hx | hx
        · rw [hx]; left; omega
        · exact h8.2.2 x hx
/-- no group goes back; in a group all but the first begin an element, all but the last end one -/
def prS (Rw : Nat → Nat) (P : List Q4) : Prop := P.Pairwise (fun a b => a.2.2.2 ≤ b.2.2.2 ∧ (a.2.2.2 = b.2.2.2 → b.2.1 = 0 ∧ a.2.2.1 = Rw a.1))
theorem chp_prS {Rw : Nat → Nat} {f b h : Nat} : ∀ (P : List Q4) (e a g : Nat), chp Rw e a g P f b h → prS Rw P := by
  intro P
  induction P with
  | nil => intro e a g _; exact List.Pairwise.nil
  | cons y t ih =>
    intro e a g h1
    obtain ⟨h2, h3, h4, h5, h6, h7⟩ := h1
    by_cases c : y.2.2.1 = Rw e
    · rw [if_pos c] at h7
      refine List.Pairwise.cons (fun x hx => ?_) (ih _ _ _ h7)
      have h8 := chp_mem _ _ _ _ h7 x hx
      refine ⟨h8.1.2, fun h9 => ⟨?_, by rw [h2]; exact c⟩⟩
      rcases h8.2.2.2 with h10 | h10 | h10
      · exact h10
      · omega
      · exact h10
    · rw [if_neg c] at h7
      refine List.Pairwise.cons (fun x hx => ?_) (ih _ _ _ h7)
      have h8 := chp_mem _ _ _ _ h7 x hx
      exact ⟨by omega, fun h9 => by omega⟩
/-- the pieces of one element -/
def pcf (f : Nat) (P : List Q4) : List Q4 := P.filter (fun x => decide (x.1 = f))
theorem pcf_no {f : Nat} {P : List Q4} (h : ∀ x, x ∈ P → x.1 ≠ f) : pcf f P = [] := by
  unfold pcf
  rw [List.filter_eq_nil_iff]
  intro x hx
  simp [h x hx]
theorem pcf_y {f : Nat} {x : Q4} {P : List Q4} (h : x.1 = f) : pcf f (x :: P) = x :: pcf f P := List.filter_cons_of_pos (by simp [h])
theorem pcf_n {f : Nat} {x : Q4} {P : List Q4} (h : ¬ x.1 = f) : pcf f (x :: P) = pcf f P := List.filter_cons_of_neg (by simp [h])
theorem chp_prt {Rw : Nat → Nat} {f h : Nat} : ∀ (P : List Q4) (e a g : Nat), chp Rw e a g P f 0 h → ∀ d, e ≤ d → d < f → prt (Rw d) (if d = e then a else 0) (pcf d P) := by
  intro P
  induction P with
  | nil => intro e a g h1 d h2 h3; have := h1.1; omega
  | cons y t ih =>
    intro e a g h1 d hd hf
    obtain ⟨h2, h3, h4, h5, h6, h7⟩ := h1
    by_cases c : y.2.2.1 = Rw e
    · rw [if_pos c] at h7
      by_cases c2 : d = e
      · rw [if_pos c2, pcf_y (by omega)]
        refine ⟨h3, by omega, ?_⟩
        rw [pcf_no (fun x hx => by have h8 := (chp_mem _ _ _ _ h7 x hx).1.1; omega)]
        show y.2.2.1 = Rw d
        rw [c2]; exact c
      · rw [if_neg c2, pcf_n (by omega)]
        have h8 := ih _ _ _ h7 d (by omega) hf
        by_cases c3 : d = e + 1
        · rw [if_pos c3] at h8; exact h8
        · rw [if_neg c3] at h8; exact h8
    · rw [if_neg c] at h7
      by_cases c2 : d = e
      · rw [if_pos c2, pcf_y (by omega)]
        have h8 := ih _ _ _ h7 d (by omega) hf
        rw [if_pos c2] at h8
        exact ⟨h3, by omega, h8⟩
      · rw [if_neg c2, pcf_n (by omega)]
        have h8 := ih _ _ _ h7 d (by omega) hf
        rw [if_neg c2] at h8
        exact h8
