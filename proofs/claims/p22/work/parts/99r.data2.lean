/-- bytes and rows of the elements -/
def txs : List E5 → Nat
  | [] => 0
  | x :: t => x.2.2.2.2.length + txs t
noncomputable def rws : List E5 → Nat
  | [] => 0
  | x :: t => eRw x + rws t
theorem txs_app (A B : List E5) : txs (A ++ B) = txs A + txs B := by
  induction A with
  | nil => show txs B = 0 + txs B; omega
  | cons x t ih => show _ + txs (t ++ B) = _ + txs t + txs B; rw [ih]; omega
theorem rws_app (A B : List E5) : rws (A ++ B) = rws A + rws B := by
  induction A with
  | nil => show rws B = 0 + rws B; omega
  | cons x t ih => show _ + rws (t ++ B) = _ + rws t + rws B; rw [ih]; omega
theorem rows_len (x : E5) : 10 * eRw x ≤ x.2.2.2.2.length + 10 := by
  obtain ⟨z, hz, h⟩ := lay_rok (wd := tx_w x.1) (n := x.2.2.2.2.length) (g := fun i => x.2.2.2.2.getD i 0) (by have := (tx_w_in x.1).1; omega) x.2.2.2.2.length 0 [] (tx_pre_0 _) ⟨0, Nat.zero_le _, tx_rok_0 _⟩
  have hw := (tx_w_in x.1).1
  have h1 := h.1
  show 10 * (tx_lay (tx_w x.1) (fun i => x.2.2.2.2.getD i 0) 0 x.2.2.2.2.length x.2.2.2.2.length 0 []).length ≤ _
  generalize tx_lay (tx_w x.1) (fun i => x.2.2.2.2.getD i 0) 0 x.2.2.2.2.length x.2.2.2.2.length 0 [] = Rv at h h1
  rcases h.2.2 with h2 | h2
  · have h3 := tx_ev_len (tx_w x.1) Rv h2
    have h4 : 20 * Rv.length ≤ tx_w x.1 * Rv.length := Nat.mul_le_mul_right _ hw
    omega
  · cases Rv with
    | nil => exact h2.elim
    | cons y t =>
      have h3 := tx_ev_len (tx_w x.1) t h2
      have h4 : 20 * t.length ≤ tx_w x.1 * t.length := Nat.mul_le_mul_right _ hw
      have h5 : tx_sum (y :: t) = y.2 + tx_sum t := rfl
      show 10 * (t.length + 1) ≤ _
      omega
theorem rws_le (Es : List E5) : 10 * rws Es ≤ txs Es + 10 * Es.length := by
  induction Es with
  | nil => exact Nat.le_refl _
  | cons x t ih =>
    have h := rows_len x
    show 10 * (eRw x + rws t) ≤ x.2.2.2.2.length + txs t + 10 * (t.length + 1)
    omega
theorem tx_pt_pos (wd : Nat) (Rv : List (Nat × Nat)) (a n : Nat) : 0 < (tx_pt wd Rv a n).length := by
  cases Rv with
  | nil => exact Nat.zero_lt_succ _
  | cons x t =>
    unfold tx_pt
    show 0 < (if x.2 + 1 + n ≤ wd then (x.1, x.2 + 1 + n) :: t else (a, n) :: x :: t).length
    split <;> exact Nat.zero_lt_succ _
theorem tx_lay_pos {wd : Nat} {g : Nat → Int32} {n : Nat} : ∀ f k Rv, 0 < Rv.length → 0 < (tx_lay wd g 0 n f k Rv).length := by
  intro f
  induction f with
  | zero => intro k Rv h; exact h
  | succ f ih =>
    intro k Rv h
    by_cases c : k < n
    · rw [tx_lay_in c rfl rfl]; exact ih _ _ (tx_pt_pos _ _ _ _)
    · rw [tx_lay_out (by omega)]; exact h
theorem rows_pos {kd : Int32} {X : List Int32} (h : 0 < X.length) : 0 < (tx_rows kd X).length := by
  unfold tx_rows
  obtain ⟨m, hm⟩ : ∃ m, X.length = m + 1 := ⟨X.length - 1, by omega⟩
  have e : tx_lay (tx_w kd) (fun i => X.getD i 0) 0 X.length X.length 0 [] = tx_lay (tx_w kd) (fun i => X.getD i 0) 0 X.length (m + 1) 0 [] := by rw [← hm]
  rw [e, tx_lay_in h rfl rfl]
  exact tx_lay_pos _ _ _ (tx_pt_pos _ _ _ _)
/-- the data while the pages are locked -/
def dL (Es : List E5) (P : List Q4) (gs : Nat) : Prop := prS (fun e => eRw (Es.getD e dE)) P ∧ (∀ x, x ∈ P → x.2.2.2 < gs) ∧ gs ≤ 470 ∧ (∀ f, pcf f P = [] ∨ prt (eRw (Es.getD f dE)) 0 (pcf f P)) ∧ ∀ e, e < Es.length → (Es.getD e dE).2.2.1 = 0 → pcf e P ≠ []
/-- what holds of the data; rm calls are left -/
def dI (T : Nat → Int32) (n : Nat) (Es : List E5) (P : List Q4) (mo lk gs rm : Nat) : Prop :=
  (n ≤ 1200 ∧ (∀ i, vp_nar .byte (T i) = T i) ∧ 10 ≤ mo ∧ mo ≤ 40 ∧ lk ≤ 1) ∧ (Es.length ≤ 60 ∧ (∀ e, e < Es.length → 0 < eRw (Es.getD e dE)) ∧ txs Es + n + 8 * rm ≤ 4096) ∧
  (∀ x, x ∈ P → x.1 < Es.length ∧ x.2.1 < x.2.2.1 ∧ x.2.2.1 ≤ eRw (Es.getD x.1 dE)) ∧ szs P ≤ rws Es ∧ (lk = 0 → P = upP Es Es.length) ∧ (0 < lk → dL Es P gs)
theorem gq_mem {P : List Q4} {i : Nat} (h : i < P.length) : P.getD i d4 ∈ P := by
  rw [List.getD_eq_getElem?_getD, List.getElem?_eq_getElem h]
  exact List.getElem_mem _
theorem gq_ex {P : List Q4} {x : Q4} (h : x ∈ P) : ∃ i, i < P.length ∧ P.getD i d4 = x := by
  obtain ⟨i, hi, e⟩ := List.mem_iff_getElem.mp h
  exact ⟨i, hi, by rw [List.getD_eq_getElem?_getD, List.getElem?_eq_getElem hi]; exact e⟩
theorem pq_of {Es : List E5} {P : List Q4} (h : ∀ x, x ∈ P → x.1 < Es.length ∧ x.2.1 < x.2.2.1 ∧ x.2.2.1 ≤ eRw (Es.getD x.1 dE)) : pq_ok Es.length (fun e => Es.getD e dE) P := fun i hi => h _ (gq_mem hi)
theorem len_szs {P : List Q4} (h : ∀ x, x ∈ P → x.2.1 < x.2.2.1) : P.length ≤ szs P := by
  induction P with
  | nil => exact Nat.le_refl _
  | cons x t ih =>
    have h1 := h x List.mem_cons_self
    have h2 := ih (fun y hy => h y (List.mem_cons_of_mem _ hy))
    show t.length + 1 ≤ (x.2.2.1 - x.2.1) + szs t
    omega
/-- the bounds that all calls want -/
theorem dI.bd {T : Nat → Int32} {n : Nat} {Es : List E5} {P : List Q4} {mo lk gs rm : Nat} (h : dI T n Es P mo lk gs rm) : pq_ok Es.length (fun e => Es.getD e dE) P ∧ qS P P.length ≤ 469 ∧ P.length ≤ 469 ∧ rws Es ≤ 469 := by
  obtain ⟨h1, h2, h3, h4, h5, h6⟩ := h
  have h7 := rws_le Es
  have h8 := len_szs (fun x hx => (h3 x hx).2.1)
  rw [qS_all]
  exact ⟨pq_of h3, by omega, by omega, by omega⟩
theorem qS_le (P : List Q4) {k b : Nat} (h : qS P P.length ≤ b) (hk : k ≤ P.length) : qS P k ≤ b := Nat.le_trans (qS_m P hk) h
theorem upP_szs (Es : List E5) : ∀ n, n ≤ Es.length → szs (upP Es n) = rws (Es.take n) := by
  intro n
  induction n with
  | zero => intro _; rfl
  | succ n ih =>
    intro hn
    have e : Es.take (n + 1) = Es.take n ++ [Es.getD n dE] := by
      rw [List.take_succ, List.getElem?_eq_getElem (show n < Es.length by omega), List.getD_eq_getElem?_getD, List.getElem?_eq_getElem (show n < Es.length by omega)]
      rfl
    rw [e, rws_app, ← ih (by omega)]
    show szs (upP Es n ++ [_]) = _
    rw [szs_app]
    rfl
theorem upP_mem {Es : List E5} {x : Q4} (h : x ∈ upP Es Es.length) : x.1 < Es.length ∧ x.2.1 = 0 ∧ x.2.2.1 = eRw (Es.getD x.1 dE) := by
  obtain ⟨i, hi, e⟩ := gq_ex h
  rw [upP_len] at hi
  rw [← e, upP_at9 Es _ i hi]
  exact ⟨hi, rfl, rfl⟩
/-- unlocked data -/
theorem dI.un {T : Nat → Int32} {n : Nat} {Es : List E5} {mo gs rm : Nat} (h1 : n ≤ 1200 ∧ (∀ i, vp_nar .byte (T i) = T i) ∧ 10 ≤ mo ∧ mo ≤ 40) (h2 : Es.length ≤ 60 ∧ (∀ e, e < Es.length → 0 < eRw (Es.getD e dE)) ∧ txs Es + n + 8 * rm ≤ 4096) : dI T n Es (upP Es Es.length) mo 0 gs rm := by
  refine ⟨⟨h1.1, h1.2.1, h1.2.2.1, h1.2.2.2, by omega⟩, h2, fun x hx => ?_, ?_, fun _ => rfl, fun h => absurd h (Nat.lt_irrefl 0)⟩
  · have h3 := upP_mem hx
    have h4 := h2.2.1 _ h3.1
    exact ⟨h3.1, by omega, by omega⟩
  · rw [upP_szs Es _ (Nat.le_refl _), List.take_length]
    exact Nat.le_refl _
/-- less of the tape, another length, fewer calls left -/
theorem dI.n2 {T T2 : Nat → Int32} {n n2 : Nat} {Es : List E5} {P : List Q4} {mo lk gs rm rm2 : Nat} (h : dI T n Es P mo lk gs rm) (hn : n2 ≤ 1200) (hT : ∀ i, vp_nar .byte (T2 i) = T2 i) (hr : n2 + 8 * rm2 ≤ n + 8 * rm) : dI T2 n2 Es P mo lk gs rm2 := by
  obtain ⟨h1, h2, h3⟩ := h
  exact ⟨⟨hn, hT, h1.2.2⟩, ⟨h2.1, h2.2.1, by omega⟩, h3⟩
theorem dI.mo {T : Nat → Int32} {n : Nat} {Es : List E5} {P : List Q4} {mo mo2 lk gs rm rm2 : Nat} (h : dI T n Es P mo lk gs rm) (h1 : 10 ≤ mo2) (h2 : mo2 ≤ 40) (hr : rm2 ≤ rm) : dI T n Es P mo2 lk gs rm2 := by
  obtain ⟨a1, a2, a3⟩ := h
  exact ⟨⟨a1.1, a1.2.1, h1, h2, a1.2.2.2.2⟩, ⟨a2.1, a2.2.1, by omega⟩, a3⟩
theorem lk_page_g {Fm To : Nat → Nat} {p0 r0 qq ss g : Nat} : ∀ f p x, x ∈ lk_page Fm To p0 r0 qq ss g f p → x.2.2.2 = g := by
  intro f
  induction f with
  | zero => intro p x hx; exact absurd hx List.not_mem_nil
  | succ f ih =>
    intro p x hx
    unfold lk_page at hx
    by_cases h : p < qq
    · rw [if_pos h] at hx
      rcases List.mem_cons.mp hx with hx | hx
      · rw [hx]
      · exact ih _ _ hx
    · rw [if_neg h] at hx
      by_cases h2 : p = qq ∧ 0 < ss
      · rw [if_pos h2] at hx
        rw [List.mem_singleton.mp hx]
      · rw [if_neg h2] at hx
        exact absurd hx List.not_mem_nil
theorem lk_pcs_g {Fm To Bp Br : Nat → Nat} : ∀ n x, x ∈ lk_pcs Fm To Bp Br n → x.2.2.2 < n := by
  intro n
  induction n with
  | zero => intro x hx; exact absurd hx List.not_mem_nil
  | succ n ih =>
    intro x hx
    rcases List.mem_append.mp hx with hx | hx
    · have := ih x hx; omega
    · have := lk_page_g _ _ _ hx; omega
/-- lock -/
theorem dI.lk {T : Nat → Int32} {n : Nat} {Es : List E5} {P P2 : List Q4} {mo gs gn rm : Nat} (h : dI T n Es P mo 0 gs rm) (hc : chp (fun e => eRw (Es.getD e dE)) 0 0 0 P2 Es.length 0 gn) (hgb : ∀ x, x ∈ P2 → x.2.2.2 < gn) (hg : gn ≤ 470) : dI T n Es P2 mo 1 gn rm := by
  obtain ⟨a1, a2, a3, a4, a5, a6⟩ := h
  have hm := chp_mem _ _ _ _ hc
  have hh := chp_hi _ _ _ _ hc
  refine ⟨⟨a1.1, a1.2.1, a1.2.2.1, a1.2.2.2.1, by omega⟩, a2, fun x hx => ?_, ?_, fun h => absurd h (by decide), fun _ => ⟨chp_prS _ _ _ _ hc, fun x hx => ?_, hg, fun f => ?_, fun e he _ => ?_⟩⟩
  · have h1 := hm x hx
    have h2 := hh.1 x hx
    exact ⟨by omega, h1.2.1, h1.2.2.1⟩
  · have h1 := chp_szs _ _ _ _ hc
    have h2 : rs_S (fun _ => 0) (fun e => eRw (Es.getD e dE)) 0 = 0 := rfl
    have h3 : ∀ k, k ≤ Es.length → rs_S (fun _ => 0) (fun e => eRw (Es.getD e dE)) k = szs (upP Es k) := by
      intro k
      induction k with
      | zero => intro _; rfl
      | succ k ih =>
        intro hk
        show rs_S (fun _ => 0) (fun e => eRw (Es.getD e dE)) k + (eRw (Es.getD k dE) - 0) = szs (upP Es k ++ [(k, 0, eRw (Es.getD k dE), 0)])
        rw [ih (by omega), szs_app]
        rfl
    have h4 := h3 _ (Nat.le_refl _)
    rw [upP_szs Es _ (Nat.le_refl _), List.take_length] at h4
    omega
  · exact hgb x hx
  · by_cases c : f < Es.length
    · have h1 := chp_prt _ _ _ _ hc f (Nat.zero_le _) c
      right
      by_cases c2 : f = 0
      · rw [if_pos c2] at h1; exact h1
      · rw [if_neg c2] at h1; exact h1
    · left
      exact pcf_no (fun x hx => by have h2 := hh.1 x hx; omega)
  · have h1 := chp_prt _ _ _ _ hc e (Nat.zero_le _) he
    intro h2
    rw [h2] at h1
    have h3 := a2.2.1 e he
    have h4 : (if e = 0 then 0 else 0) = eRw (Es.getD e dE) := h1
    by_cases c2 : e = 0
    · rw [if_pos c2] at h4; omega
    · rw [if_neg c2] at h4; omega
