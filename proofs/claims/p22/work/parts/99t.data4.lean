theorem rg_lo {G : Nat → Nat} {g : Nat} : ∀ k i t, i ≤ t → t < rg_first G g k i → G t < g := by
  intro k
  induction k with
  | zero => intro i t h1 h2; exact absurd h2 (by show ¬ t < i; omega)
  | succ k ih =>
    intro i t h1 h2
    unfold rg_first at h2
    by_cases c : G i < g
    · rw [if_pos c] at h2
      by_cases c2 : t = i
      · rw [c2]; exact c
      · exact ih (i + 1) t (by omega) h2
    · rw [if_neg c] at h2; omega
theorem rg_at {G : Nat → Nat} {g : Nat} : ∀ k i, rg_first G g k i < i + k → g ≤ G (rg_first G g k i) := by
  intro k
  induction k with
  | zero => intro i h; exact absurd h (by show ¬ i < i + 0; omega)
  | succ k ih =>
    intro i h
    unfold rg_first at h ⊢
    by_cases c : G i < g
    · rw [if_pos c] at h ⊢; exact ih (i + 1) (by omega)
    · rw [if_neg c]; omega
theorem pw_ix {R : Q4 → Q4 → Prop} {P : List Q4} (h : P.Pairwise R) {s t : Nat} (hs : s < t) (ht : t < P.length) : R (P.getD s d4) (P.getD t d4) := by
  have h1 := List.pairwise_iff_getElem.mp h s t (by omega) ht hs
  rw [List.getD_eq_getElem?_getD, List.getD_eq_getElem?_getD, List.getElem?_eq_getElem (show s < P.length by omega), List.getElem?_eq_getElem ht]
  exact h1
theorem prS_so {Rw : Nat → Nat} {P : List Q4} (h : prS Rw P) : ∀ s t, s ≤ t → t < P.length → (P.getD s d4).2.2.2 ≤ (P.getD t d4).2.2.2 := by
  intro s t h1 h2
  by_cases c : s = t
  · rw [c]; exact Nat.le_refl _
  · exact (pw_ix h (by omega) h2).1
theorem prS_upl {Rw : Nat → Nat} {P : List Q4} (lk : Nat) (h : prS Rw P) : prS Rw (upl lk P) := by
  unfold prS upl
  rw [List.pairwise_map]
  exact h.imp (fun {a b} h1 => ⟨Nat.add_le_add_right h1.1 lk, fun h2 => h1.2 (by have h3 : a.2.2.2 + lk = b.2.2.2 + lk := h2; omega)⟩)
theorem grp_of {EE : Nat → E5} {P : List Q4} (h : prS (fun e => eRw (EE e)) P) : grp_ok EE P P.length := by
  intro gg
  have hso := prS_so h
  have hfa := rg_first_le (fun t => (P.getD t d4).2.2.2) gg P.length 0
  have hfb := rg_first_le (fun t => (P.getD t d4).2.2.2) (gg + 1) P.length 0
  refine ⟨fun p h1 h2 => ?_, fun p h1 h2 => ?_⟩
  · have h3 := rg_at (G := fun t => (P.getD t d4).2.2.2) P.length 0 (show rg_first (fun t => (P.getD t d4).2.2.2) gg P.length 0 < 0 + P.length by omega)
    have h4 := rg_lo (G := fun t => (P.getD t d4).2.2.2) P.length 0 p (Nat.zero_le _) h2
    have h5 := hso _ p (Nat.le_of_lt h1) (by omega)
    have h3 : gg ≤ (P.getD (rg_first (fun t => (P.getD t d4).2.2.2) gg P.length 0) d4).2.2.2 := h3
    have h4 : (P.getD p d4).2.2.2 < gg + 1 := h4
    exact ((pw_ix h h1 (by omega)).2 (by omega)).1
  · have h3 := rg_at (G := fun t => (P.getD t d4).2.2.2) P.length 0 (show rg_first (fun t => (P.getD t d4).2.2.2) gg P.length 0 < 0 + P.length by omega)
    have h4 := rg_lo (G := fun t => (P.getD t d4).2.2.2) P.length 0 (p + 1) (Nat.zero_le _) h2
    have h5 := hso _ p h1 (by omega)
    have h6 := hso p (p + 1) (by omega) (by omega)
    have h3 : gg ≤ (P.getD (rg_first (fun t => (P.getD t d4).2.2.2) gg P.length 0) d4).2.2.2 := h3
    have h4 : (P.getD (p + 1) d4).2.2.2 < gg + 1 := h4
    exact ((pw_ix h (show p < p + 1 by omega) (by omega)).2 (by omega)).2
theorem ex_last {p : Nat → Prop} : ∀ n, (∃ i, i < n ∧ p i) → ∃ i, i < n ∧ p i ∧ ∀ t, i < t → t < n → ¬ p t := by
  intro n
  induction n with
  | zero => rintro ⟨i, hi, _⟩; exact absurd hi (Nat.not_lt_zero i)
  | succ n ih =>
    rintro ⟨i, hi, hp⟩
    by_cases c : p n
    · exact ⟨n, by omega, c, fun t h1 h2 => absurd h1 (by omega)⟩
    · have hi2 : i ≠ n := fun z => c (z ▸ hp)
      obtain ⟨j, h1, h2, h3⟩ := ih ⟨i, by omega, hp⟩
      refine ⟨j, by omega, h2, fun t h4 h5 => ?_⟩
      by_cases c2 : t = n
      · rw [c2]; exact c
      · exact h3 t h4 (by omega)
theorem ex_first {p : Nat → Prop} : ∀ n, (∃ i, i < n ∧ p i) → ∃ i, i < n ∧ p i ∧ ∀ t, t < i → ¬ p t := by
  intro n
  induction n with
  | zero => rintro ⟨i, hi, _⟩; exact absurd hi (Nat.not_lt_zero i)
  | succ n ih =>
    rintro ⟨i, hi, hp⟩
    by_cases c : ∃ j, j < n ∧ p j
    · obtain ⟨j, h1, h2, h3⟩ := ih c
      exact ⟨j, by omega, h2, h3⟩
    · have hi2 : i = n := by
        by_cases c2 : i = n
        · exact c2
        · exact absurd ⟨i, by omega, hp⟩ c
      exact ⟨n, by omega, hi2 ▸ hp, fun t h1 h2 => c ⟨t, h1, h2⟩⟩
theorem pcf_ex {j : Nat} {P : List Q4} (h : pcf j P ≠ []) : ∃ i, i < P.length ∧ (P.getD i d4).1 = j := by
  apply Classical.byContradiction
  intro hc
  refine h (pcf_no (fun x hx hx1 => ?_))
  obtain ⟨i, hi, e⟩ := gq_ex hx
  exact hc ⟨i, hi, by rw [e]; exact hx1⟩
theorem prt_mid {r : Nat} {x : Q4} {B : List Q4} : ∀ (A : List Q4) (a : Nat), prt r a (A ++ x :: B) → a ≤ x.2.1 ∧ (A = [] → x.2.1 = a) ∧ (A ≠ [] → a < x.2.1)
  | [], _, h => ⟨Nat.le_of_eq h.1.symm, fun _ => h.1, fun z => absurd rfl z⟩
  | y :: A, a, h => by
    have h1 := prt_mid A _ h.2.2
    have h2 := h.1
    have h3 := h.2.1
    exact ⟨by omega, fun z => (List.cons_ne_nil _ _ z).elim, fun _ => by omega⟩
theorem mgN_mem {P : List Q4} {x : Nat} : ∀ k, x ∈ mgN P k ↔ ∃ i, i < k ∧ (P.getD i d4).1 = x := by
  intro k
  induction k with
  | zero => exact ⟨fun h => absurd h List.not_mem_nil, fun ⟨i, hi, _⟩ => absurd hi (Nat.not_lt_zero i)⟩
  | succ k ih =>
    by_cases c : (P.getD k d4).1 ∈ mgN P k
    · rw [mgN_y c]
      refine ⟨fun h => ?_, fun ⟨i, hi, e⟩ => ?_⟩
      · obtain ⟨i, hi, e⟩ := ih.mp h
        exact ⟨i, by omega, e⟩
      · by_cases c2 : i = k
        · rw [← e, c2]; exact c
        · exact ih.mpr ⟨i, by omega, e⟩
    · rw [mgN_n c]
      refine ⟨fun h => ?_, fun ⟨i, hi, e⟩ => ?_⟩
      · rcases List.mem_append.mp h with h | h
        · obtain ⟨i, hi, e⟩ := ih.mp h
          exact ⟨i, by omega, e⟩
        · exact ⟨k, by omega, (List.mem_singleton.mp h).symm⟩
      · by_cases c2 : i = k
        · rw [← e, c2]; exact List.mem_append.mpr (Or.inr (List.mem_singleton.mpr rfl))
        · exact List.mem_append.mpr (Or.inl (ih.mpr ⟨i, by omega, e⟩))
theorem mgN_fst {Rw : Nat → Nat} {P : List Q4} (h : ∀ f, pcf f P = [] ∨ prt (Rw f) 0 (pcf f P)) {k : Nat} (hk : k < P.length) : (P.getD k d4).2.1 = 0 ↔ ¬ (P.getD k d4).1 ∈ mgN P k := by
  have e : pcf (P.getD k d4).1 P = pcf (P.getD k d4).1 (P.take k) ++ P.getD k d4 :: pcf (P.getD k d4).1 (P.drop (k + 1)) := by
    have e1 := pcf_y (f := (P.getD k d4).1) (P := P.drop (k + 1)) (x := P.getD k d4) rfl
    have e2 : pcf (P.getD k d4).1 P = pcf (P.getD k d4).1 (P.take k ++ P.getD k d4 :: P.drop (k + 1)) := congrArg _ (q_split hk)
    rw [e2, ← e1]
    exact List.filter_append _ _
  have h1 := h (P.getD k d4).1
  rw [e] at h1
  rcases h1 with h1 | h1
  · exact absurd h1 (by simp)
  · have h2 := prt_mid _ _ h1
    rw [mgN_mem]
    by_cases c : pcf (P.getD k d4).1 (P.take k) = []
    · refine ⟨fun _ => ?_, fun _ => h2.2.1 c⟩
      rintro ⟨i, hi, ei⟩
      have h3 : P.getD i d4 ∈ pcf (P.getD k d4).1 (P.take k) := by
        refine List.mem_filter.mpr ⟨?_, decide_eq_true ei⟩
        have h4 : (P.take k).getD i d4 = P.getD i d4 := by
          rw [List.getD_eq_getElem?_getD, List.getElem?_take_of_lt hi, ← List.getD_eq_getElem?_getD]
        rw [← h4]
        exact gq_mem (by rw [List.length_take]; omega)
      rw [c] at h3
      exact absurd h3 List.not_mem_nil
    · refine ⟨fun h3 => absurd (h2.2.2 c) (by omega), fun h3 => ?_⟩
      exfalso
      obtain ⟨i, hi, ei⟩ := pcf_ex c
      rw [List.length_take] at hi
      refine h3 ⟨i, by omega, ?_⟩
      rw [List.getD_eq_getElem?_getD, List.getElem?_take_of_lt (by omega), ← List.getD_eq_getElem?_getD] at ei
      exact ei
theorem mg_eq {Rw : Nat → Nat} {P : List Q4} (h : ∀ f, pcf f P = [] ∨ prt (Rw f) 0 (pcf f P)) : ∀ k, k ≤ P.length → mgI P k = mgN P k := by
  intro k
  induction k with
  | zero => intro _; rfl
  | succ k ih =>
    intro hk
    have h1 := mgN_fst h (show k < P.length by omega)
    by_cases c : (P.getD k d4).2.1 = 0
    · rw [mgI_1 c, mgN_n (h1.mp c), ih (by omega)]
    · rw [mgI_0 c, ih (by omega)]
      by_cases c2 : (P.getD k d4).1 ∈ mgN P k
      · rw [mgN_y c2]
      · exact absurd (h1.mpr c2) c
theorem mgI_upl (lk : Nat) (P : List Q4) : ∀ k, mgI (upl lk P) k = mgI P k := by
  intro k
  induction k with
  | zero => rfl
  | succ k ih =>
    have h := upl_1 lk P k
    unfold mgI
    rw [ih, h.1, h.2.1]
theorem mgN_nd (P : List Q4) : ∀ k, (mgN P k).Nodup := by
  intro k
  induction k with
  | zero => exact List.Pairwise.nil
  | succ k ih =>
    by_cases c : (P.getD k d4).1 ∈ mgN P k
    · rw [mgN_y c]; exact ih
    · rw [mgN_n c]
      unfold List.Nodup
      rw [List.pairwise_append]
      refine ⟨ih, List.pairwise_singleton _ _, fun a ha b hb => ?_⟩
      rw [List.mem_singleton.mp hb]
      exact fun z => c (z ▸ ha)
def sumM (f : Nat → Nat) : List Nat → Nat
  | [] => 0
  | x :: t => f x + sumM f t
def sumN (f : Nat → Nat) : Nat → Nat
  | 0 => 0
  | n + 1 => sumN f n + f n
theorem sumM_er {f : Nat → Nat} {a : Nat} : ∀ {M : List Nat}, a ∈ M → sumM f M = f a + sumM f (M.erase a)
  | [], h => absurd h List.not_mem_nil
  | x :: t, h => by
    by_cases c : x = a
    · rw [c, List.erase_cons_head]; rfl
    · have h1 : a ∈ t := (List.mem_cons.mp h).resolve_left (fun z => c z.symm)
      rw [List.erase_cons_tail (by simpa using c)]
      show f x + sumM f t = f a + (f x + sumM f (t.erase a))
      rw [sumM_er h1]
      omega
theorem sumM_le {f : Nat → Nat} : ∀ (n : Nat) (M : List Nat), M.Nodup → (∀ x, x ∈ M → x < n) → sumM f M ≤ sumN f n := by
  intro n
  induction n with
  | zero =>
    intro M _ h
    cases M with
    | nil => exact Nat.le_refl _
    | cons x t => exact absurd (h x List.mem_cons_self) (Nat.not_lt_zero x)
  | succ n ih =>
    intro M hM h
    by_cases c : n ∈ M
    · rw [sumM_er c]
      have h1 := ih (M.erase n) (hM.erase n) (fun x hx => by
        have h2 := (List.Nodup.mem_erase_iff hM).mp hx
        have h3 := h x h2.2
        have h4 := h2.1
        omega)
      show f n + sumM f (M.erase n) ≤ sumN f n + f n
      omega
    · have h1 := ih M hM (fun x hx => by
        have h2 := h x hx
        have h3 : x ≠ n := fun z => c (z ▸ hx)
        omega)
      show sumM f M ≤ sumN f n + f n
      omega
theorem txs_sumN (Es : List E5) : ∀ n, n ≤ Es.length → txs (Es.take n) = sumN (fun e => (Es.getD e dE).2.2.2.2.length) n := by
  intro n
  induction n with
  | zero => intro _; rfl
  | succ n ih =>
    intro hn
    have e : Es.take (n + 1) = Es.take n ++ [Es.getD n dE] := by
      rw [List.take_succ, List.getElem?_eq_getElem (show n < Es.length by omega), List.getD_eq_getElem?_getD, List.getElem?_eq_getElem (show n < Es.length by omega)]
      rfl
    rw [e, txs_app, ih (by omega)]
    rfl
theorem txs_map (Es : List E5) (M : List Nat) : txs (M.map (fun e => Es.getD e dE)) = sumM (fun e => (Es.getD e dE).2.2.2.2.length) M := by
  induction M with
  | nil => rfl
  | cons x t ih => show _ + txs (t.map _) = _ + sumM _ t; rw [ih]
theorem txs_mg {Es : List E5} {M : List Nat} (hM : M.Nodup) (h : ∀ x, x ∈ M → x < Es.length) : txs (M.map (fun e => Es.getD e dE)) ≤ txs Es := by
  rw [txs_map]
  refine Nat.le_trans (sumM_le Es.length M hM h) ?_
  rw [← txs_sumN Es _ (Nat.le_refl _), List.take_length]
  exact Nat.le_refl _
theorem rnm_sx (Ms : List E5) : ∀ i, sx (rnm Ms i) Ms := by
  intro i
  induction i with
  | zero => exact ⟨rfl, fun _ => ⟨rfl, rfl⟩⟩
  | succ i ih => exact sx_tr (sx_set rfl rfl) ih
theorem dI.mg {T : Nat → Int32} {n : Nat} {Es Ms : List E5} {P : List Q4} {mo gs gs2 rm rm2 : Nat} (h : dI T n Es P mo 1 gs rm) (hr : rm2 ≤ rm) (hMs : Ms = rnm ((mgN P P.length).map (fun e => Es.getD e dE)) (mgN P P.length).length) : dI T n Ms (upP Ms Ms.length) mo 0 gs2 rm2 := by
  obtain ⟨a1, a2, a3, a4, a5, a6⟩ := h
  have hin := mgN_in (P := P) (en := Es.length) (fun i hi => (a3 _ (gq_mem hi)).1) _ (Nat.le_refl _)
  have hlen := mgN_len (P := P) (en := Es.length) (fun i hi => (a3 _ (gq_mem hi)).1) _ (Nat.le_refl _)
  have hs : sx Ms ((mgN P P.length).map (fun e => Es.getD e dE)) := by rw [hMs]; exact rnm_sx _ _
  have hsu := sx_su hs
  have hl : Ms.length = (mgN P P.length).length := by rw [hs.1, List.length_map]
  have ht := txs_mg (mgN_nd P P.length) hin
  refine dI.un ⟨a1.1, a1.2.1, a1.2.2.1, a1.2.2.2.1⟩ ⟨by omega, fun e he => ?_, by rw [hsu.1]; omega⟩
  rw [sx_rw hs, gm_d (by omega)]
  exact a2.2.1 _ (hin _ (gn_m (by omega)))
theorem nar_b2 (x : Int32) : vp_nar .byte (vp_nar .byte x) = vp_nar .byte x := by
  show x.toInt8.toInt32.toInt8.toInt32 = x.toInt8.toInt32
  rw [Int8.toInt8_toInt32]
theorem tx_put_n1 {T : Nat → Int32} {n n1 : Nat} {T1 : Nat → Int32} {b : Int32} (e : (n1, T1) = tx_put T n b) (hT : ∀ i, vp_nar .byte (T i) = T i) : n1 ≤ n + 1 ∧ ∀ i, vp_nar .byte (T1 i) = T1 i := by
  unfold tx_put at e
  by_cases c : tx_tk b ∧ n < 1200
  · rw [pif_p c] at e
    cases e
    refine ⟨Nat.le_refl _, fun i => ?_⟩
    by_cases c2 : i = n
    · rw [c2, pk_us]; exact nar_b2 _
    · rw [pk_un c2]; exact hT i
  · rw [pif_n c] at e; cases e; exact ⟨by omega, hT⟩
theorem tx_fd_n1 {w : Int64} : ∀ k (s : Nat × (Nat → Int32)), (∀ i, vp_nar .byte (s.2 i) = s.2 i) → (tx_fd w k s).1 ≤ s.1 + k ∧ ∀ i, vp_nar .byte ((tx_fd w k s).2 i) = (tx_fd w k s).2 i := by
  intro k
  induction k with
  | zero => intro s hs; exact ⟨Nat.le_refl _, hs⟩
  | succ k ih =>
    intro s hs
    have h1 := tx_put_n1 (T := s.2) (n := s.1) (b := fdb w k) (n1 := (tx_put s.2 s.1 (fdb w k)).1) (T1 := (tx_put s.2 s.1 (fdb w k)).2) rfl hs
    have h2 := ih (tx_put s.2 s.1 (fdb w k)) h1.2
    exact ⟨by show (tx_fd w k (tx_put s.2 s.1 (fdb w k))).1 ≤ _; omega, h2.2⟩
