theorem hdC_c {Es : List E5} {f g : Nat → Nat} : ∀ k, (∀ j, j < k → f j = g j) → hdC Es f k = hdC Es g k := by
  intro k
  induction k with
  | zero => intro _; rfl
  | succ k ih =>
    intro h
    have h1 := ih (fun j hj => h j (by omega))
    have h2 := h k (by omega)
    by_cases c : (Es.getD (f k) dE).1 = 0
    · rw [hdC_y c, hdC_y (by rw [← h2]; exact c), h1]
    · rw [hdC_n c, hdC_n (by rw [← h2]; exact c), h1]
theorem gd_n0 (l : List Nat) (x : Nat) : (l ++ [x]).getD l.length 0 = x := by
  rw [List.getD_eq_getElem?_getD, List.getElem?_append_right (Nat.le_refl _), Nat.sub_self]
  rfl
theorem gd_n1 {l : List Nat} {x j : Nat} (h : j < l.length) : (l ++ [x]).getD j 0 = l.getD j 0 := by
  rw [List.getD_eq_getElem?_getD, List.getD_eq_getElem?_getD, List.getElem?_append_left h]
theorem scn_eq (Es : List E5) (P : List Q4) : ∀ n, hdC Es (fun j => (mgI P n).getD j 0) (mgI P n).length = pcnt (bgq (fun e => Es.getD e dE) P 0) n := by
  intro n
  induction n with
  | zero => rfl
  | succ n ih =>
    by_cases c : (P.getD n d4).2.1 = 0
    · rw [mgI_1 c, List.length_append]
      show hdC Es (fun j => (mgI P n ++ [(P.getD n d4).1]).getD j 0) ((mgI P n).length + 1) = _
      have h1 : hdC Es (fun j => (mgI P n ++ [(P.getD n d4).1]).getD j 0) (mgI P n).length = pcnt (bgq (fun e => Es.getD e dE) P 0) n := by
        rw [← ih]
        exact hdC_c _ (fun j hj => gd_n1 hj)
      have h2 : (mgI P n ++ [(P.getD n d4).1]).getD (mgI P n).length 0 = (P.getD n d4).1 := gd_n0 _ _
      by_cases c2 : (Es.getD (P.getD n d4).1 dE).1 = 0
      · rw [hdC_y (by show (Es.getD ((mgI P n ++ [(P.getD n d4).1]).getD (mgI P n).length 0) dE).1 = 0; rw [h2]; exact c2), h1, pcnt_1 ⟨c, c2⟩]
      · rw [hdC_n (by show ¬ (Es.getD ((mgI P n ++ [(P.getD n d4).1]).getD (mgI P n).length 0) dE).1 = 0; rw [h2]; exact c2), h1, pcnt_0 (fun h => c2 h.2)]
    · rw [mgI_0 c, ih, pcnt_0 (fun h => c h.1)]
theorem bgq_upl (lk : Nat) (EE : Nat → E5) (P : List Q4) (kd : Int32) : bgq EE (upl lk P) kd = bgq EE P kd := by
  funext i
  unfold bgq
  rw [(upl_1 lk P i).1, (upl_1 lk P i).2.1]
