/-- slot t of the reference holds the element x -/
noncomputable def elF (F : Nat → Nat → Int32) (t : Nat) (x : E5) : Prop := F 5 t = 1 ∧ F 6 t = x.1 ∧ F 7 t = x.2.2.1 ∧ F 8 t = nI x.2.2.2.1 ∧ F 9 t = nI x.2.2.2.2.length ∧ x.2.2.2.2.length ≤ 1200 ∧ (∀ j, j < x.2.2.2.2.length → F 10 (1200 * t + j) = x.2.2.2.2.getD j 0) ∧ F 11 t = nI (eRw x) ∧ tx_rv (F 12) (F 13) (131 * t) (tx_rows x.1 x.2.2.2.2) ∧ tx_pre (tx_w x.1) (x.2.2.2.2.length + 1) (tx_rows x.1 x.2.2.2.2)
theorem elF_rw {F : Nat → Nat → Int32} {t : Nat} {x : E5} (h : elF F t x) : eRw x ≤ 121 := tx_rok_len2 h.2.2.2.2.2.2.2.2.2.1 (show x.2.2.2.2.length + 1 ≤ 1201 by have := h.2.2.2.2.2.1; omega) (tx_w_in _).1
/-- the elements of the reference -/
def reR (F : Nat → Nat → Int32) (Es : List E5) (sl : Nat → Nat) : Prop := Es.length ≤ 60 ∧ (∀ e, e < Es.length → F 4 e = nI (sl e) ∧ sl e < 60 ∧ elF F (sl e) (Es.getD e dE)) ∧ (∀ e f, e < Es.length → f < Es.length → sl e = sl f → e = f) ∧ ∀ w, w < 60 → F 5 w = 0 ∨ ∃ e, e < Es.length ∧ sl e = w
/-- all but slot t is as before -/
def ag (F F2 : Nat → Nat → Int32) (t : Nat) : Prop := (∀ w, w ≠ t → F2 5 w = F 5 w ∧ F2 6 w = F 6 w ∧ F2 7 w = F 7 w ∧ F2 8 w = F 8 w ∧ F2 9 w = F 9 w ∧ F2 11 w = F 11 w) ∧ (∀ j, j < 1200 * t ∨ 1200 * t + 1200 ≤ j → F2 10 j = F 10 j) ∧ ∀ j, j < 131 * t ∨ 131 * t + 131 ≤ j → F2 12 j = F 12 j ∧ F2 13 j = F 13 j
theorem elF_ag {F F2 : Nat → Nat → Int32} {t w : Nat} {x : E5} (h : elF F w x) (ha : ag F F2 t) (hw : w ≠ t) : elF F2 w x := by
  have hr := elF_rw h
  obtain ⟨a1, a2, a3, a4, a5, a6, a7, a8, a9, a10⟩ := h
  obtain ⟨b1, b2, b3, b4, b5, b6⟩ := ha.1 w hw
  refine ⟨b1.trans a1, b2.trans a2, b3.trans a3, b4.trans a4, b5.trans a5, a6, fun j hj => (ha.2.1 _ ?_).trans (a7 j hj), b6.trans a8, tx_rv_c (fun j h1 h2 => ha.2.2 j ?_) a9, a10⟩
  · omega
  · have h2 : j < 131 * w + eRw x := h2
    omega
theorem pg_sur : ∀ (n m : Nat) (f : Nat → Nat), (∀ w, w < m → ∃ e, e < n ∧ f e = w) → m ≤ n := by
  intro n
  induction n with
  | zero =>
    intro m f h
    rcases Nat.eq_zero_or_pos m with h1 | h1
    · omega
    · obtain ⟨e, he, _⟩ := h 0 h1
      exact absurd he (Nat.not_lt_zero e)
  | succ n ih =>
    intro m f h
    rcases Nat.eq_zero_or_pos m with h1 | h1
    · omega
    · have h2 := ih (m - 1) (fun e => if f e = m - 1 then f n else f e) (fun w hw => by
        obtain ⟨e, he, ew⟩ := h w (by omega)
        by_cases c : e = n
        · obtain ⟨e2, he2, ew2⟩ := h (m - 1) (by omega)
          have c2 : e2 ≠ n := fun z => by rw [z, ← c, ew] at ew2; omega
          exact ⟨e2, by omega, (if_pos ew2).trans (by rw [← c]; exact ew)⟩
        · exact ⟨e, by omega, (if_neg (by omega)).trans ew⟩)
      omega
theorem pg_inj : ∀ (n m : Nat) (f : Nat → Nat), (∀ i, i < m → f i < n) → (∀ i j, i < m → j < m → f i = f j → i = j) → m ≤ n := by
  intro n
  induction n with
  | zero =>
    intro m f h _
    rcases Nat.eq_zero_or_pos m with h1 | h1
    · omega
    · exact absurd (h 0 h1) (Nat.not_lt_zero _)
  | succ n ih =>
    intro m f h hj
    by_cases c : ∃ i, i < m ∧ f i = n
    · obtain ⟨i, hi, ei⟩ := c
      have h2 := ih (m - 1) (fun j => if j = i then f (m - 1) else f j) (fun j hj2 => by
        by_cases c2 : j = i
        · show (if j = i then f (m - 1) else f j) < n
          rw [if_pos c2]
          have h3 := h (m - 1) (by omega)
          have h4 : f (m - 1) ≠ n := fun z => by have := hj (m - 1) i (by omega) hi (z.trans ei.symm); omega
          omega
        · show (if j = i then f (m - 1) else f j) < n
          rw [if_neg c2]
          have h3 := h j (by omega)
          have h4 : f j ≠ n := fun z => c2 (hj j i (by omega) hi (z.trans ei.symm))
          omega) (fun j k hj2 hk2 e => by
        have e : (if j = i then f (m - 1) else f j) = if k = i then f (m - 1) else f k := e
        by_cases c2 : j = i
        · by_cases c3 : k = i
          · omega
          · rw [if_pos c2, if_neg c3] at e
            have := hj (m - 1) k (by omega) (by omega) e
            omega
        · by_cases c3 : k = i
          · rw [if_neg c2, if_pos c3] at e
            have := hj j (m - 1) (by omega) (by omega) e
            omega
          · rw [if_neg c2, if_neg c3] at e
            exact hj j k (by omega) (by omega) e)
      omega
    · have h2 := ih m f (fun i hi => by
        have h3 := h i hi
        have h4 : f i ≠ n := fun z => c ⟨i, hi, z⟩
        omega) hj
      omega
theorem reR_free {F : Nat → Nat → Int32} {Es : List E5} {sl : Nat → Nat} (h : reR F Es sl) (hn : Es.length < 60) : ∃ z, z < 60 ∧ F 5 z = 0 := by
  apply Classical.byContradiction
  intro hc
  have h2 := pg_sur Es.length 60 sl (fun w hw => by
    rcases h.2.2.2 w hw with h3 | h3
    · exact absurd ⟨w, hw, h3⟩ hc
    · exact h3)
  omega
theorem reR_ne {F : Nat → Nat → Int32} {Es : List E5} {sl : Nat → Nat} {t e : Nat} (h : reR F Es sl) (ht : F 5 t = 0) (he : e < Es.length) : sl e ≠ t := fun z => by
  have h1 := (h.2.1 e he).2.2.1
  rw [z, ht] at h1
  exact absurd h1 (by decide)
theorem gd_l {Es : List E5} {x : E5} {e : Nat} (h : e < Es.length) : (Es ++ [x]).getD e dE = Es.getD e dE := by
  simp only [List.getD_eq_getElem?_getD]
  rw [List.getElem?_append_left h]
theorem gd_r {Es : List E5} {x : E5} : (Es ++ [x]).getD Es.length dE = x := by
  simp
theorem reR_new {F F2 : Nat → Nat → Int32} {Es : List E5} {sl : Nat → Nat} {t : Nat} {x : E5} (h : reR F Es sl) (ht : t < 60) (h5 : F 5 t = 0) (hn : Es.length < 60) (ha : ag F F2 t) (h4 : F2 4 = upd (F 4) Es.length (nI t)) (hx : elF F2 t x) : reR F2 (Es ++ [x]) (fun e => if e = Es.length then t else sl e) := by
  have hl : (Es ++ [x]).length = Es.length + 1 := by rw [List.length_append]; rfl
  refine ⟨by omega, fun e he => ?_, fun e f he hf hs => ?_, fun w hw => ?_⟩
  · by_cases c : e = Es.length
    · rw [c]
      refine ⟨?_, ?_, ?_⟩
      · show F2 4 Es.length = nI (if Es.length = Es.length then t else sl Es.length)
        rw [if_pos rfl, h4, pk_us]
      · show (if Es.length = Es.length then t else sl Es.length) < 60
        rw [if_pos rfl]; exact ht
      · show elF F2 (if Es.length = Es.length then t else sl Es.length) _
        rw [if_pos rfl, gd_r]; exact hx
    · have h6 := h.2.1 e (by omega)
      refine ⟨?_, ?_, ?_⟩
      · show F2 4 e = nI (if e = Es.length then t else sl e)
        rw [if_neg c, h4, pk_un c]; exact h6.1
      · show (if e = Es.length then t else sl e) < 60
        rw [if_neg c]; exact h6.2.1
      · show elF F2 (if e = Es.length then t else sl e) _
        rw [if_neg c, gd_l (by omega)]; exact elF_ag h6.2.2 ha (reR_ne h h5 (by omega))
  · have hs : (if e = Es.length then t else sl e) = if f = Es.length then t else sl f := hs
    by_cases c : e = Es.length
    · by_cases c2 : f = Es.length
      · omega
      · rw [if_pos c, if_neg c2] at hs
        exact absurd hs.symm (reR_ne h h5 (by omega))
    · by_cases c2 : f = Es.length
      · rw [if_neg c, if_pos c2] at hs
        exact absurd hs (reR_ne h h5 (by omega))
      · rw [if_neg c, if_neg c2] at hs
        exact h.2.2.1 e f (by omega) (by omega) hs
  · by_cases c : w = t
    · exact Or.inr ⟨Es.length, by omega, (if_pos rfl).trans c.symm⟩
    · rcases h.2.2.2 w hw with h6 | ⟨e, he, h6⟩
      · exact Or.inl ((ha.1 w c).1.trans h6)
      · exact Or.inr ⟨e, by omega, (if_neg (by omega)).trans h6⟩
theorem reR_back {F F2 : Nat → Nat → Int32} {Es : List E5} {sl : Nat → Nat} {t : Nat} (h : reR F Es sl) (h5 : F 5 t = 0) (ha : ag F F2 t) (h4 : ∀ e, e < Es.length → F2 4 e = F 4 e) (h52 : F2 5 t = 0) : reR F2 Es sl := by
  refine ⟨h.1, fun e he => ⟨(h4 e he).trans (h.2.1 e he).1, (h.2.1 e he).2.1, elF_ag (h.2.1 e he).2.2 ha (reR_ne h h5 he)⟩, h.2.2.1, fun w hw => ?_⟩
  by_cases c : w = t
  · rw [c]; exact Or.inl h52
  · rcases h.2.2.2 w hw with h6 | h6
    · exact Or.inl ((ha.1 w c).1.trans h6)
    · exact Or.inr h6
theorem rp_of {F : Nat → Nat → Int32} {Es : List E5} {sl : Nat → Nat} {P : List Q4} (h : reR F Es sl) (hp : pc_is P (F 15) (F 16) (F 17) (F 18)) (hQ : pq_ok Es.length (fun e => Es.getD e dE) P) (hl : P.length ≤ 8000) : rp_ok F P.length (fun p => (P.getD p d4).1) (fun p => sl (P.getD p d4).1) (qK (fun e => Es.getD e dE) P) (qF P) (qT P) (qR (fun e => Es.getD e dE) P) := by
  refine ⟨hl, fun p hp2 => ?_⟩
  have h1 := hQ p hp2
  have h2 := hp p hp2
  have h3 := h.2.1 _ h1.1
  have h4 := elF_rw h3.2.2
  have h5 := h.1
  exact ⟨h2.1, Nat.lt_of_lt_of_le h1.1 h5, h3.1, h3.2.1, h3.2.2.2.1, h3.2.2.2.2.2.2.2.2.2.1, h2.2.1, h2.2.2.1, h1.2.1, h1.2.2, h4⟩
theorem rs_cnt_sh (K : Nat → Int32) (Fm To Rr : Nat → Nat) (fi en mo : Nat) : ∀ f p r, rs_cnt K Fm To Rr fi en mo f p r = (rs_sh K Fm To Rr fi en mo f p r).length := by
  intro f
  induction f with
  | zero => intro p r; rfl
  | succ f ih =>
    intro p r
    unfold rs_cnt rs_sh
    by_cases h : p < en
    · rw [if_pos h, if_pos h, List.length_cons, ih]
      omega
    · rw [if_neg h, if_neg h]; rfl
/-- shifted up by one from i to n -/
def shf (f : Nat → Int32) (i n j : Nat) : Int32 := if i < j ∧ j ≤ n then f (j - 1) else f j
theorem shf_0 (f : Nat → Int32) (n : Nat) : shf f n n = f := by
  funext j
  exact if_neg (by omega)
theorem shf_lo {f : Nat → Int32} {i n j : Nat} (h : j ≤ i) : shf f i n j = f j := if_neg (by omega)
theorem shf_hi {f : Nat → Int32} {i n j : Nat} (h : i < j) (h2 : j ≤ n) : shf f i n j = f (j - 1) := if_pos ⟨h, h2⟩
theorem shf_s {f : Nat → Int32} {i n : Nat} (h : 0 < i) (h2 : i ≤ n) : upd (shf f i n) i (shf f i n (i - 1)) = shf f (i - 1) n := by
  funext j
  by_cases c : j = i
  · rw [c, pk_us, shf_lo (by omega), shf_hi (by omega) h2]
  · rw [pk_un c]
    by_cases c2 : i < j ∧ j ≤ n
    · rw [shf_hi c2.1 c2.2, shf_hi (by omega) c2.2]
    · exact (if_neg c2).trans (if_neg (by omega)).symm
/-- shifted down by one from a to i -/
def shd (f : Nat → Int32) (a i j : Nat) : Int32 := if a ≤ j ∧ j < i then f (j + 1) else f j
theorem shd_0 (f : Nat → Int32) (a : Nat) : shd f a a = f := by
  funext j
  exact if_neg (by omega)
theorem shd_s {f : Nat → Int32} {a i : Nat} (h : a ≤ i) : upd (shd f a i) i (shd f a i (i + 1)) = shd f a (i + 1) := by
  funext j
  by_cases c : j = i
  · rw [c, pk_us]
    exact (if_neg (by omega)).trans (if_pos (by omega)).symm
  · rw [pk_un c]
    by_cases c2 : a ≤ j ∧ j < i
    · exact (if_pos c2).trans (if_pos (by omega)).symm
    · exact (if_neg c2).trans (if_neg (by omega)).symm
theorem shd_shf {f : Nat → Int32} {a n j : Nat} {v : Int32} (h : j < n) : shd (upd (shf f a n) a v) a n j = f j := by
  by_cases c : a ≤ j
  · rw [show shd (upd (shf f a n) a v) a n j = upd (shf f a n) a v (j + 1) from if_pos ⟨c, h⟩, pk_un (by omega), shf_hi (by omega) (by omega), Nat.add_sub_cancel]
  · rw [show shd (upd (shf f a n) a v) a n j = upd (shf f a n) a v j from if_neg (by omega), pk_un (by omega), shf_lo (by omega)]
theorem shf_lsJ {P : List Q4} {pr : Q4 → Nat} {f : Nat → Int32} {a n : Nat} {x : Q4} (hn : P.length = n) (ha : a ≤ n) (h : ∀ j, j < n → f j = nI (pr (P.getD j d4))) : ∀ j, j < n + 1 → upd (shf f a n) a (nI (pr x)) j = nI (pr ((lsJ P a x).getD j d4)) := by
  intro j hj
  rw [lsJ_at (by omega)]
  by_cases c : j < a
  · rw [if_pos c, pk_un (by omega), shf_lo (by omega)]; exact h j (by omega)
  · rw [if_neg c]
    by_cases c2 : j = a
    · rw [if_pos c2, c2, pk_us]
    · rw [if_neg c2, pk_un c2, shf_hi (by omega) (by omega)]; exact h (j - 1) (by omega)
theorem pc_is_i {P : List Q4} {f1 f2 f3 f4 : Nat → Int32} {a n : Nat} {x : Q4} {v1 v2 v3 v4 : Int32} (hn : P.length = n) (ha : a ≤ n) (h : pc_is P f1 f2 f3 f4) (e1 : v1 = nI x.1) (e2 : v2 = nI x.2.1) (e3 : v3 = nI x.2.2.1) (e4 : v4 = nI x.2.2.2) : pc_is (lsJ P a x) (upd (shf f1 a n) a v1) (upd (shf f2 a n) a v2) (upd (shf f3 a n) a v3) (upd (shf f4 a n) a v4) := by
  intro j hj
  rw [lsJ_len (by omega)] at hj
  rw [e1, e2, e3, e4]
  exact ⟨shf_lsJ (pr := fun y => y.1) hn ha (fun i hi => (h i (by omega)).1) j (by omega), shf_lsJ (pr := fun y => y.2.1) hn ha (fun i hi => (h i (by omega)).2.1) j (by omega), shf_lsJ (pr := fun y => y.2.2.1) hn ha (fun i hi => (h i (by omega)).2.2.1) j (by omega), shf_lsJ (pr := fun y => y.2.2.2) hn ha (fun i hi => (h i (by omega)).2.2.2) j (by omega)⟩
theorem va_up_id9 (F : Nat → Nat → Int32) (k : Nat) : va_up F k (F k) = F := by
  funext j
  by_cases c : j = k
  · rw [c, va_up_self]
  · rw [va_up_ne _ _ c]
theorem q_set4 {D : va_G} {A : Nat → Prop} {H : Heap} {h0 : Nat} {q : Nat → Nat} {cB cI cZ : ClassId} {I : Nat → Int32} {F F2 : Nat → Nat → Int32} (e : F = F2) (hP : va_P D vcl (mW h0 q cB cI cZ I F) H) (hD : va_D A (mW h0 q cB cI cZ I F)) : va_P D vcl (mW h0 q cB cI cZ I F2) H ∧ va_D A (mW h0 q cB cI cZ I F2) := by
  subst e
  exact ⟨hP, hD⟩
abbrev cX10_hasWord : ByteArray := prog_12_method_40_code
def yX10_hasWord : MethodName := ⟨RX10, "hasWord", "()Z"⟩
abbrev cX10_insertPiece : ByteArray := prog_12_method_41_code
def yX10_insertPiece : MethodName := ⟨RX10, "insertPiece", "(II)V"⟩
theorem dX10_hasWord_2 : decode cX10_hasWord 2 = .ok (.iload_n 1, 1) := by decide +kernel
theorem dX10_hasWord_3 : decode cX10_hasWord 3 = .ok (.aload_n 0, 1) := by decide +kernel
theorem dX10_hasWord_4 : decode cX10_hasWord 4 = .ok (.getfield 123, 3) := by decide +kernel
theorem dX10_hasWord_7 : decode cX10_hasWord 7 = .ok (.if_icmp .ge 19, 3) := by decide +kernel
theorem dX10_hasWord_10 : decode cX10_hasWord 10 = .ok (.aload_n 0, 1) := by decide +kernel
theorem dX10_hasWord_11 : decode cX10_hasWord 11 = .ok (.iload_n 1, 1) := by decide +kernel
theorem dX10_hasWord_12 : decode cX10_hasWord 12 = .ok (.invokevirtual 147, 3) := by decide +kernel
theorem dX10_hasWord_15 : decode cX10_hasWord 15 = .ok (.ifCond .ne 5, 3) := by decide +kernel
theorem dX10_hasWord_20 : decode cX10_hasWord 20 = .ok (.iinc 1 1, 3) := by decide +kernel
theorem dX10_hasWord_23 : decode cX10_hasWord 23 = .ok (.goto (-21), 3) := by decide +kernel
theorem dX10_hasWord_0 : decode cX10_hasWord 0 = .ok (.iconst 0, 1) := by decide +kernel
theorem dX10_hasWord_1 : decode cX10_hasWord 1 = .ok (.istore_n 1, 1) := by decide +kernel
theorem dX10_hasWord_18 : decode cX10_hasWord 18 = .ok (.iconst 1, 1) := by decide +kernel
theorem dX10_hasWord_19 : decode cX10_hasWord 19 = .ok (.ireturn, 1) := by decide +kernel
theorem dX10_hasWord_26 : decode cX10_hasWord 26 = .ok (.iconst 0, 1) := by decide +kernel
theorem dX10_hasWord_27 : decode cX10_hasWord 27 = .ok (.ireturn, 1) := by decide +kernel
theorem dX10_insertPiece_5 : decode cX10_insertPiece 5 = .ok (.iload_n 3, 1) := by decide +kernel
theorem dX10_insertPiece_6 : decode cX10_insertPiece 6 = .ok (.iload_n 1, 1) := by decide +kernel
theorem dX10_insertPiece_7 : decode cX10_insertPiece 7 = .ok (.if_icmp .le 65, 3) := by decide +kernel
theorem dX10_insertPiece_10 : decode cX10_insertPiece 10 = .ok (.aload_n 0, 1) := by decide +kernel
theorem dX10_insertPiece_11 : decode cX10_insertPiece 11 = .ok (.getfield 50, 3) := by decide +kernel
theorem dX10_insertPiece_14 : decode cX10_insertPiece 14 = .ok (.iload_n 3, 1) := by decide +kernel
theorem dX10_insertPiece_15 : decode cX10_insertPiece 15 = .ok (.aload_n 0, 1) := by decide +kernel
theorem dX10_insertPiece_16 : decode cX10_insertPiece 16 = .ok (.getfield 50, 3) := by decide +kernel
theorem dX10_insertPiece_19 : decode cX10_insertPiece 19 = .ok (.iload_n 3, 1) := by decide +kernel
theorem dX10_insertPiece_20 : decode cX10_insertPiece 20 = .ok (.iconst 1, 1) := by decide +kernel
theorem dX10_insertPiece_21 : decode cX10_insertPiece 21 = .ok (.isub, 1) := by decide +kernel
theorem dX10_insertPiece_22 : decode cX10_insertPiece 22 = .ok (.iaload, 1) := by decide +kernel
theorem dX10_insertPiece_23 : decode cX10_insertPiece 23 = .ok (.iastore, 1) := by decide +kernel
theorem dX10_insertPiece_24 : decode cX10_insertPiece 24 = .ok (.aload_n 0, 1) := by decide +kernel
theorem dX10_insertPiece_25 : decode cX10_insertPiece 25 = .ok (.getfield 53, 3) := by decide +kernel
theorem dX10_insertPiece_28 : decode cX10_insertPiece 28 = .ok (.iload_n 3, 1) := by decide +kernel
theorem dX10_insertPiece_29 : decode cX10_insertPiece 29 = .ok (.aload_n 0, 1) := by decide +kernel
theorem dX10_insertPiece_30 : decode cX10_insertPiece 30 = .ok (.getfield 53, 3) := by decide +kernel
theorem dX10_insertPiece_33 : decode cX10_insertPiece 33 = .ok (.iload_n 3, 1) := by decide +kernel
theorem dX10_insertPiece_34 : decode cX10_insertPiece 34 = .ok (.iconst 1, 1) := by decide +kernel
theorem dX10_insertPiece_35 : decode cX10_insertPiece 35 = .ok (.isub, 1) := by decide +kernel
theorem dX10_insertPiece_36 : decode cX10_insertPiece 36 = .ok (.iaload, 1) := by decide +kernel
theorem dX10_insertPiece_37 : decode cX10_insertPiece 37 = .ok (.iastore, 1) := by decide +kernel
theorem dX10_insertPiece_38 : decode cX10_insertPiece 38 = .ok (.aload_n 0, 1) := by decide +kernel
theorem dX10_insertPiece_39 : decode cX10_insertPiece 39 = .ok (.getfield 56, 3) := by decide +kernel
theorem dX10_insertPiece_42 : decode cX10_insertPiece 42 = .ok (.iload_n 3, 1) := by decide +kernel
theorem dX10_insertPiece_43 : decode cX10_insertPiece 43 = .ok (.aload_n 0, 1) := by decide +kernel
theorem dX10_insertPiece_44 : decode cX10_insertPiece 44 = .ok (.getfield 56, 3) := by decide +kernel
theorem dX10_insertPiece_47 : decode cX10_insertPiece 47 = .ok (.iload_n 3, 1) := by decide +kernel
theorem dX10_insertPiece_48 : decode cX10_insertPiece 48 = .ok (.iconst 1, 1) := by decide +kernel
theorem dX10_insertPiece_49 : decode cX10_insertPiece 49 = .ok (.isub, 1) := by decide +kernel
theorem dX10_insertPiece_50 : decode cX10_insertPiece 50 = .ok (.iaload, 1) := by decide +kernel
theorem dX10_insertPiece_51 : decode cX10_insertPiece 51 = .ok (.iastore, 1) := by decide +kernel
theorem dX10_insertPiece_52 : decode cX10_insertPiece 52 = .ok (.aload_n 0, 1) := by decide +kernel
theorem dX10_insertPiece_53 : decode cX10_insertPiece 53 = .ok (.getfield 59, 3) := by decide +kernel
theorem dX10_insertPiece_56 : decode cX10_insertPiece 56 = .ok (.iload_n 3, 1) := by decide +kernel
theorem dX10_insertPiece_57 : decode cX10_insertPiece 57 = .ok (.aload_n 0, 1) := by decide +kernel
theorem dX10_insertPiece_58 : decode cX10_insertPiece 58 = .ok (.getfield 59, 3) := by decide +kernel
theorem dX10_insertPiece_61 : decode cX10_insertPiece 61 = .ok (.iload_n 3, 1) := by decide +kernel
theorem dX10_insertPiece_62 : decode cX10_insertPiece 62 = .ok (.iconst 1, 1) := by decide +kernel
theorem dX10_insertPiece_63 : decode cX10_insertPiece 63 = .ok (.isub, 1) := by decide +kernel
theorem dX10_insertPiece_64 : decode cX10_insertPiece 64 = .ok (.iaload, 1) := by decide +kernel
theorem dX10_insertPiece_65 : decode cX10_insertPiece 65 = .ok (.iastore, 1) := by decide +kernel
theorem dX10_insertPiece_66 : decode cX10_insertPiece 66 = .ok (.iinc 3 (-1), 3) := by decide +kernel
theorem dX10_insertPiece_69 : decode cX10_insertPiece 69 = .ok (.goto (-64), 3) := by decide +kernel
theorem dX10_insertPiece_0 : decode cX10_insertPiece 0 = .ok (.aload_n 0, 1) := by decide +kernel
theorem dX10_insertPiece_1 : decode cX10_insertPiece 1 = .ok (.getfield 158, 3) := by decide +kernel
theorem dX10_insertPiece_4 : decode cX10_insertPiece 4 = .ok (.istore_n 3, 1) := by decide +kernel
theorem dX10_insertPiece_72 : decode cX10_insertPiece 72 = .ok (.aload_n 0, 1) := by decide +kernel
theorem dX10_insertPiece_73 : decode cX10_insertPiece 73 = .ok (.getfield 50, 3) := by decide +kernel
theorem dX10_insertPiece_76 : decode cX10_insertPiece 76 = .ok (.iload_n 1, 1) := by decide +kernel
theorem dX10_insertPiece_77 : decode cX10_insertPiece 77 = .ok (.iload_n 2, 1) := by decide +kernel
theorem dX10_insertPiece_78 : decode cX10_insertPiece 78 = .ok (.iastore, 1) := by decide +kernel
theorem dX10_insertPiece_79 : decode cX10_insertPiece 79 = .ok (.aload_n 0, 1) := by decide +kernel
theorem dX10_insertPiece_80 : decode cX10_insertPiece 80 = .ok (.getfield 53, 3) := by decide +kernel
theorem dX10_insertPiece_83 : decode cX10_insertPiece 83 = .ok (.iload_n 1, 1) := by decide +kernel
theorem dX10_insertPiece_84 : decode cX10_insertPiece 84 = .ok (.iconst 0, 1) := by decide +kernel
theorem dX10_insertPiece_85 : decode cX10_insertPiece 85 = .ok (.iastore, 1) := by decide +kernel
theorem dX10_insertPiece_86 : decode cX10_insertPiece 86 = .ok (.aload_n 0, 1) := by decide +kernel
theorem dX10_insertPiece_87 : decode cX10_insertPiece 87 = .ok (.getfield 56, 3) := by decide +kernel
theorem dX10_insertPiece_90 : decode cX10_insertPiece 90 = .ok (.iload_n 1, 1) := by decide +kernel
theorem dX10_insertPiece_91 : decode cX10_insertPiece 91 = .ok (.aload_n 0, 1) := by decide +kernel
theorem dX10_insertPiece_92 : decode cX10_insertPiece 92 = .ok (.getfield 41, 3) := by decide +kernel
theorem dX10_insertPiece_95 : decode cX10_insertPiece 95 = .ok (.aload_n 0, 1) := by decide +kernel
theorem dX10_insertPiece_96 : decode cX10_insertPiece 96 = .ok (.getfield 17, 3) := by decide +kernel
theorem dX10_insertPiece_99 : decode cX10_insertPiece 99 = .ok (.iload_n 2, 1) := by decide +kernel
theorem dX10_insertPiece_100 : decode cX10_insertPiece 100 = .ok (.iaload, 1) := by decide +kernel
theorem dX10_insertPiece_101 : decode cX10_insertPiece 101 = .ok (.iaload, 1) := by decide +kernel
theorem dX10_insertPiece_102 : decode cX10_insertPiece 102 = .ok (.iastore, 1) := by decide +kernel
theorem dX10_insertPiece_103 : decode cX10_insertPiece 103 = .ok (.aload_n 0, 1) := by decide +kernel
theorem dX10_insertPiece_104 : decode cX10_insertPiece 104 = .ok (.getfield 59, 3) := by decide +kernel
theorem dX10_insertPiece_107 : decode cX10_insertPiece 107 = .ok (.iload_n 1, 1) := by decide +kernel
theorem dX10_insertPiece_108 : decode cX10_insertPiece 108 = .ok (.aload_n 0, 1) := by decide +kernel
theorem dX10_insertPiece_109 : decode cX10_insertPiece 109 = .ok (.getfield 59, 3) := by decide +kernel
theorem dX10_insertPiece_112 : decode cX10_insertPiece 112 = .ok (.iload_n 1, 1) := by decide +kernel
theorem dX10_insertPiece_113 : decode cX10_insertPiece 113 = .ok (.iconst 1, 1) := by decide +kernel
theorem dX10_insertPiece_114 : decode cX10_insertPiece 114 = .ok (.isub, 1) := by decide +kernel
theorem dX10_insertPiece_115 : decode cX10_insertPiece 115 = .ok (.iaload, 1) := by decide +kernel
theorem dX10_insertPiece_116 : decode cX10_insertPiece 116 = .ok (.iastore, 1) := by decide +kernel
theorem dX10_insertPiece_117 : decode cX10_insertPiece 117 = .ok (.aload_n 0, 1) := by decide +kernel
theorem dX10_insertPiece_118 : decode cX10_insertPiece 118 = .ok (.dup, 1) := by decide +kernel
theorem dX10_insertPiece_119 : decode cX10_insertPiece 119 = .ok (.getfield 158, 3) := by decide +kernel
theorem dX10_insertPiece_122 : decode cX10_insertPiece 122 = .ok (.iconst 1, 1) := by decide +kernel
theorem dX10_insertPiece_123 : decode cX10_insertPiece 123 = .ok (.iadd, 1) := by decide +kernel
theorem dX10_insertPiece_124 : decode cX10_insertPiece 124 = .ok (.putfield 158, 3) := by decide +kernel
theorem dX10_insertPiece_127 : decode cX10_insertPiece 127 = .ok (.return_, 1) := by decide +kernel
set_option maxHeartbeats 1000000 in
set_option maxRecDepth 100000 in
theorem lh_word {p : Program} {l : Launch} {e : Env} {R : Room} {s : State} {m : MethodId} {args : Array Value} {below : List Frame} {meth : Method} {c : Code} {cells slots : Nat} {Q : State → Prop} {D : va_G} {A : Nat → Prop} {h0 : Nat} {q : Nat → Nat} {cB cI cZ : ClassId} {I : Nat → Int32} {F : Nat → Nat → Int32} {n : Nat} (hI1 : I 1 = nI n) (hn : n ≤ 1200) (hRf : 1 ≤ R.frames) (hRl : 21 ≤ R.locals) (hRc : cells ≤ R.cells) (hRs : slots ≤ R.slots) (hA : ∀ q : Nat, s.heap.size ≤ q → A q) (hf : CallFix p m c cX10_hasWord 2 s args gT yX10_hasWord.cls) (hK : va_K D vcl (mT cB cI cZ) s) :
    ∀ (k : Nat) (i : Nat) (H : Heap) (locs : List Loc) (ls : Array Slot), i + k = n → (∀ j, j < i → tx_gap (F 0 j)) →  va_P D vcl (mW h0 q cB cI cZ I F) H → va_D A (mW h0 q cB cI cZ I F) → va_S A s.heap H locs → lv_has ls 2 [(1, .int (nI i)), (0, .ref h0)] →
    (∀  (H : Heap) (locs : List Loc) (ls : Array Slot), (∃ j, j < n ∧ ¬ tx_gap (F 0 j)) → va_P D vcl (mW h0 q cB cI cZ I F) H → va_D A (mW h0 q cB cI cZ I F) → va_S A s.heap H locs → lv_has ls 2 [(0, .ref h0)] → W p l e R s m args below meth c H locs cells slots Q (F0 m 18 ls [])) →
    (∀  (H : Heap) (locs : List Loc) (ls : Array Slot), (∀ j, j < n → tx_gap (F 0 j)) → va_P D vcl (mW h0 q cB cI cZ I F) H → va_D A (mW h0 q cB cI cZ I F) → va_S A s.heap H locs → lv_has ls 2 [(0, .ref h0)] → W p l e R s m args below meth c H locs cells slots Q (F0 m 26 ls [])) →
    W p l e R s m args below meth c H locs cells slots Q (F0 m 2 ls []) := by
  obtain ⟨hx, hb, hml, hown, hts⟩ := id hf
  intro k
  induction k with
  | zero =>
    intro i H locs ls hik hno hP hD hS hl kY kN
    refine lv_iload_n hx hb dX10_hasWord_2 rfl (lv_at hl 0 rfl) ?_
    refine lv_aload_n hx hb dX10_hasWord_3 rfl (lv_at hl 1 rfl) ?_
    refine va_get (D := D) (ci := 11) (v := .int (I 1)) (C := RX10) (T := TX10) (N := 48) hx hb hts inX10 hown hK hP 0 rfl rfl 1 (by decide) (hts _ k_1145) (fun _ h9 => h9) rfl dX10_hasWord_4 ?_
    refine q_seti (y := (nI n)) hI1 ?_
    refine lv_icmp_ge (tgt := 26) hx hb dX10_hasWord_7 (by decide) (fun c_1 => ?_) (fun c_1 => ?_)
    · have c_1 := q_le (a := n) (b := i) (by omega) (by omega) c_1
      exact kN H locs ls (fun j hj => hno j (by omega)) hP hD hS (lv_sub hl (l' := [(0, .ref h0)]) [1] rfl)
    · have c_1 := q_nle (a := n) (b := i) (by omega) (by omega) c_1
      exact absurd hik (by omega)
  | succ k ih =>
    intro i H locs ls hik hno hP hD hS hl kY kN
    refine lv_iload_n hx hb dX10_hasWord_2 rfl (lv_at hl 0 rfl) ?_
    refine lv_aload_n hx hb dX10_hasWord_3 rfl (lv_at hl 1 rfl) ?_
    refine va_get (D := D) (ci := 11) (v := .int (I 1)) (C := RX10) (T := TX10) (N := 48) hx hb hts inX10 hown hK hP 0 rfl rfl 1 (by decide) (hts _ k_1145) (fun _ h9 => h9) rfl dX10_hasWord_4 ?_
    refine q_seti (y := (nI n)) hI1 ?_
    refine lv_icmp_ge (tgt := 26) hx hb dX10_hasWord_7 (by decide) (fun c_1 => ?_) (fun c_1 => ?_)
    · have c_1 := q_le (a := n) (b := i) (by omega) (by omega) c_1
      exact absurd hik (by omega)
    · have c_1 := q_nle (a := n) (b := i) (by omega) (by omega) c_1
      refine lv_aload_n hx hb dX10_hasWord_10 rfl (lv_at hl 1 rfl) ?_
      refine lv_iload_n hx hb dX10_hasWord_11 rfl (lv_at hl 0 rfl) ?_
      refine q_ci (k := cells) (n := slots) hK hP hD hS hA (fun hPc hKc hDc => q_rV (As := [.int (nI i)]) (rest := []) hf (r_isBlank _ D h0 q cB cI cZ I F i (by omega) _) k_1344 k_1341 k_1343 k_55 k_98 (nA := 1) (by decide +kernel) ⟨Nat.le_trans (by decide) hRf, Nat.le_trans (by decide) hRl⟩ hK hP (ci := 11) (q0 := 0) rfl rfl rfl hPc hKc hDc (fun _ _ _ _ h => h) (fun _ _ _ => trivial) rfl hl.1 rfl (Nat.le_of_ble_eq_true rfl) dX10_hasWord_12 ⟨hRc, hRs⟩) (Nat.le_refl _) (Nat.le_refl _) (fun r u H locs hw hK hP hD hS => ?_)
      rcases hw with ⟨⟨c_2, rfl⟩ | ⟨c_2, rfl⟩, rfl⟩
      · have hP : va_P D vcl (mW h0 q cB cI cZ I F) H := hP
        have hD : va_D A (mW h0 q cB cI cZ I F) := hD
        refine lv_if_ne (tgt := 20) hx hb dX10_hasWord_15 (by decide) (fun _ => ?_) (fun hno => absurd hno (by decide))
        refine lv_iinc (v := (nI (i + 1))) (lv' := [(1, .int (nI (i + 1))), (0, .ref h0)]) hx hb dX10_hasWord_20 hl (k := 0) rfl (nI_add i 1) (by decide) rfl (fun ls hl => ?_)
        refine lv_goto (tgt := 2) hx hb dX10_hasWord_23 (by decide) ?_
        exact ih (i + 1) H locs ls (by omega) (fun j hj => (Nat.lt_succ_iff_lt_or_eq.mp hj).elim (hno j) (fun e9 => by rw [e9]; exact c_2)) hP hD hS (lv_sub hl (l' := [(1, .int (nI (i + 1))), (0, .ref h0)]) [0, 1] rfl) kY kN
      · have hP : va_P D vcl (mW h0 q cB cI cZ I F) H := hP
        have hD : va_D A (mW h0 q cB cI cZ I F) := hD
        refine lv_if_ne (tgt := 20) hx hb dX10_hasWord_15 (by decide) (fun hno => absurd hno (by decide)) (fun _ => ?_)
        exact kY H locs ls ⟨i, by omega, c_2⟩ hP hD hS (lv_sub hl (l' := [(0, .ref h0)]) [1] rfl)
set_option maxHeartbeats 1000000 in
set_option maxRecDepth 100000 in
theorem r_hasWord (l : Launch) (D : va_G) (h0 : Nat) (q : Nat → Nat) (cB cI_ cZ : ClassId) (I : Nat → Int32) (F : Nat → Nat → Int32) (n : Nat) (hI1 : I 1 = nI n) (hn : n ≤ 1200) : cI l D yX10_hasWord cX10_hasWord 2 (some .boolean) 1 21 0 0 [.ref h0] zT (mW h0 q cB cI_ cZ I F) (mT cB cI_ cZ) (fun r u => ((∃ j, j < n ∧ ¬ tx_gap (F 0 j)) ∧ r = 1 ∨ ¬ (∃ j, j < n ∧ ¬ tx_gap (F 0 j)) ∧ r = 0) ∧ u = (mW h0 q cB cI_ cZ I F, mT cB cI_ cZ)) := by
  refine q_si (by decide) (Nat.le_of_ble_eq_true rfl) ?_
  intro p e s m below meth c A ls hAe hf hr hlocks hin hK hP hD hS hA hZ hl
  obtain ⟨hx, hb, hml, hown, hts⟩ := id hf
  have hl : lv_has ls 2 [(0, .ref h0)] := hl
  refine lv_iconst (v := 0) hx hb dX10_hasWord_0 (by decide) ?_
  refine lv_istore_n (lv' := [(1, .int 0), (0, .ref h0)]) hx hb dX10_hasWord_1 rfl hl (by decide) rfl (fun ls hl => ?_)
  refine lh_word hI1 hn (Nat.le_of_ble_eq_true rfl) (Nat.le_of_ble_eq_true rfl) (Nat.le_of_ble_eq_true rfl) (Nat.le_of_ble_eq_true rfl) hA hf hK n 0 _ _ ls (by omega) (fun j hj => absurd hj (Nat.not_lt_zero j)) hP hD hS (lv_sub hl (l' := [(1, .int 0), (0, .ref h0)]) [0, 1] rfl) (fun H locs ls a1 hP hD hS hl => ?_) (fun H locs ls a1 hP hD hS hl => ?_)
  · refine lv_iconst (v := 1) hx hb dX10_hasWord_18 (by decide) ?_
    exact q_zi hf hr rfl hlocks hK hP hD hS (Nat.le_of_ble_eq_true rfl) (Nat.le_of_ble_eq_true rfl) ⟨Or.inl ⟨a1, rfl⟩, rfl⟩ dX10_hasWord_19
  · refine lv_iconst (v := 0) hx hb dX10_hasWord_26 (by decide) ?_
    exact q_zi hf hr rfl hlocks hK hP hD hS (Nat.le_of_ble_eq_true rfl) (Nat.le_of_ble_eq_true rfl) ⟨Or.inr ⟨fun ⟨j, h1, h2⟩ => h2 (a1 j h1), rfl⟩, rfl⟩ dX10_hasWord_27
set_option maxHeartbeats 1000000 in
set_option maxRecDepth 100000 in
theorem li_sh {p : Program} {l : Launch} {e : Env} {R : Room} {s : State} {m : MethodId} {args : Array Value} {below : List Frame} {meth : Method} {c : Code} {cells slots : Nat} {Q : State → Prop} {D : va_G} {A : Nat → Prop} {h0 : Nat} {q : Nat → Nat} {cB cI cZ : ClassId} {I : Nat → Int32} {F : Nat → Nat → Int32} {pn at_ e_ : Nat} (hpn : pn ≤ 7000) (hat1 : 1 ≤ at_) (hRf : 0 ≤ R.frames) (hRl : 0 ≤ R.locals) (hRc : cells ≤ R.cells) (hRs : slots ≤ R.slots) (hA : ∀ q : Nat, s.heap.size ≤ q → A q) (hf : CallFix p m c cX10_insertPiece 4 s args gT yX10_insertPiece.cls) (hK : va_K D vcl (mT cB cI cZ) s) :
    ∀ (k : Nat) (i : Nat) (H : Heap) (locs : List Loc) (ls : Array Slot), i = at_ + k → i ≤ pn →  va_P D vcl (mW h0 q cB cI cZ I (va_up (va_up (va_up (va_up F 15 (shf (F 15) i pn)) 16 (shf (F 16) i pn)) 17 (shf (F 17) i pn)) 18 (shf (F 18) i pn))) H → va_D A (mW h0 q cB cI cZ I (va_up (va_up (va_up (va_up F 15 (shf (F 15) i pn)) 16 (shf (F 16) i pn)) 17 (shf (F 17) i pn)) 18 (shf (F 18) i pn))) → va_S A s.heap H locs → lv_has ls 4 [(3, .int (nI i)), (2, .int (nI e_)), (1, .int (nI at_)), (0, .ref h0)] →
    (∀  (H : Heap) (locs : List Loc) (ls : Array Slot), va_P D vcl (mW h0 q cB cI cZ I (va_up (va_up (va_up (va_up F 15 (shf (F 15) at_ pn)) 16 (shf (F 16) at_ pn)) 17 (shf (F 17) at_ pn)) 18 (shf (F 18) at_ pn))) H → va_D A (mW h0 q cB cI cZ I (va_up (va_up (va_up (va_up F 15 (shf (F 15) at_ pn)) 16 (shf (F 16) at_ pn)) 17 (shf (F 17) at_ pn)) 18 (shf (F 18) at_ pn))) → va_S A s.heap H locs → lv_has ls 4 [(2, .int (nI e_)), (1, .int (nI at_)), (0, .ref h0)] → W p l e R s m args below meth c H locs cells slots Q (F0 m 72 ls [])) →
    W p l e R s m args below meth c H locs cells slots Q (F0 m 5 ls []) := by
  obtain ⟨hx, hb, hml, hown, hts⟩ := id hf
  intro k
  induction k with
  | zero =>
    intro i H locs ls hik hin hP hD hS hl kk
    refine lv_iload_n hx hb dX10_insertPiece_5 rfl (lv_at hl 0 rfl) ?_
    refine lv_iload_n hx hb dX10_insertPiece_6 rfl (lv_at hl 2 rfl) ?_
    refine lv_icmp_le (tgt := 72) hx hb dX10_insertPiece_7 (by decide) (fun c_1 => ?_) (fun c_1 => ?_)
    · have c_1 := q_le (a := i) (b := at_) (by omega) (by omega) c_1
      obtain rfl : at_ = i := by omega
      exact kk H locs ls hP hD hS (lv_sub hl (l' := [(2, .int (nI e_)), (1, .int (nI at_)), (0, .ref h0)]) [1, 2, 3] rfl)
    · have c_1 := q_nle (a := i) (b := at_) (by omega) (by omega) c_1
      exact absurd hik (by omega)
  | succ k ih =>
    intro i H locs ls hik hin hP hD hS hl kk
    refine lv_iload_n hx hb dX10_insertPiece_5 rfl (lv_at hl 0 rfl) ?_
    refine lv_iload_n hx hb dX10_insertPiece_6 rfl (lv_at hl 2 rfl) ?_
    refine lv_icmp_le (tgt := 72) hx hb dX10_insertPiece_7 (by decide) (fun c_1 => ?_) (fun c_1 => ?_)
    · have c_1 := q_le (a := i) (b := at_) (by omega) (by omega) c_1
      exact absurd hik (by omega)
    · have c_1 := q_nle (a := i) (b := at_) (by omega) (by omega) c_1
      refine lv_aload_n hx hb dX10_insertPiece_10 rfl (lv_at hl 3 rfl) ?_
      refine va_get (D := D) (ci := 11) (v := .ref (q 15)) (C := RX10) (T := TX10) (N := 48) hx hb hts inX10 hown hK hP 0 rfl rfl 15 (by decide) (hts _ k_1159) (fun _ h9 => h9) rfl dX10_insertPiece_11 ?_
      refine lv_iload_n hx hb dX10_insertPiece_14 rfl (lv_at hl 0 rfl) ?_
      refine lv_aload_n hx hb dX10_insertPiece_15 rfl (lv_at hl 3 rfl) ?_
      refine va_get (D := D) (ci := 11) (v := .ref (q 15)) (C := RX10) (T := TX10) (N := 48) hx hb hts inX10 hown hK hP 0 rfl rfl 15 (by decide) (hts _ k_1159) (fun _ h9 => h9) rfl dX10_insertPiece_16 ?_
      refine lv_iload_n hx hb dX10_insertPiece_19 rfl (lv_at hl 0 rfl) ?_
      refine lv_iconst (v := 1) hx hb dX10_insertPiece_20 (by decide) ?_
      refine lv_isub hx hb dX10_insertPiece_21 ?_
      refine q_seti (y := nI (i - 1)) (pk_sub (a := i) (b := 1) (by omega)) ?_
      refine q_ild (X := i - 1) (f := (shf (F 15) i pn)) hx hb hK hP 12 1 rfl rfl (by omega) (by decide) dX10_insertPiece_22 ?_
      refine q_ist (X := i) (f := (shf (F 15) i pn)) (x := ((shf (F 15) i pn) (i - 1))) hx hb hK hP hD hS 12 1 rfl rfl (by omega) (by decide) dX10_insertPiece_23 (fun H locs hP hD hS => ?_)
      have hP : va_P D vcl (mW h0 q cB cI cZ I (va_up (va_up (va_up (va_up F 15 (upd (shf (F 15) i pn) i ((shf (F 15) i pn) (i - 1)))) 16 (shf (F 16) i pn)) 17 (shf (F 17) i pn)) 18 (shf (F 18) i pn))) H := hP
      have hD : va_D A (mW h0 q cB cI cZ I (va_up (va_up (va_up (va_up F 15 (upd (shf (F 15) i pn) i ((shf (F 15) i pn) (i - 1)))) 16 (shf (F 16) i pn)) 17 (shf (F 17) i pn)) 18 (shf (F 18) i pn))) := hD
      refine lv_aload_n hx hb dX10_insertPiece_24 rfl (lv_at hl 3 rfl) ?_
      refine va_get (D := D) (ci := 11) (v := .ref (q 16)) (C := RX10) (T := TX10) (N := 48) hx hb hts inX10 hown hK hP 0 rfl rfl 16 (by decide) (hts _ k_1160) (fun _ h9 => h9) rfl dX10_insertPiece_25 ?_
      refine lv_iload_n hx hb dX10_insertPiece_28 rfl (lv_at hl 0 rfl) ?_
      refine lv_aload_n hx hb dX10_insertPiece_29 rfl (lv_at hl 3 rfl) ?_
      refine va_get (D := D) (ci := 11) (v := .ref (q 16)) (C := RX10) (T := TX10) (N := 48) hx hb hts inX10 hown hK hP 0 rfl rfl 16 (by decide) (hts _ k_1160) (fun _ h9 => h9) rfl dX10_insertPiece_30 ?_
      refine lv_iload_n hx hb dX10_insertPiece_33 rfl (lv_at hl 0 rfl) ?_
      refine lv_iconst (v := 1) hx hb dX10_insertPiece_34 (by decide) ?_
      refine lv_isub hx hb dX10_insertPiece_35 ?_
      refine q_seti (y := nI (i - 1)) (pk_sub (a := i) (b := 1) (by omega)) ?_
      refine q_ild (X := i - 1) (f := (shf (F 16) i pn)) hx hb hK hP 13 1 rfl rfl (by omega) (by decide) dX10_insertPiece_36 ?_
      refine q_ist (X := i) (f := (shf (F 16) i pn)) (x := ((shf (F 16) i pn) (i - 1))) hx hb hK hP hD hS 13 1 rfl rfl (by omega) (by decide) dX10_insertPiece_37 (fun H locs hP hD hS => ?_)
      have hP : va_P D vcl (mW h0 q cB cI cZ I (va_up (va_up (va_up (va_up F 15 (upd (shf (F 15) i pn) i ((shf (F 15) i pn) (i - 1)))) 16 (upd (shf (F 16) i pn) i ((shf (F 16) i pn) (i - 1)))) 17 (shf (F 17) i pn)) 18 (shf (F 18) i pn))) H := hP
      have hD : va_D A (mW h0 q cB cI cZ I (va_up (va_up (va_up (va_up F 15 (upd (shf (F 15) i pn) i ((shf (F 15) i pn) (i - 1)))) 16 (upd (shf (F 16) i pn) i ((shf (F 16) i pn) (i - 1)))) 17 (shf (F 17) i pn)) 18 (shf (F 18) i pn))) := hD
      refine lv_aload_n hx hb dX10_insertPiece_38 rfl (lv_at hl 3 rfl) ?_
      refine va_get (D := D) (ci := 11) (v := .ref (q 17)) (C := RX10) (T := TX10) (N := 48) hx hb hts inX10 hown hK hP 0 rfl rfl 17 (by decide) (hts _ k_1161) (fun _ h9 => h9) rfl dX10_insertPiece_39 ?_
      refine lv_iload_n hx hb dX10_insertPiece_42 rfl (lv_at hl 0 rfl) ?_
      refine lv_aload_n hx hb dX10_insertPiece_43 rfl (lv_at hl 3 rfl) ?_
      refine va_get (D := D) (ci := 11) (v := .ref (q 17)) (C := RX10) (T := TX10) (N := 48) hx hb hts inX10 hown hK hP 0 rfl rfl 17 (by decide) (hts _ k_1161) (fun _ h9 => h9) rfl dX10_insertPiece_44 ?_
      refine lv_iload_n hx hb dX10_insertPiece_47 rfl (lv_at hl 0 rfl) ?_
      refine lv_iconst (v := 1) hx hb dX10_insertPiece_48 (by decide) ?_
      refine lv_isub hx hb dX10_insertPiece_49 ?_
      refine q_seti (y := nI (i - 1)) (pk_sub (a := i) (b := 1) (by omega)) ?_
      refine q_ild (X := i - 1) (f := (shf (F 17) i pn)) hx hb hK hP 14 1 rfl rfl (by omega) (by decide) dX10_insertPiece_50 ?_
      refine q_ist (X := i) (f := (shf (F 17) i pn)) (x := ((shf (F 17) i pn) (i - 1))) hx hb hK hP hD hS 14 1 rfl rfl (by omega) (by decide) dX10_insertPiece_51 (fun H locs hP hD hS => ?_)
      have hP : va_P D vcl (mW h0 q cB cI cZ I (va_up (va_up (va_up (va_up F 15 (upd (shf (F 15) i pn) i ((shf (F 15) i pn) (i - 1)))) 16 (upd (shf (F 16) i pn) i ((shf (F 16) i pn) (i - 1)))) 17 (upd (shf (F 17) i pn) i ((shf (F 17) i pn) (i - 1)))) 18 (shf (F 18) i pn))) H := hP
      have hD : va_D A (mW h0 q cB cI cZ I (va_up (va_up (va_up (va_up F 15 (upd (shf (F 15) i pn) i ((shf (F 15) i pn) (i - 1)))) 16 (upd (shf (F 16) i pn) i ((shf (F 16) i pn) (i - 1)))) 17 (upd (shf (F 17) i pn) i ((shf (F 17) i pn) (i - 1)))) 18 (shf (F 18) i pn))) := hD
      refine lv_aload_n hx hb dX10_insertPiece_52 rfl (lv_at hl 3 rfl) ?_
      refine va_get (D := D) (ci := 11) (v := .ref (q 18)) (C := RX10) (T := TX10) (N := 48) hx hb hts inX10 hown hK hP 0 rfl rfl 18 (by decide) (hts _ k_1162) (fun _ h9 => h9) rfl dX10_insertPiece_53 ?_
      refine lv_iload_n hx hb dX10_insertPiece_56 rfl (lv_at hl 0 rfl) ?_
      refine lv_aload_n hx hb dX10_insertPiece_57 rfl (lv_at hl 3 rfl) ?_
      refine va_get (D := D) (ci := 11) (v := .ref (q 18)) (C := RX10) (T := TX10) (N := 48) hx hb hts inX10 hown hK hP 0 rfl rfl 18 (by decide) (hts _ k_1162) (fun _ h9 => h9) rfl dX10_insertPiece_58 ?_
      refine lv_iload_n hx hb dX10_insertPiece_61 rfl (lv_at hl 0 rfl) ?_
      refine lv_iconst (v := 1) hx hb dX10_insertPiece_62 (by decide) ?_
      refine lv_isub hx hb dX10_insertPiece_63 ?_
      refine q_seti (y := nI (i - 1)) (pk_sub (a := i) (b := 1) (by omega)) ?_
      refine q_ild (X := i - 1) (f := (shf (F 18) i pn)) hx hb hK hP 15 1 rfl rfl (by omega) (by decide) dX10_insertPiece_64 ?_
      refine q_ist (X := i) (f := (shf (F 18) i pn)) (x := ((shf (F 18) i pn) (i - 1))) hx hb hK hP hD hS 15 1 rfl rfl (by omega) (by decide) dX10_insertPiece_65 (fun H locs hP hD hS => ?_)
      have hP : va_P D vcl (mW h0 q cB cI cZ I (va_up (va_up (va_up (va_up F 15 (upd (shf (F 15) i pn) i ((shf (F 15) i pn) (i - 1)))) 16 (upd (shf (F 16) i pn) i ((shf (F 16) i pn) (i - 1)))) 17 (upd (shf (F 17) i pn) i ((shf (F 17) i pn) (i - 1)))) 18 (upd (shf (F 18) i pn) i ((shf (F 18) i pn) (i - 1))))) H := hP
      have hD : va_D A (mW h0 q cB cI cZ I (va_up (va_up (va_up (va_up F 15 (upd (shf (F 15) i pn) i ((shf (F 15) i pn) (i - 1)))) 16 (upd (shf (F 16) i pn) i ((shf (F 16) i pn) (i - 1)))) 17 (upd (shf (F 17) i pn) i ((shf (F 17) i pn) (i - 1)))) 18 (upd (shf (F 18) i pn) i ((shf (F 18) i pn) (i - 1))))) := hD
      refine lv_iinc (v := (nI (i - 1))) (lv' := [(3, .int (nI (i - 1))), (2, .int (nI e_)), (1, .int (nI at_)), (0, .ref h0)]) hx hb dX10_insertPiece_66 hl (k := 0) rfl (sb_m1 (by omega)) (by decide) rfl (fun ls hl => ?_)
      refine lv_goto (tgt := 5) hx hb dX10_insertPiece_69 (by decide) ?_
      have hs15 : (upd (shf (F 15) i pn) i ((shf (F 15) i pn) (i - 1))) = shf (F 15) (i - 1) pn := shf_s (by omega) (by omega)
      have hs16 : (upd (shf (F 16) i pn) i ((shf (F 16) i pn) (i - 1))) = shf (F 16) (i - 1) pn := shf_s (by omega) (by omega)
      have hs17 : (upd (shf (F 17) i pn) i ((shf (F 17) i pn) (i - 1))) = shf (F 17) (i - 1) pn := shf_s (by omega) (by omega)
      have hs18 : (upd (shf (F 18) i pn) i ((shf (F 18) i pn) (i - 1))) = shf (F 18) (i - 1) pn := shf_s (by omega) (by omega)
      rw [hs15, hs16, hs17, hs18] at hP hD
      exact ih (i - 1) H locs ls (by omega) (by omega) hP hD hS (lv_sub hl (l' := [(3, .int (nI (i - 1))), (2, .int (nI e_)), (1, .int (nI at_)), (0, .ref h0)]) [0, 1, 2, 3] rfl) kk
set_option maxHeartbeats 1000000 in
set_option maxRecDepth 100000 in
theorem r_insertPiece (l : Launch) (D : va_G) (h0 : Nat) (q : Nat → Nat) (cB cI_ cZ : ClassId) (I : Nat → Int32) (F : Nat → Nat → Int32) (pn at_ e_ t rw_ : Nat) (hI14 : I 14 = nI pn) (hpn : pn ≤ 7000) (hat1 : 1 ≤ at_) (hat2 : at_ ≤ pn) (he : e_ < 60) (h4 : F 4 e_ = nI t) (ht : t < 60) (h11 : F 11 t = nI rw_) : cV l D yX10_insertPiece cX10_insertPiece 4 none 0 0 0 0 [.ref h0, .int (nI at_), .int (nI e_)] zT (mW h0 q cB cI_ cZ I F) (mT cB cI_ cZ) (fun u => u = (mW h0 q cB cI_ cZ (upd I 14 (nI (pn + 1))) (va_up (va_up (va_up (va_up F 15 (upd (shf (F 15) at_ pn) at_ (nI e_))) 16 (upd (shf (F 16) at_ pn) at_ 0)) 17 (upd (shf (F 17) at_ pn) at_ (nI rw_))) 18 (upd (shf (F 18) at_ pn) at_ (F 18 (at_ - 1)))), mT cB cI_ cZ)) := by
  refine q_sv (by decide) (Nat.le_of_ble_eq_true rfl) ?_
  intro p e s m below meth c A ls hAe hf hr hlocks hin hK hP hD hS hA hZ hl
  obtain ⟨hx, hb, hml, hown, hts⟩ := id hf
  have hl : lv_has ls 4 [(0, .ref h0), (1, .int (nI at_)), (2, .int (nI e_))] := hl
  refine lv_aload_n hx hb dX10_insertPiece_0 rfl (lv_at hl 0 rfl) ?_
  refine va_get (D := D) (ci := 11) (v := .int (I 14)) (C := RX10) (T := TX10) (N := 48) hx hb hts inX10 hown hK hP 0 rfl rfl 14 (by decide) (hts _ k_1158) (fun _ h9 => h9) rfl dX10_insertPiece_1 ?_
  refine q_seti (y := (nI pn)) hI14 ?_
  refine lv_istore_n (lv' := [(3, .int (nI pn)), (0, .ref h0), (1, .int (nI at_)), (2, .int (nI e_))]) hx hb dX10_insertPiece_4 rfl hl (by decide) rfl (fun ls hl => ?_)
  have hs0 := fun k => shf_0 (F k) pn
  have hz9 : F = va_up (va_up (va_up (va_up F 15 (shf (F 15) pn pn)) 16 (shf (F 16) pn pn)) 17 (shf (F 17) pn pn)) 18 (shf (F 18) pn pn) := by rw [hs0, hs0, hs0, hs0, va_up_id9, va_up_id9, va_up_id9, va_up_id9]
  obtain ⟨hP, hD⟩ := q_set4 hz9 hP hD
  refine li_sh (I := I) (F := F) (pn := pn) (at_ := at_) (e_ := e_) hpn hat1 (Nat.le_of_ble_eq_true rfl) (Nat.le_of_ble_eq_true rfl) (Nat.le_of_ble_eq_true rfl) (Nat.le_of_ble_eq_true rfl) hA hf hK (pn - at_) pn _ _ ls (by omega) (Nat.le_refl _) hP hD hS (lv_sub hl (l' := [(3, .int (nI pn)), (2, .int (nI e_)), (1, .int (nI at_)), (0, .ref h0)]) [0, 3, 2, 1] rfl) (fun H locs ls hP hD hS hl => ?_)
  have hP : va_P D vcl (mW h0 q cB cI_ cZ I (va_up (va_up (va_up (va_up F 15 (shf (F 15) at_ pn)) 16 (shf (F 16) at_ pn)) 17 (shf (F 17) at_ pn)) 18 (shf (F 18) at_ pn))) H := hP
  have hD : va_D A (mW h0 q cB cI_ cZ I (va_up (va_up (va_up (va_up F 15 (shf (F 15) at_ pn)) 16 (shf (F 16) at_ pn)) 17 (shf (F 17) at_ pn)) 18 (shf (F 18) at_ pn))) := hD
  refine lv_aload_n hx hb dX10_insertPiece_72 rfl (lv_at hl 2 rfl) ?_
  refine va_get (D := D) (ci := 11) (v := .ref (q 15)) (C := RX10) (T := TX10) (N := 48) hx hb hts inX10 hown hK hP 0 rfl rfl 15 (by decide) (hts _ k_1159) (fun _ h9 => h9) rfl dX10_insertPiece_73 ?_
  refine lv_iload_n hx hb dX10_insertPiece_76 rfl (lv_at hl 1 rfl) ?_
  refine lv_iload_n hx hb dX10_insertPiece_77 rfl (lv_at hl 0 rfl) ?_
  refine q_ist (X := at_) (f := (shf (F 15) at_ pn)) (x := (nI e_)) hx hb hK hP hD hS 12 1 rfl rfl (by omega) (by decide) dX10_insertPiece_78 (fun H locs hP hD hS => ?_)
  have hP : va_P D vcl (mW h0 q cB cI_ cZ I (va_up (va_up (va_up (va_up F 15 (upd (shf (F 15) at_ pn) at_ (nI e_))) 16 (shf (F 16) at_ pn)) 17 (shf (F 17) at_ pn)) 18 (shf (F 18) at_ pn))) H := hP
  have hD : va_D A (mW h0 q cB cI_ cZ I (va_up (va_up (va_up (va_up F 15 (upd (shf (F 15) at_ pn) at_ (nI e_))) 16 (shf (F 16) at_ pn)) 17 (shf (F 17) at_ pn)) 18 (shf (F 18) at_ pn))) := hD
  refine lv_aload_n hx hb dX10_insertPiece_79 rfl (lv_at hl 2 rfl) ?_
  refine va_get (D := D) (ci := 11) (v := .ref (q 16)) (C := RX10) (T := TX10) (N := 48) hx hb hts inX10 hown hK hP 0 rfl rfl 16 (by decide) (hts _ k_1160) (fun _ h9 => h9) rfl dX10_insertPiece_80 ?_
  refine lv_iload_n hx hb dX10_insertPiece_83 rfl (lv_at hl 1 rfl) ?_
  refine lv_iconst (v := 0) hx hb dX10_insertPiece_84 (by decide) ?_
  refine q_ist (X := at_) (f := (shf (F 16) at_ pn)) (x := 0) hx hb hK hP hD hS 13 1 rfl rfl (by omega) (by decide) dX10_insertPiece_85 (fun H locs hP hD hS => ?_)
  have hP : va_P D vcl (mW h0 q cB cI_ cZ I (va_up (va_up (va_up (va_up F 15 (upd (shf (F 15) at_ pn) at_ (nI e_))) 16 (upd (shf (F 16) at_ pn) at_ 0)) 17 (shf (F 17) at_ pn)) 18 (shf (F 18) at_ pn))) H := hP
  have hD : va_D A (mW h0 q cB cI_ cZ I (va_up (va_up (va_up (va_up F 15 (upd (shf (F 15) at_ pn) at_ (nI e_))) 16 (upd (shf (F 16) at_ pn) at_ 0)) 17 (shf (F 17) at_ pn)) 18 (shf (F 18) at_ pn))) := hD
  refine lv_aload_n hx hb dX10_insertPiece_86 rfl (lv_at hl 2 rfl) ?_
  refine va_get (D := D) (ci := 11) (v := .ref (q 17)) (C := RX10) (T := TX10) (N := 48) hx hb hts inX10 hown hK hP 0 rfl rfl 17 (by decide) (hts _ k_1161) (fun _ h9 => h9) rfl dX10_insertPiece_87 ?_
  refine lv_iload_n hx hb dX10_insertPiece_90 rfl (lv_at hl 1 rfl) ?_
  refine lv_aload_n hx hb dX10_insertPiece_91 rfl (lv_at hl 2 rfl) ?_
  refine va_get (D := D) (ci := 11) (v := .ref (q 11)) (C := RX10) (T := TX10) (N := 48) hx hb hts inX10 hown hK hP 0 rfl rfl 11 (by decide) (hts _ k_1155) (fun _ h9 => h9) rfl dX10_insertPiece_92 ?_
  refine lv_aload_n hx hb dX10_insertPiece_95 rfl (lv_at hl 2 rfl) ?_
  refine va_get (D := D) (ci := 11) (v := .ref (q 4)) (C := RX10) (T := TX10) (N := 48) hx hb hts inX10 hown hK hP 0 rfl rfl 4 (by decide) (hts _ k_1148) (fun _ h9 => h9) rfl dX10_insertPiece_96 ?_
  refine lv_iload_n hx hb dX10_insertPiece_99 rfl (lv_at hl 0 rfl) ?_
  refine q_ild (X := e_) (f := (F 4)) hx hb hK hP 2 1 rfl rfl (by omega) (by decide) dX10_insertPiece_100 ?_
  refine q_seti (y := (nI t)) h4 ?_
  refine q_ild (X := t) (f := (F 11)) hx hb hK hP 9 1 rfl rfl (by omega) (by decide) dX10_insertPiece_101 ?_
  refine q_seti (y := (nI rw_)) h11 ?_
  refine q_ist (X := at_) (f := (shf (F 17) at_ pn)) (x := (nI rw_)) hx hb hK hP hD hS 14 1 rfl rfl (by omega) (by decide) dX10_insertPiece_102 (fun H locs hP hD hS => ?_)
  have hP : va_P D vcl (mW h0 q cB cI_ cZ I (va_up (va_up (va_up (va_up F 15 (upd (shf (F 15) at_ pn) at_ (nI e_))) 16 (upd (shf (F 16) at_ pn) at_ 0)) 17 (upd (shf (F 17) at_ pn) at_ (nI rw_))) 18 (shf (F 18) at_ pn))) H := hP
  have hD : va_D A (mW h0 q cB cI_ cZ I (va_up (va_up (va_up (va_up F 15 (upd (shf (F 15) at_ pn) at_ (nI e_))) 16 (upd (shf (F 16) at_ pn) at_ 0)) 17 (upd (shf (F 17) at_ pn) at_ (nI rw_))) 18 (shf (F 18) at_ pn))) := hD
  refine lv_aload_n hx hb dX10_insertPiece_103 rfl (lv_at hl 2 rfl) ?_
  refine va_get (D := D) (ci := 11) (v := .ref (q 18)) (C := RX10) (T := TX10) (N := 48) hx hb hts inX10 hown hK hP 0 rfl rfl 18 (by decide) (hts _ k_1162) (fun _ h9 => h9) rfl dX10_insertPiece_104 ?_
  refine lv_iload_n hx hb dX10_insertPiece_107 rfl (lv_at hl 1 rfl) ?_
  refine lv_aload_n hx hb dX10_insertPiece_108 rfl (lv_at hl 2 rfl) ?_
  refine va_get (D := D) (ci := 11) (v := .ref (q 18)) (C := RX10) (T := TX10) (N := 48) hx hb hts inX10 hown hK hP 0 rfl rfl 18 (by decide) (hts _ k_1162) (fun _ h9 => h9) rfl dX10_insertPiece_109 ?_
  refine lv_iload_n hx hb dX10_insertPiece_112 rfl (lv_at hl 1 rfl) ?_
  refine lv_iconst (v := 1) hx hb dX10_insertPiece_113 (by decide) ?_
  refine lv_isub hx hb dX10_insertPiece_114 ?_
  refine q_seti (y := nI (at_ - 1)) (pk_sub (a := at_) (b := 1) (by omega)) ?_
  refine q_ild (X := at_ - 1) (f := (shf (F 18) at_ pn)) hx hb hK hP 15 1 rfl rfl (by omega) (by decide) dX10_insertPiece_115 ?_
  refine q_seti (y := (F 18 (at_ - 1))) (shf_lo (by omega)) ?_
  refine q_ist (X := at_) (f := (shf (F 18) at_ pn)) (x := (F 18 (at_ - 1))) hx hb hK hP hD hS 15 1 rfl rfl (by omega) (by decide) dX10_insertPiece_116 (fun H locs hP hD hS => ?_)
  have hP : va_P D vcl (mW h0 q cB cI_ cZ I (va_up (va_up (va_up (va_up F 15 (upd (shf (F 15) at_ pn) at_ (nI e_))) 16 (upd (shf (F 16) at_ pn) at_ 0)) 17 (upd (shf (F 17) at_ pn) at_ (nI rw_))) 18 (upd (shf (F 18) at_ pn) at_ (F 18 (at_ - 1))))) H := hP
  have hD : va_D A (mW h0 q cB cI_ cZ I (va_up (va_up (va_up (va_up F 15 (upd (shf (F 15) at_ pn) at_ (nI e_))) 16 (upd (shf (F 16) at_ pn) at_ 0)) 17 (upd (shf (F 17) at_ pn) at_ (nI rw_))) 18 (upd (shf (F 18) at_ pn) at_ (F 18 (at_ - 1))))) := hD
  refine lv_aload_n hx hb dX10_insertPiece_117 rfl (lv_at hl 2 rfl) ?_
  refine lv_dup hx hb dX10_insertPiece_118 rfl ?_
  refine va_get (D := D) (ci := 11) (v := .int (I 14)) (C := RX10) (T := TX10) (N := 48) hx hb hts inX10 hown hK hP 0 rfl rfl 14 (by decide) (hts _ k_1158) (fun _ h9 => h9) rfl dX10_insertPiece_119 ?_
  refine q_seti (y := (nI pn)) hI14 ?_
  refine lv_iconst (v := 1) hx hb dX10_insertPiece_122 (by decide) ?_
  refine lv_iadd hx hb dX10_insertPiece_123 ?_
  refine q_seti (y := nI (pn + 1)) (nI_add pn 1) ?_
  refine va_put (D := D) (ci := 11) (v := .int (nI (pn + 1))) (ty := .int) (C := RX10) (T := TX10) (N := 48) hx hb hts inX10 tyX10 tyX10_ok nmX10 hown hK hP hD hS 0 rfl rfl 14 (by decide) (hts _ k_1158) (fun _ h9 => h9) rfl (by decide +kernel) rfl rfl (Nat.le_of_ble_eq_true rfl) dX10_insertPiece_124 (fun H locs hP hD hS => ?_)
  have hP : va_P D vcl (mW h0 q cB cI_ cZ (upd I 14 (nI (pn + 1))) (va_up (va_up (va_up (va_up F 15 (upd (shf (F 15) at_ pn) at_ (nI e_))) 16 (upd (shf (F 16) at_ pn) at_ 0)) 17 (upd (shf (F 17) at_ pn) at_ (nI rw_))) 18 (upd (shf (F 18) at_ pn) at_ (F 18 (at_ - 1))))) H := hP
  have hD : va_D A (mW h0 q cB cI_ cZ (upd I 14 (nI (pn + 1))) (va_up (va_up (va_up (va_up F 15 (upd (shf (F 15) at_ pn) at_ (nI e_))) 16 (upd (shf (F 16) at_ pn) at_ 0)) 17 (upd (shf (F 17) at_ pn) at_ (nI rw_))) 18 (upd (shf (F 18) at_ pn) at_ (F 18 (at_ - 1))))) := hD
  exact q_zv hf hr hlocks hK hP hD hS (Nat.le_of_ble_eq_true rfl) (Nat.le_of_ble_eq_true rfl) rfl dX10_insertPiece_127
