/-- elements bear their own numbers -/
def nmO (Es : List E5) : Prop := ∀ e, e < Es.length → (Es.getD e dE).2.1 = nI e
/-- feed: answer and new tape -/
def fdC (w : Int64) (x3 : Int32) (n : Nat) (T : Nat → Int32) (r : Int32) (n2 : Nat) (T2 : Nat → Int32) : Prop := ((x3 < 1 ∨ 8 < x3) ∧ r = (-2) ∧ n2 = n ∧ T2 = T) ∨ (∃ kn : Nat, kn < 8 ∧ x3 = nI (kn + 1) ∧ ¬ n + (kn + 1) ≤ 1200 ∧ r = (-4) ∧ n2 = n ∧ T2 = T) ∨ (∃ kn : Nat, kn < 8 ∧ x3 = nI (kn + 1) ∧ n + (kn + 1) ≤ 1200 ∧ r = nI n2 ∧ (n2, T2) = tx_fd w (kn + 1) (n, T))
/-- cut: answer and new end -/
def ctC (x1 : Int32) (n : Nat) (r : Int32) (n2 : Nat) : Prop := ((x1 < 0 ∨ nI n < x1) ∧ r = (-2) ∧ n2 = n) ∨ (¬ x1 < 0 ∧ ¬ nI n < x1 ∧ r = nI n - x1 ∧ n2 ≤ n ∧ x1 = nI n2)
noncomputable def vpg (Es : List E5) (P : List Q4) (mo lk gs : Nat) : Int32 := if 0 < lk then nI gs else nI (pgl (fun e => Es.getD e dE) P P.length mo).length
theorem vpg_L {Es : List E5} {P : List Q4} {mo lk gs : Nat} (h : 0 < lk) : vpg Es P mo lk gs = nI gs := if_pos h
theorem vpg_U {Es : List E5} {P : List Q4} {mo lk gs : Nat} (h : lk = 0) : vpg Es P mo lk gs = nI (pgl (fun e => Es.getD e dE) P P.length mo).length := if_neg (by omega)
noncomputable def vco (Es : List E5) (P : List Q4) (mo lk gs : Nat) : Int32 := if 0 < lk then (-1) else bk_least P.length (bk_all (qK (fun e => Es.getD e dE) P) (qF P) (qT P) (qR (fun e => Es.getD e dE) P) P.length mo P.length (fun _ => none))
theorem vco_L {Es : List E5} {P : List Q4} {mo lk gs : Nat} (h : 0 < lk) : vco Es P mo lk gs = (-1) := if_pos h
theorem vco_U {Es : List E5} {P : List Q4} {mo lk gs : Nat} (h : lk = 0) : vco Es P mo lk gs = bk_least P.length (bk_all (qK (fun e => Es.getD e dE) P) (qF P) (qT P) (qR (fun e => Es.getD e dE) P) P.length mo P.length (fun _ => none)) := if_neg (by omega)
theorem rS.pv {I : Nat → Int32} {F : Nat → Nat → Int32} {T : Nat → Int32} {n : Nat} {Es : List E5} {sl : Nat → Nat} {P : List Q4} {mo lk gs rm : Nat} (h : rS I F T n Es sl P mo lk gs) (hi : dI T n Es P mo lk gs rm) : rp_ok F P.length (fun p => (P.getD p d4).1) (fun p => sl (P.getD p d4).1) (qK (fun e => Es.getD e dE) P) (qF P) (qT P) (qR (fun e => Es.getD e dE) P) := rp_of h.2.2.1 h.2.2.2 hi.bd.1 (by have := hi.bd.2.2.1; omega)
theorem dI.ss {T : Nat → Int32} {n : Nat} {Es : List E5} {P : List Q4} {mo lk gs rm : Nat} (hi : dI T n Es P mo lk gs rm) : rs_S (qF P) (qT P) P.length ≤ 8000 := by
  have h := hi.bd.2.1
  unfold qS at h
  omega
theorem dI.gb {T : Nat → Int32} {n : Nat} {Es : List E5} {P : List Q4} {mo lk gs rm : Nat} (hi : dI T n Es P mo lk gs rm) : ∀ p, p < P.length → (P.getD p d4).2.2.2 ≤ 469 := by
  intro p hp
  obtain ⟨a1, a2, a3, a4, a5, a6⟩ := hi
  rcases Nat.eq_zero_or_pos lk with c | c
  · rw [a5 c] at hp ⊢
    rw [upP_len] at hp
    rw [upP_at9 Es _ p hp]
    exact Nat.zero_le _
  · have h1 := (a6 c).2.1 _ (gq_mem hp)
    have h2 := (a6 c).2.2.1
    omega
theorem dI.nc {T : Nat → Int32} {n : Nat} {Es : List E5} {P : List Q4} {mo lk gs rm : Nat} (hi : dI T n Es P mo lk gs rm) : ∀ g, rs_num (qK (fun e => Es.getD e dE) P) (qF P) (qT P) (qR (fun e => Es.getD e dE) P) (fun p => (P.getD p d4).2.2.2) P.length mo g ≤ 8000 := fun g => Nat.le_trans (rs_num_le hi.bd.1 hi.1.2.2.1 hi.1.2.2.2.1) hi.ss
theorem dI.ll {T : Nat → Int32} {n : Nat} {Es : List E5} {P : List Q4} {mo lk gs rm : Nat} (hi : dI T n Es P mo lk gs rm) : ∀ g, (rs_L (qK (fun e => Es.getD e dE) P) (qF P) (qT P) (qR (fun e => Es.getD e dE) P) (fun p => (P.getD p d4).2.2.2) P.length mo g).length ≤ 20000 := fun g => by
  have h := hi.nc g
  rw [rsL_len]
  unfold rs_nm
  split <;> omega
theorem stV_pe {pe pe2 : Nat → Int32} {e : I3} {w : Int32} (h : e.2.1 = -1 ∨ ∃ a b : Nat, e.2.1 = nI a ∧ e.2.2 = nI b ∧ a ≤ 20000 ∧ b ≤ 20000 ∧ pe a = pe2 a ∧ pe b = pe2 b) : stV pe e w = stV pe2 e w := by
  have e1 : (if e.2.1 = -1 then -1 else pe e.2.1.toNatClampNeg) = (if e.2.1 = -1 then -1 else pe2 e.2.1.toNatClampNeg) := by
    rcases h with h | ⟨a, b, h1, h2, h3, h4, h5, h6⟩
    · rw [if_pos h, if_pos h]
    · rw [h1, nI_clamp (by omega), h5]
  have e2 : (if e.2.1 = -1 then -1 else pe e.2.2.toNatClampNeg) = (if e.2.1 = -1 then -1 else pe2 e.2.2.toNatClampNeg) := by
    rcases h with h | ⟨a, b, h1, h2, h3, h4, h5, h6⟩
    · rw [if_pos h, if_pos h]
    · rw [h2, nI_clamp (by omega), h6]
  unfold stV
  rw [e1, e2]
theorem stC_mv {lk g9 gs : Nat} {L : Nat → List I3} {pe pe2 : Nat → Int32} {x1 x2 x3 r : Int32} (h : 0 < lk → g9 = gs) (hp : ∀ g s, s < (L g).length → ((L g).getD s (0, 0, 0)).2.1 = -1 ∨ ∃ a b : Nat, ((L g).getD s (0, 0, 0)).2.1 = nI a ∧ ((L g).getD s (0, 0, 0)).2.2 = nI b ∧ a ≤ 20000 ∧ b ≤ 20000 ∧ pe a = pe2 a ∧ pe b = pe2 b) (hv : stC lk g9 L pe x1 x2 x3 r) : stC lk gs L pe2 x1 x2 x3 r := by
  rcases hv with a | a | ⟨a1, a2, a3, a4⟩ | ⟨g, s, a1, a2, a3, a4⟩
  · exact Or.inl a
  · exact Or.inr (Or.inl a)
  · rw [h a2] at a3
    exact Or.inr (Or.inr (Or.inl ⟨a1, a2, a3, a4⟩))
  · rw [h a2] at a3
    exact Or.inr (Or.inr (Or.inr ⟨g, s, a1, a2, a3, a4.trans (stV_pe (hp g s a3.2.2.1))⟩))
theorem sh_pe {Es : List E5} {P : List Q4} {mo : Nat} (hnm : nmO Es) (hQ : pq_ok Es.length (fun e => Es.getD e dE) P) (hpn : P.length ≤ 20000) (hmo1 : 10 ≤ mo) (hmo : mo ≤ 40) : ∀ g s, s < (rs_L (qK (fun e => Es.getD e dE) P) (qF P) (qT P) (qR (fun e => Es.getD e dE) P) (fun p => (P.getD p d4).2.2.2) P.length mo g).length → ((rs_L (qK (fun e => Es.getD e dE) P) (qF P) (qT P) (qR (fun e => Es.getD e dE) P) (fun p => (P.getD p d4).2.2.2) P.length mo g).getD s (0, 0, 0)).2.1 = -1 ∨ ∃ a b : Nat, ((rs_L (qK (fun e => Es.getD e dE) P) (qF P) (qT P) (qR (fun e => Es.getD e dE) P) (fun p => (P.getD p d4).2.2.2) P.length mo g).getD s (0, 0, 0)).2.1 = nI a ∧ ((rs_L (qK (fun e => Es.getD e dE) P) (qF P) (qT P) (qR (fun e => Es.getD e dE) P) (fun p => (P.getD p d4).2.2.2) P.length mo g).getD s (0, 0, 0)).2.2 = nI b ∧ a ≤ 20000 ∧ b ≤ 20000 ∧ (fun a => nI (P.getD a d4).1) a = (fun a => (Es.getD (P.getD a d4).1 dE).2.1) a ∧ (fun a => nI (P.getD a d4).1) b = (fun a => (Es.getD (P.getD a d4).1 dE).2.1) b := by
  intro g s hs
  have hen := rg_first_le (fun p => (P.getD p d4).2.2.2) (g + 1) P.length 0
  have h1 := (glS_ok (EE := fun e => Es.getD e dE) (fi := rg_first (fun p => (P.getD p d4).2.2.2) g P.length 0) hQ (show rg_first (fun p => (P.getD p d4).2.2.2) (g + 1) P.length 0 ≤ P.length by omega) hmo1 hmo).2 s hs
  have key : ∀ a, a < P.length → nI (P.getD a d4).1 = (Es.getD (P.getD a d4).1 dE).2.1 := fun a ha => (hnm _ (hQ a ha).1).symm
  rcases h1.2 with h2 | ⟨a, b, h2, h3, h4, h5⟩
  · exact Or.inl h2.1
  · exact Or.inr ⟨a, b, h2, h3, by omega, by omega, key a (by omega), key b (by omega)⟩
theorem dI.so {T : Nat → Int32} {n : Nat} {Es : List E5} {P : List Q4} {mo lk gs rm : Nat} (hi : dI T n Es P mo lk gs rm) : ∀ s t, s ≤ t → t < P.length → (P.getD s d4).2.2.2 ≤ (P.getD t d4).2.2.2 := by
  intro s t h1 h2
  obtain ⟨a1, a2, a3, a4, a5, a6⟩ := hi
  rcases Nat.eq_zero_or_pos lk with c | c
  · rw [a5 c] at h2 ⊢
    rw [upP_len] at h2
    rw [upP_at9 Es _ s (by omega)]
    exact Nat.zero_le _
  · exact prS_so (a6 c).1 s t h1 h2
theorem mgI_le (P : List Q4) : ∀ k, (mgI P k).length ≤ k := by
  intro k
  induction k with
  | zero => exact Nat.le_refl _
  | succ k ih =>
    by_cases c : (P.getD k d4).2.1 = 0
    · rw [mgI_1 c, List.length_append]; show (mgI P k).length + 1 ≤ k + 1; omega
    · rw [mgI_0 c]; omega
theorem dI.mI {T : Nat → Int32} {n : Nat} {Es : List E5} {P : List Q4} {mo lk gs rm : Nat} (hi : dI T n Es P mo lk gs rm) (hl : 0 < lk) : mgI P P.length = mgN P P.length := mg_eq (Rw := fun f => eRw (Es.getD f dE)) (hi.2.2.2.2.2 hl).2.2.2.1 _ (Nat.le_refl _)
theorem dI.m6 {T : Nat → Int32} {n : Nat} {Es : List E5} {P : List Q4} {mo lk gs rm : Nat} (hi : dI T n Es P mo lk gs rm) : (mgI P P.length).length ≤ 60 := by
  rcases Nat.eq_zero_or_pos lk with c | c
  · have h1 := mgI_le P P.length
    have h2 := hi.2.2.2.2.1 c
    have h3 : P.length = Es.length := by rw [h2, upP_len]
    have h4 := hi.2.1.1
    omega
  · rw [hi.mI c]
    exact Nat.le_trans (mgN_len (en := Es.length) (fun i hi2 => (hi.2.2.1 _ (gq_mem hi2)).1) _ (Nat.le_refl _)) hi.2.1.1
theorem dI.fi {T : Nat → Int32} {n : Nat} {Es : List E5} {P : List Q4} {mo lk gs rm : Nat} (hi : dI T n Es P mo lk gs rm) : ∀ j, j < Es.length → 0 < lk → (Es.getD j dE).2.2.1 = 0 → ∃ pl, pl < P.length ∧ (P.getD pl d4).1 = j ∧ ∀ i, i < pl → ¬ (P.getD i d4).1 = j := fun j hj hl hs => ex_first (p := fun i => (P.getD i d4).1 = j) _ (pcf_ex ((hi.2.2.2.2.2 hl).2.2.2.2 j hj hs))
theorem dI.la {T : Nat → Int32} {n : Nat} {Es : List E5} {P : List Q4} {mo lk gs rm : Nat} (hi : dI T n Es P mo lk gs rm) : ∀ j, j < Es.length → 0 < lk → (Es.getD j dE).2.2.1 = 0 → ∃ pl, pl < P.length ∧ (P.getD pl d4).1 = j ∧ ∀ i, pl < i → i < P.length → ¬ (P.getD i d4).1 = j := fun j hj hl hs => ex_last (p := fun i => (P.getD i d4).1 = j) _ (pcf_ex ((hi.2.2.2.2.2 hl).2.2.2.2 j hj hs))
theorem sm_rf (I : Nat → Int32) (F : Nat → Nat → Int32) : sm I I F F := ⟨⟨rfl, rfl, rfl⟩, ⟨rfl, rfl, rfl⟩, ⟨rfl, rfl, rfl, rfl, rfl, rfl, rfl, rfl, rfl, rfl, rfl⟩, rfl, rfl, rfl, rfl⟩
theorem cL_mono {l : Launch} {D : va_G} {y : MethodName} {b : ByteArray} {n : Nat} {r : Option FieldType} {fr lo mc ms : Nat} {As : List Value} {Z : Nat → State → Prop} {w0 : va_W} {t0 : List (ClassId × FieldType)} {post post2 : Int64 → wU → Prop} (h : cL l D y b n r fr lo mc ms As Z w0 t0 post) (hp : ∀ r u, post r u → post2 r u) : cL l D y b n r fr lo mc ms As Z w0 t0 post2 := by
  intro sz p e a1 a2 a3 s m args below b1 b2 b3 b4
  obtain ⟨k, o, c1, c2, c3, ⟨⟨⟨r, u, d1, d2, d3⟩, d4⟩, d5⟩⟩ := h sz p e a1 a2 a3 s m args below b1 b2 b3 b4
  exact ⟨k, o, c1, c2, c3, ⟨⟨r, u, d1, hp r u d2, d3⟩, d4⟩, d5⟩
theorem R_element (l : Launch) (D : va_G) (h0 : Nat) (q : Nat → Nat) (cB cI_ cZ : ClassId) {I : Nat → Int32} {F : Nat → Nat → Int32} {T : Nat → Int32} {n : Nat} {Es : List E5} {sl : Nat → Nat} {P : List Q4} {mo lk gs rm : Nat} (x1 : Int32) (x2 : Int32) (h : rS I F T n Es sl P mo lk gs) (hi : dI T n Es P mo lk gs rm) : cI l D yX10_element cX10_element 3 (some .int) 2 43 0 0 [.ref h0, .int x1, .int x2] zT (mW h0 q cB cI_ cZ I F) (mT cB cI_ cZ) (fun r u => ∃ (I2 : Nat → Int32) (F2 : Nat → Nat → Int32), rS I2 F2 T n Es sl P mo lk gs ∧ elC Es.length Es x1 x2 r ∧ u = (mW h0 q cB cI_ cZ I2 F2, mT cB cI_ cZ)) := by
  obtain ⟨⟨a0, a1, a2, a3, a4, a5⟩, a6, a7, a8⟩ := id h
  have hbd := hi.bd
  refine cI_mono (r_element2 l D h0 q cB cI_ cZ I F Es sl x1 x2 a3 a7) (fun r u hu => ?_)
  obtain ⟨hv, rfl⟩ := hu
  exact ⟨I, F, h, hv, rfl⟩
theorem R_rowByte (l : Launch) (D : va_G) (h0 : Nat) (q : Nat → Nat) (cB cI_ cZ : ClassId) {I : Nat → Int32} {F : Nat → Nat → Int32} {T : Nat → Int32} {n : Nat} {Es : List E5} {sl : Nat → Nat} {P : List Q4} {mo lk gs rm : Nat} (x1 : Int32) (x2 : Int32) (x3 : Int32) (h : rS I F T n Es sl P mo lk gs) (hi : dI T n Es P mo lk gs rm) : cI l D yX10_rowByte cX10_rowByte 6 (some .int) 2 43 0 0 [.ref h0, .int x1, .int x2, .int x3] zT (mW h0 q cB cI_ cZ I F) (mT cB cI_ cZ) (fun r u => ∃ (I2 : Nat → Int32) (F2 : Nat → Nat → Int32), rS I2 F2 T n Es sl P mo lk gs ∧ u = (mW h0 q cB cI_ cZ I2 F2, mT cB cI_ cZ)) := by
  obtain ⟨⟨a0, a1, a2, a3, a4, a5⟩, a6, a7, a8⟩ := id h
  have hbd := hi.bd
  refine cI_mono (r_rowByte l D h0 q cB cI_ cZ I F Es sl x1 x2 x3 a3 a7) (fun r u hu => ?_)
  obtain rfl := hu
  exact ⟨I, F, h, rfl⟩
theorem R_count (l : Launch) (D : va_G) (h0 : Nat) (q : Nat → Nat) (cB cI_ cZ : ClassId) {I : Nat → Int32} {F : Nat → Nat → Int32} {T : Nat → Int32} {n : Nat} {Es : List E5} {sl : Nat → Nat} {P : List Q4} {mo lk gs rm : Nat} (x1 : Int32) (h : rS I F T n Es sl P mo lk gs) (hi : dI T n Es P mo lk gs rm) : cI l D yX10_count cX10_count 5 (some .int) 0 0 0 0 [.ref h0, .int x1] zT (mW h0 q cB cI_ cZ I F) (mT cB cI_ cZ) (fun r u => ∃ (I2 : Nat → Int32) (F2 : Nat → Nat → Int32), rS I2 F2 T n Es sl P mo lk gs ∧ r = ctV n Es.length Es lk mo x1 ∧ u = (mW h0 q cB cI_ cZ I2 F2, mT cB cI_ cZ)) := by
  obtain ⟨⟨a0, a1, a2, a3, a4, a5⟩, a6, a7, a8⟩ := id h
  have hbd := hi.bd
  refine cI_mono (rm_count2 l D h0 q cB cI_ cZ I F Es sl n mo lk x1 a3 a7 a1 a2 a5 hi.1.2.2.2.2) (fun r u hu => ?_)
  obtain ⟨hv, rfl⟩ := hu
  exact ⟨I, F, h, hv, rfl⟩
theorem R_pages (l : Launch) (D : va_G) (h0 : Nat) (q : Nat → Nat) (cB cI_ cZ : ClassId) {I : Nat → Int32} {F : Nat → Nat → Int32} {T : Nat → Int32} {n : Nat} {Es : List E5} {sl : Nat → Nat} {P : List Q4} {mo lk gs rm : Nat}  (h : rS I F T n Es sl P mo lk gs) (hi : dI T n Es P mo lk gs rm) : cI l D yX10_pages cX10_pages 1 (some .int) 5 150 0 0 [.ref h0] zT (mW h0 q cB cI_ cZ I F) (mT cB cI_ cZ) (fun r u => ∃ (I2 : Nat → Int32) (F2 : Nat → Nat → Int32), rS I2 F2 T n Es sl P mo lk gs ∧ r = vpg Es P mo lk gs ∧ u = (mW h0 q cB cI_ cZ I2 F2, mT cB cI_ cZ)) := by
  obtain ⟨⟨a0, a1, a2, a3, a4, a5⟩, a6, a7, a8⟩ := id h
  have hbd := hi.bd
  refine cI_mono (r_pages l D h0 q cB cI_ cZ I F P.length lk gs _ _ _ (qF P) (qT P) _ mo (h.pv hi) a2 a4 a5 a6 hi.1.2.2.2.2 hi.1.2.2.2.1 hi.ss) (fun r u hu => ?_)
  rcases hu with ⟨b1, b2, rfl⟩ | ⟨b1, b2, I2, F2, hs, rfl⟩
  · exact ⟨I, F, h, b2.trans (vpg_L b1).symm, rfl⟩
  · exact ⟨I2, F2, h.sm hs, b2.trans (vpg_U b1).symm, rfl⟩
theorem R_cost (l : Launch) (D : va_G) (h0 : Nat) (q : Nat → Nat) (cB cI_ cZ : ClassId) {I : Nat → Int32} {F : Nat → Nat → Int32} {T : Nat → Int32} {n : Nat} {Es : List E5} {sl : Nat → Nat} {P : List Q4} {mo lk gs rm : Nat}  (h : rS I F T n Es sl P mo lk gs) (hi : dI T n Es P mo lk gs rm) : cI l D yX10_cost cX10_cost 1 (some .int) 5 150 0 0 [.ref h0] zT (mW h0 q cB cI_ cZ I F) (mT cB cI_ cZ) (fun r u => ∃ (I2 : Nat → Int32) (F2 : Nat → Nat → Int32), rS I2 F2 T n Es sl P mo lk gs ∧ r = vco Es P mo lk gs ∧ u = (mW h0 q cB cI_ cZ I2 F2, mT cB cI_ cZ)) := by
  obtain ⟨⟨a0, a1, a2, a3, a4, a5⟩, a6, a7, a8⟩ := id h
  have hbd := hi.bd
  refine cI_mono (r_cost l D h0 q cB cI_ cZ I F P.length lk gs _ _ _ (qF P) (qT P) _ mo (h.pv hi) a2 a4 a5 a6 hi.1.2.2.2.2 hi.1.2.2.2.1 hi.ss) (fun r u hu => ?_)
  rcases hu with ⟨b1, b2, rfl⟩ | ⟨b1, b2, I2, F2, hs, rfl⟩
  · exact ⟨I, F, h, b2.trans (vco_L b1).symm, rfl⟩
  · exact ⟨I2, F2, h.sm hs, b2.trans (vco_U b1).symm, rfl⟩
theorem R_page (l : Launch) (D : va_G) (h0 : Nat) (q : Nat → Nat) (cB cI_ cZ : ClassId) {I : Nat → Int32} {F : Nat → Nat → Int32} {T : Nat → Int32} {n : Nat} {Es : List E5} {sl : Nat → Nat} {P : List Q4} {mo lk gs rm : Nat} (x1 : Int32) (x2 : Int32) (h : rS I F T n Es sl P mo lk gs) (hi : dI T n Es P mo lk gs rm) : cI l D yX10_page cX10_page 7 (some .int) 5 150 0 0 [.ref h0, .int x1, .int x2] zT (mW h0 q cB cI_ cZ I F) (mT cB cI_ cZ) (fun r u => ∃ (I2 : Nat → Int32) (F2 : Nat → Nat → Int32), rS I2 F2 T n Es sl P mo lk gs ∧ pgC lk (pgl (fun e => Es.getD e dE) P P.length mo) P.length (fun p => (P.getD p d4).2.2.1 - (P.getD p d4).2.1) (qK (fun e => Es.getD e dE) P) x1 x2 r ∧ u = (mW h0 q cB cI_ cZ I2 F2, mT cB cI_ cZ)) := by
  obtain ⟨⟨a0, a1, a2, a3, a4, a5⟩, a6, a7, a8⟩ := id h
  have hbd := hi.bd
  refine cI_mono (r_page2 l D h0 q cB cI_ cZ I F P.length lk gs _ _ _ (qF P) (qT P) _ mo x1 x2 (h.pv hi) a2 a4 a5 hi.1.2.2.2.2 hi.1.2.2.2.1 hi.ss) (fun r u hu => ?_)
  obtain ⟨hv, I2, F2, hs, rfl⟩ := hu
  exact ⟨I2, F2, h.sm hs, hv, rfl⟩
theorem R_sheets (l : Launch) (D : va_G) (h0 : Nat) (q : Nat → Nat) (cB cI_ cZ : ClassId) {I : Nat → Int32} {F : Nat → Nat → Int32} {T : Nat → Int32} {n : Nat} {Es : List E5} {sl : Nat → Nat} {P : List Q4} {mo lk gs rm : Nat} (x1 : Int32) (h : rS I F T n Es sl P mo lk gs) (hi : dI T n Es P mo lk gs rm) : cI l D yX10_sheets cX10_sheets 2 (some .int) 5 156 0 0 [.ref h0, .int x1] zT (mW h0 q cB cI_ cZ I F) (mT cB cI_ cZ) (fun r u => ∃ (I2 : Nat → Int32) (F2 : Nat → Nat → Int32), rS I2 F2 T n Es sl P mo lk gs ∧ shC lk gs (fun g => rs_nm (qK (fun e => Es.getD e dE) P) (qF P) (qT P) (qR (fun e => Es.getD e dE) P) (fun p => (P.getD p d4).2.2.2) P.length mo g) x1 r ∧ u = (mW h0 q cB cI_ cZ I2 F2, mT cB cI_ cZ)) := by
  obtain ⟨⟨a0, a1, a2, a3, a4, a5⟩, a6, a7, a8⟩ := id h
  have hbd := hi.bd
  obtain ⟨g9, hg9, hgs, hge⟩ : ∃ g9 : Nat, (0 < lk → I 19 = nI g9) ∧ g9 ≤ 8000 ∧ (0 < lk → g9 = gs) := by
    rcases Nat.eq_zero_or_pos lk with c | c
    · exact ⟨0, fun h9 => absurd h9 (by omega), by omega, fun h9 => absurd h9 (by omega)⟩
    · exact ⟨gs, a6, by have := (hi.2.2.2.2.2 c).2.2.1; omega, fun _ => rfl⟩
  refine cI_mono (r_sheets2 l D h0 q cB cI_ cZ I F P.length lk g9 _ _ _ (qF P) (qT P) _ mo (fun p => (P.getD p d4).2.2.2) x1 (h.pv hi) a2 a4 a5 hg9 hi.1.2.2.2.2 hgs hi.1.2.2.1 hi.1.2.2.2.1 hi.ss (fun p hp => ⟨(a8 p hp).2.2.2, by have := hi.gb p hp; omega⟩) hi.nc) (fun r u hu => ?_)
  obtain ⟨hv, I2, F2, hs, rfl⟩ := hu
  exact ⟨I2, F2, h.sm hs, shC_gs hge hv, rfl⟩
theorem R_sheet (l : Launch) (D : va_G) (h0 : Nat) (q : Nat → Nat) (cB cI_ cZ : ClassId) {I : Nat → Int32} {F : Nat → Nat → Int32} {T : Nat → Int32} {n : Nat} {Es : List E5} {sl : Nat → Nat} {P : List Q4} {mo lk gs rm : Nat} (x1 : Int32) (x2 : Int32) (x3 : Int32) (h : rS I F T n Es sl P mo lk gs) (hi : dI T n Es P mo lk gs rm) (hnm : nmO Es) : cI l D yX10_sheet cX10_sheet 4 (some .int) 6 180 0 0 [.ref h0, .int x1, .int x2, .int x3] zT (mW h0 q cB cI_ cZ I F) (mT cB cI_ cZ) (fun r u => ∃ (I2 : Nat → Int32) (F2 : Nat → Nat → Int32), rS I2 F2 T n Es sl P mo lk gs ∧ stC lk gs (rs_L (qK (fun e => Es.getD e dE) P) (qF P) (qT P) (qR (fun e => Es.getD e dE) P) (fun p => (P.getD p d4).2.2.2) P.length mo) (fun a => (Es.getD (P.getD a d4).1 dE).2.1) x1 x2 x3 r ∧ u = (mW h0 q cB cI_ cZ I2 F2, mT cB cI_ cZ)) := by
  obtain ⟨⟨a0, a1, a2, a3, a4, a5⟩, a6, a7, a8⟩ := id h
  have hbd := hi.bd
  obtain ⟨g9, hg9, hgs, hge⟩ : ∃ g9 : Nat, (0 < lk → I 19 = nI g9) ∧ g9 ≤ 8000 ∧ (0 < lk → g9 = gs) := by
    rcases Nat.eq_zero_or_pos lk with c | c
    · exact ⟨0, fun h9 => absurd h9 (by omega), by omega, fun h9 => absurd h9 (by omega)⟩
    · exact ⟨gs, a6, by have := (hi.2.2.2.2.2 c).2.2.1; omega, fun _ => rfl⟩
  refine cI_mono (r_sheet2 l D h0 q cB cI_ cZ I F P.length lk g9 _ _ _ (qF P) (qT P) _ mo (fun p => (P.getD p d4).2.2.2) x1 x2 x3 (h.pv hi) a2 a4 a5 hg9 hi.1.2.2.2.2 hgs hi.1.2.2.1 hi.1.2.2.2.1 hi.ss (fun p hp => ⟨(a8 p hp).2.2.2, by have := hi.gb p hp; omega⟩) hi.nc) (fun r u hu => ?_)
  obtain ⟨hv, I2, F2, hs, rfl⟩ := hu
  exact ⟨I2, F2, h.sm hs, stC_mv hge (sh_pe hnm hbd.1 (by omega) hi.1.2.2.1 hi.1.2.2.2.1) hv, rfl⟩
theorem R_where (l : Launch) (D : va_G) (h0 : Nat) (q : Nat → Nat) (cB cI_ cZ : ClassId) {I : Nat → Int32} {F : Nat → Nat → Int32} {T : Nat → Int32} {n : Nat} {Es : List E5} {sl : Nat → Nat} {P : List Q4} {mo lk gs rm : Nat} (x1 : Int32) (h : rS I F T n Es sl P mo lk gs) (hi : dI T n Es P mo lk gs rm) : cI l D yX10_where cX10_where 7 (some .int) 4 130 0 0 [.ref h0, .int x1] zT (mW h0 q cB cI_ cZ I F) (mT cB cI_ cZ) (fun r u => ∃ (I2 : Nat → Int32) (F2 : Nat → Nat → Int32), rS I2 F2 T n Es sl P mo lk gs ∧ whC lk Es.length Es P (whS (fun e => Es.getD e dE) P P.length mo) x1 r ∧ u = (mW h0 q cB cI_ cZ I2 F2, mT cB cI_ cZ)) := by
  obtain ⟨⟨a0, a1, a2, a3, a4, a5⟩, a6, a7, a8⟩ := id h
  have hbd := hi.bd
  refine cI_mono (r_where2 l D h0 q cB cI_ cZ I F Es sl P mo lk x1 a3 a7 a2 a4 a5 hi.1.2.2.2.2 hi.1.2.2.1 hi.1.2.2.2.1 a8 hbd.1 (by omega) hi.ss (fun p hp => by have := hi.gb p hp; omega) hi.so hi.fi) (fun r u hu => ?_)
  obtain ⟨hv, I2, F2, hs, rfl⟩ := hu
  exact ⟨I2, F2, h.sm hs, hv, rfl⟩
theorem R_scenes (l : Launch) (D : va_G) (h0 : Nat) (q : Nat → Nat) (cB cI_ cZ : ClassId) {I : Nat → Int32} {F : Nat → Nat → Int32} {T : Nat → Int32} {n : Nat} {Es : List E5} {sl : Nat → Nat} {P : List Q4} {mo lk gs rm : Nat}  (h : rS I F T n Es sl P mo lk gs) (hi : dI T n Es P mo lk gs rm) : cI l D yX10_scenes cX10_scenes 3 (some .int) 1 21 0 0 [.ref h0] zT (mW h0 q cB cI_ cZ I F) (mT cB cI_ cZ) (fun r u => ∃ (I2 : Nat → Int32) (F2 : Nat → Nat → Int32), rS I2 F2 T n Es sl P mo lk gs ∧ r = nI (pcnt (bgq (fun e => Es.getD e dE) P 0) P.length) ∧ u = (mW h0 q cB cI_ cZ I2 F2, mT cB cI_ cZ)) := by
  obtain ⟨⟨a0, a1, a2, a3, a4, a5⟩, a6, a7, a8⟩ := id h
  have hbd := hi.bd
  refine cI_mono (r_scenes l D h0 q cB cI_ cZ I F Es sl P a7 a4 (by omega) a8 hbd.1 hi.m6) (fun r u hu => ?_)
  obtain ⟨g45, hv, _, rfl⟩ := hu
  exact ⟨upd I 44 (nI (mgI P P.length).length), va_up F 45 g45, h.sm ⟨⟨rfl, rfl, rfl⟩, ⟨rfl, rfl, rfl⟩, ⟨rfl, rfl, rfl, rfl, rfl, rfl, rfl, rfl, rfl, rfl, rfl⟩, rfl, rfl, rfl, rfl⟩, hv.trans (congrArg nI (scn_eq Es P P.length)), rfl⟩
theorem R_scene (l : Launch) (D : va_G) (h0 : Nat) (q : Nat → Nat) (cB cI_ cZ : ClassId) {I : Nat → Int32} {F : Nat → Nat → Int32} {T : Nat → Int32} {n : Nat} {Es : List E5} {sl : Nat → Nat} {P : List Q4} {mo lk gs rm : Nat} (x1 : Int32) (x2 : Int32) (h : rS I F T n Es sl P mo lk gs) (hi : dI T n Es P mo lk gs rm) : cI l D yX10_scene cX10_scene 3 (some .int) 4 120 0 0 [.ref h0, .int x1, .int x2] zT (mW h0 q cB cI_ cZ I F) (mT cB cI_ cZ) (fun r u => ∃ (I2 : Nat → Int32) (F2 : Nat → Nat → Int32), rS I2 F2 T n Es sl P mo lk gs ∧ u = (mW h0 q cB cI_ cZ I2 F2, mT cB cI_ cZ)) := by
  obtain ⟨⟨a0, a1, a2, a3, a4, a5⟩, a6, a7, a8⟩ := id h
  have hbd := hi.bd
  refine cI_mono (r_scene l D h0 q cB cI_ cZ I F Es sl P mo x1 x2 a7 a2 hi.1.2.2.1 hi.1.2.2.2.1 a4 (by omega) a8 hbd.1 hi.m6) (fun r u hu => ?_)
  obtain ⟨I2, F2, hs, rfl⟩ := hu
  exact ⟨I2, F2, h.sm hs, rfl⟩
theorem R_who (l : Launch) (D : va_G) (h0 : Nat) (q : Nat → Nat) (cB cI_ cZ : ClassId) {I : Nat → Int32} {F : Nat → Nat → Int32} {T : Nat → Int32} {n : Nat} {Es : List E5} {sl : Nat → Nat} {P : List Q4} {mo lk gs rm : Nat} (x1 : Int32) (x2 : Int32) (h : rS I F T n Es sl P mo lk gs) (hi : dI T n Es P mo lk gs rm) : cI l D yX10_who cX10_who 3 (some .int) 4 120 0 0 [.ref h0, .int x1, .int x2] zT (mW h0 q cB cI_ cZ I F) (mT cB cI_ cZ) (fun r u => ∃ (I2 : Nat → Int32) (F2 : Nat → Nat → Int32), rS I2 F2 T n Es sl P mo lk gs ∧ u = (mW h0 q cB cI_ cZ I2 F2, mT cB cI_ cZ)) := by
  obtain ⟨⟨a0, a1, a2, a3, a4, a5⟩, a6, a7, a8⟩ := id h
  have hbd := hi.bd
  refine cI_mono (r_who l D h0 q cB cI_ cZ I F Es sl P x1 x2 a7 a4 (by omega) a8 hbd.1 hi.m6) (fun r u hu => ?_)
  obtain ⟨I2, F2, hs, rfl⟩ := hu
  exact ⟨I2, F2, h.sm hs, rfl⟩
theorem R_parts (l : Launch) (D : va_G) (h0 : Nat) (q : Nat → Nat) (cB cI_ cZ : ClassId) {I : Nat → Int32} {F : Nat → Nat → Int32} {T : Nat → Int32} {n : Nat} {Es : List E5} {sl : Nat → Nat} {P : List Q4} {mo lk gs rm : Nat} (x1 : Int32) (h : rS I F T n Es sl P mo lk gs) (hi : dI T n Es P mo lk gs rm) : cI l D yX10_parts cX10_parts 7 (some .int) 4 120 0 0 [.ref h0, .int x1] zT (mW h0 q cB cI_ cZ I F) (mT cB cI_ cZ) (fun r u => ∃ (I2 : Nat → Int32) (F2 : Nat → Nat → Int32), rS I2 F2 T n Es sl P mo lk gs ∧ paC Es.length Es (fun j => (mgI P P.length).getD j 0) (mgI P P.length).length x1 r ∧ u = (mW h0 q cB cI_ cZ I2 F2, mT cB cI_ cZ)) := by
  obtain ⟨⟨a0, a1, a2, a3, a4, a5⟩, a6, a7, a8⟩ := id h
  have hbd := hi.bd
  refine cI_mono (r_parts2 l D h0 q cB cI_ cZ I F Es sl P x1 a3 a7 a4 (by omega) a8 hbd.1 hi.m6) (fun r u hu => ?_)
  obtain ⟨hv, I2, F2, hs, rfl⟩ := hu
  exact ⟨I2, F2, h.sm hs, hv, rfl⟩
theorem R_digest (l : Launch) (D : va_G) (h0 : Nat) (q : Nat → Nat) (cB cI_ cZ : ClassId) {I : Nat → Int32} {F : Nat → Nat → Int32} {T : Nat → Int32} {n : Nat} {Es : List E5} {sl : Nat → Nat} {P : List Q4} {mo lk gs rm : Nat}  (h : rS I F T n Es sl P mo lk gs) (hi : dI T n Es P mo lk gs rm) : cL l D yX10_digest cX10_digest 7 (some .long) 6 200 0 0 [.ref h0] zT (mW h0 q cB cI_ cZ I F) (mT cB cI_ cZ) (fun r u => ∃ (I2 : Nat → Int32) (F2 : Nat → Nat → Int32), rS I2 F2 T n Es sl P mo lk gs ∧ u = (mW h0 q cB cI_ cZ I2 F2, mT cB cI_ cZ)) := by
  obtain ⟨⟨a0, a1, a2, a3, a4, a5⟩, a6, a7, a8⟩ := id h
  have hbd := hi.bd
  rcases Nat.eq_zero_or_pos lk with c | c
  · refine cL_mono (r_digU l D h0 q cB cI_ cZ I F Es sl P.length lk _ _ _ (qF P) (qT P) _ mo a3 a7 (h.pv hi) a2 a4 a5 hi.1.2.2.2.2 hi.1.2.2.2.1 hi.ss c) (fun r u hu => ?_)
    obtain ⟨I2, F2, hs, rfl⟩ := hu
    exact ⟨I2, F2, h.sm hs, rfl⟩
  · refine cL_mono (r_digL l D h0 q cB cI_ cZ I F Es sl P.length lk gs _ _ _ (qF P) (qT P) _ mo (fun p => (P.getD p d4).2.2.2) a3 a7 (h.pv hi) a2 a4 a5 a6 hi.1.2.2.2.2 (by have := (hi.2.2.2.2.2 c).2.2.1; omega) hi.1.2.2.1 hi.1.2.2.2.1 hi.ss (fun p hp => ⟨(a8 p hp).2.2.2, by have := hi.gb p hp; omega⟩) hi.nc c) (fun r u hu => ?_)
    obtain ⟨I2, F2, hs, rfl⟩ := hu
    exact ⟨I2, F2, h.sm hs, rfl⟩
theorem fd_no {x3 : Int32} {kn : Nat} (h : x3 < 1 ∨ 8 < x3) (h1 : kn < 8) (h2 : x3 = nI (kn + 1)) : False := by
  rw [h2] at h
  rcases h with h | h
  · have := q_lt (a := kn + 1) (b := 1) (by omega) (by decide) h
    omega
  · have := q_lt (a := 8) (b := kn + 1) (by decide) (by omega) h
    omega
theorem reR_0 {F : Nat → Nat → Int32} {T2 : Nat → Int32} {Es : List E5} {sl : Nat → Nat} (h : reR F Es sl) : reR (va_up F 0 T2) Es sl := h
theorem R_feed (l : Launch) (D : va_G) (h0 : Nat) (q : Nat → Nat) (cB cI_ cZ : ClassId) {I : Nat → Int32} {F : Nat → Nat → Int32} {T : Nat → Int32} {n : Nat} {Es : List E5} {sl : Nat → Nat} {P : List Q4} {mo lk gs rm : Nat} (w : Int64) (x3 : Int32) (h : rS I F T n Es sl P mo lk gs) (hi : dI T n Es P mo lk gs rm) : cI l D yX10_feed cX10_feed 6 (some .int) 1 22 0 0 [.ref h0, .long w, .int x3] zT (mW h0 q cB cI_ cZ I F) (mT cB cI_ cZ) (fun r u => ∃ (n2 : Nat) (T2 : Nat → Int32) (I2 : Nat → Int32) (F2 : Nat → Nat → Int32), rS I2 F2 T2 n2 Es sl P mo lk gs ∧ fdC w x3 n T r n2 T2 ∧ u = (mW h0 q cB cI_ cZ I2 F2, mT cB cI_ cZ)) := by
  obtain ⟨⟨a0, a1, a2, a3, a4, a5⟩, a6, a7, a8⟩ := id h
  have hbd := hi.bd
  refine cI_mono (r_feed l D h0 q cB cI_ cZ I F n w x3 a1 hi.1.1) (fun r u hu => ?_)
  rcases hu with ⟨h1, h9, rfl⟩ | ⟨kn, h1, h2, h3, h9, rfl⟩ | ⟨kn, n2, T2, h1, h2, h3, h4, h5, h9, rfl⟩
  · exact ⟨n, T, I, F, h, Or.inl ⟨h1, h9, rfl, rfl⟩, rfl⟩
  · exact ⟨n, T, I, F, h, Or.inr (Or.inl ⟨kn, h1, h2, h3, h9, rfl, rfl⟩), rfl⟩
  · exact ⟨n2, T2, upd I 1 (nI n2), va_up F 0 T2, ⟨⟨rfl, rfl, a2, a3, a4, a5⟩, a6, reR_0 a7, a8⟩, Or.inr (Or.inr ⟨kn, h1, h2, h3, h9, by rw [← a0]; exact h4⟩), rfl⟩
theorem R_cut (l : Launch) (D : va_G) (h0 : Nat) (q : Nat → Nat) (cB cI_ cZ : ClassId) {I : Nat → Int32} {F : Nat → Nat → Int32} {T : Nat → Int32} {n : Nat} {Es : List E5} {sl : Nat → Nat} {P : List Q4} {mo lk gs rm : Nat} (x1 : Int32) (h : rS I F T n Es sl P mo lk gs) (hi : dI T n Es P mo lk gs rm) : cI l D yX10_cut cX10_cut 3 (some .int) 1 22 0 0 [.ref h0, .int x1] zT (mW h0 q cB cI_ cZ I F) (mT cB cI_ cZ) (fun r u => ∃ (n2 : Nat) (I2 : Nat → Int32) (F2 : Nat → Nat → Int32), rS I2 F2 T n2 Es sl P mo lk gs ∧ ctC x1 n r n2 ∧ u = (mW h0 q cB cI_ cZ I2 F2, mT cB cI_ cZ)) := by
  obtain ⟨⟨a0, a1, a2, a3, a4, a5⟩, a6, a7, a8⟩ := id h
  have hbd := hi.bd
  refine cI_mono (r_cut l D h0 q cB cI_ cZ I F n x1 a1 hi.1.1) (fun r u hu => ?_)
  rcases hu with ⟨h1, h9, rfl⟩ | ⟨h1, h2, h9, rfl⟩ | ⟨h1, h2, h9, rfl⟩
  · exact ⟨n, I, F, h, Or.inl ⟨Or.inl h1, h9, rfl⟩, rfl⟩
  · exact ⟨n, I, F, h, Or.inl ⟨Or.inr h2, h9, rfl⟩, rfl⟩
  · obtain ⟨n2, h3, h4⟩ := nI_of h1
    have h5 : n2 ≤ n := by
      rw [h4] at h2
      exact q_nlt (by have := hi.1.1; omega) h3 h2
    exact ⟨n2, upd I 1 x1, F, ⟨⟨a0, h4, a2, a3, a4, a5⟩, a6, a7, a8⟩, Or.inr ⟨h1, h2, h9, h5, h4⟩, rfl⟩
theorem ln_in {x : Int32} (h1 : ¬ x < 10) (h2 : ¬ 40 < x) : ∃ m2 : Nat, x = nI m2 ∧ 10 ≤ m2 ∧ m2 ≤ 40 := by
  have h0 : ¬ x < 0 := by
    rw [Int32.lt_iff_toInt_lt] at h1 ⊢
    have e1 : (10 : Int32).toInt = 10 := by decide
    have e0 : (0 : Int32).toInt = 0 := by decide
    omega
  obtain ⟨j, hj, e⟩ := nI_of h0
  rw [e] at h1 h2
  exact ⟨j, e, q_nlt (b := 10) hj (by decide) h1, q_nlt (a := 40) (by decide) hj h2⟩
theorem R_length (l : Launch) (D : va_G) (h0 : Nat) (q : Nat → Nat) (cB cI_ cZ : ClassId) {I : Nat → Int32} {F : Nat → Nat → Int32} {T : Nat → Int32} {n : Nat} {Es : List E5} {sl : Nat → Nat} {P : List Q4} {mo lk gs rm : Nat} (x1 : Int32) (h : rS I F T n Es sl P mo lk gs) (hi : dI T n Es P mo lk gs rm) : cI l D yX10_length cX10_length 3 (some .int) 1 22 0 0 [.ref h0, .int x1] zT (mW h0 q cB cI_ cZ I F) (mT cB cI_ cZ) (fun r u => ∃ (mo2 : Nat) (I2 : Nat → Int32) (F2 : Nat → Nat → Int32), rS I2 F2 T n Es sl P mo2 lk gs ∧ ((x1 < 10 ∧ r = (-2) ∧ mo2 = mo) ∨ (¬ x1 < 10 ∧ 40 < x1 ∧ r = (-2) ∧ mo2 = mo) ∨ (¬ x1 < 10 ∧ ¬ 40 < x1 ∧ 0 < lk ∧ r = (-3) ∧ mo2 = mo) ∨ (¬ x1 < 10 ∧ ¬ 40 < x1 ∧ lk = 0 ∧ r = nI mo ∧ x1 = nI mo2 ∧ 10 ≤ mo2 ∧ mo2 ≤ 40)) ∧ u = (mW h0 q cB cI_ cZ I2 F2, mT cB cI_ cZ)) := by
  obtain ⟨⟨a0, a1, a2, a3, a4, a5⟩, a6, a7, a8⟩ := id h
  have hbd := hi.bd
  refine cI_mono (r_length l D h0 q cB cI_ cZ I F mo lk x1 a2 a5 hi.1.2.2.2.2) (fun r u hu => ?_)
  rcases hu with ⟨h1, h9, rfl⟩ | ⟨h1, h2, h9, rfl⟩ | ⟨h1, h2, h3, h9, rfl⟩ | ⟨h1, h2, h3, h9, rfl⟩
  · exact ⟨mo, I, F, h, Or.inl ⟨h1, h9, rfl⟩, rfl⟩
  · exact ⟨mo, I, F, h, Or.inr (Or.inl ⟨h1, h2, h9, rfl⟩), rfl⟩
  · exact ⟨mo, I, F, h, Or.inr (Or.inr (Or.inl ⟨h1, h2, h3, h9, rfl⟩)), rfl⟩
  · obtain ⟨m2, e1, e2, e3⟩ := ln_in h1 h2
    exact ⟨m2, upd I 2 x1, F, ⟨⟨a0, a1, e1, a3, a4, a5⟩, a6, a7, a8⟩, Or.inr (Or.inr (Or.inr ⟨h1, h2, h3, h9, e1, e2, e3⟩)), rfl⟩
theorem rd_sm {I I2 : Nat → Int32} {F F2 : Nat → Nat → Int32} (h : rd_no I I2 F F2) : sm I I2 F F2 := by
  have hi := fun k (hk : k ≠ 21) => h.1 k hk
  have hf := fun k (h1 : k ≠ 22) (h2 : k ≠ 23) (h3 : k ≠ 24) => h.2 k h1 h2 h3
  exact ⟨⟨hi 1 (by decide), hi 2 (by decide), hi 3 (by decide)⟩, ⟨hi 14 (by decide), hi 19 (by decide), hi 20 (by decide)⟩, ⟨hf 0 (by decide) (by decide) (by decide), hf 4 (by decide) (by decide) (by decide), hf 5 (by decide) (by decide) (by decide), hf 6 (by decide) (by decide) (by decide), hf 7 (by decide) (by decide) (by decide), hf 8 (by decide) (by decide) (by decide), hf 9 (by decide) (by decide) (by decide), hf 10 (by decide) (by decide) (by decide), hf 11 (by decide) (by decide) (by decide), hf 12 (by decide) (by decide) (by decide), hf 13 (by decide) (by decide) (by decide)⟩, hf 15 (by decide) (by decide) (by decide), hf 16 (by decide) (by decide) (by decide), hf 17 (by decide) (by decide) (by decide), hf 18 (by decide) (by decide) (by decide)⟩
theorem R_read (l : Launch) (D : va_G) (h0 : Nat) (q : Nat → Nat) (cB cI_ cZ : ClassId) {I : Nat → Int32} {F : Nat → Nat → Int32} {T : Nat → Int32} {n : Nat} {Es : List E5} {sl : Nat → Nat} {P : List Q4} {mo lk gs rm : Nat}  (h : rS I F T n Es sl P mo lk gs) (hi : dI T n Es P mo lk gs rm) : cI l D yX10_read cX10_read 4 (some .int) 3 90 0 0 [.ref h0] zT (mW h0 q cB cI_ cZ I F) (mT cB cI_ cZ) (fun r u => ∃ (I2 : Nat → Int32) (F2 : Nat → Nat → Int32), ((60 < tx_cnt T (tx_ln T n (n + 1) 0) (tx_ln T n (n + 1) 0).length ∧ r = (-4) ∧ rS I2 F2 T n Es sl P mo lk gs) ∨ (tx_cnt T (tx_ln T n (n + 1) 0) (tx_ln T n (n + 1) 0).length ≤ 60 ∧ r = nI (tx_acc T (tx_ln T n (n + 1) 0) (tx_ln T n (n + 1) 0).length).length ∧ ∀ (Es2 : List E5) (gs2 : Nat), tx_acc T (tx_ln T n (n + 1) 0) (tx_ln T n (n + 1) 0).length = acE Es2 → nmR Es2 → rS I2 F2 T 0 Es2 (fun e => e) (upP Es2 Es2.length) mo 0 gs2)) ∧ u = (mW h0 q cB cI_ cZ I2 F2, mT cB cI_ cZ)) := by
  obtain ⟨⟨a0, a1, a2, a3, a4, a5⟩, a6, a7, a8⟩ := id h
  have hbd := hi.bd
  refine cI_mono (r_read l D h0 q cB cI_ cZ I F n a1 hi.1.1 (by rw [a0]; exact hi.1.2.1)) (fun r u hu => ?_)
  obtain ⟨L, I2, F2, eL, h1, rfl⟩ := hu
  rw [a0] at eL h1
  refine ⟨I2, F2, ?_, rfl⟩
  rw [← eL]
  rcases h1 with ⟨h1, h9, h2⟩ | ⟨h1, h9, h2⟩
  · exact Or.inl ⟨h1, h9, h.sm (rd_sm h2)⟩
  · refine Or.inr ⟨h1, h9, fun Es2 gs2 h3 h4 => ?_⟩
    rw [h3] at h2
    refine h.rd h2 ?_ h4
    have h5 := tx_acc_len T L L.length
    rw [h3, acE_len] at h5
    omega
theorem R_lock (l : Launch) (D : va_G) (h0 : Nat) (q : Nat → Nat) (cB cI_ cZ : ClassId) {I : Nat → Int32} {F : Nat → Nat → Int32} {T : Nat → Int32} {n : Nat} {Es : List E5} {sl : Nat → Nat} {P : List Q4} {mo lk gs rm : Nat}  (h : rS I F T n Es sl P mo lk gs) (hi : dI T n Es P mo lk gs rm) : cI l D yX10_lock cX10_lock 6 (some .int) 5 150 0 0 [.ref h0] zT (mW h0 q cB cI_ cZ I F) (mT cB cI_ cZ) (fun r u => ∃ (I2 : Nat → Int32) (F2 : Nat → Nat → Int32), ((0 < lk ∧ rS I2 F2 T n Es sl P mo lk gs) ∨ (lk = 0 ∧ (pgl (fun e => Es.getD e dE) P P.length mo).length = 0 ∧ rS I2 F2 T n Es sl P mo lk gs) ∨ (lk = 0 ∧ 0 < (pgl (fun e => Es.getD e dE) P P.length mo).length ∧ rS I2 F2 T n Es sl (lk_pcs (qF P) (qT P) (pg_B P.length (pgl (fun e => Es.getD e dE) P P.length mo)) (pg_R P.length (pgl (fun e => Es.getD e dE) P P.length mo)) (pgl (fun e => Es.getD e dE) P P.length mo).length) mo 1 (pgl (fun e => Es.getD e dE) P P.length mo).length)) ∧ u = (mW h0 q cB cI_ cZ I2 F2, mT cB cI_ cZ)) := by
  obtain ⟨⟨a0, a1, a2, a3, a4, a5⟩, a6, a7, a8⟩ := id h
  have hbd := hi.bd
  refine cI_mono (r_lock l D h0 q cB cI_ cZ I F P.length lk gs _ _ _ (qF P) (qT P) _ mo (h.pv hi) a2 a4 a5 a6 hi.1.2.2.2.2 hi.1.2.2.2.1 hi.ss) (fun r u hu => ?_)
  rcases hu with ⟨h1, _, rfl⟩ | ⟨h1, h2, _, I2, F2, hs, rfl⟩ | ⟨h1, h2, _, I2, F2, P2, e2, h3, h4, h5, h6, h7, rfl⟩
  · exact ⟨I, F, Or.inl ⟨h1, h⟩, rfl⟩
  · exact ⟨I2, F2, Or.inr (Or.inl ⟨h1, h2, h.sm hs⟩), rfl⟩
  · refine ⟨I2, F2, Or.inr (Or.inr ⟨h1, h2, ?_⟩), rfl⟩
    have e3 : P2 = (lk_pcs (qF P) (qT P) (pg_B P.length (pgl (fun e => Es.getD e dE) P P.length mo)) (pg_R P.length (pgl (fun e => Es.getD e dE) P P.length mo)) (pgl (fun e => Es.getD e dE) P P.length mo).length) := e2
    rw [← e3]
    exact ⟨⟨h6.1.trans a0, h5.1.trans a1, h5.2.1.trans a2, h5.2.2.trans a3, h7.1, h7.2.2⟩, fun _ => h7.2.1, reR_x h6 a7, h3⟩
theorem reR_st {F F2 : Nat → Nat → Int32} {Es : List E5} {sl : Nat → Nat} {j : Nat} (h : reR F Es sl) (hj : j < Es.length) (h7 : F2 7 = upd (F 7) (sl j) 1) (hf : F2 4 = F 4 ∧ F2 5 = F 5 ∧ F2 6 = F 6 ∧ F2 8 = F 8 ∧ F2 9 = F 9 ∧ F2 10 = F 10 ∧ F2 11 = F 11 ∧ F2 12 = F 12 ∧ F2 13 = F 13 ∧ True) : reR F2 (stE Es j) sl := by
  obtain ⟨f4, f5, f6, f8, f9, f10, f11, f12, f13, _⟩ := hf
  have hl := (stE_sx Es j).1
  refine ⟨by rw [hl]; exact h.1, fun e he => ?_, fun e f he hf => h.2.2.1 e f (by rw [← hl]; exact he) (by rw [← hl]; exact hf), fun w hw => ?_⟩
  · rw [hl] at he
    have h1 := h.2.1 e he
    refine ⟨by rw [f4]; exact h1.1, h1.2.1, ?_⟩
    obtain ⟨b1, b2, b3, b4, b5, b6, b7, b8, b9, b10⟩ := h1.2.2
    by_cases c : e = j
    · rw [c] at b1 b2 b3 b4 b5 b6 b7 b8 b9 b10 ⊢
      unfold stE
      rw [gset_eq hj]
      exact ⟨by rw [f5]; exact b1, by rw [f6]; exact b2, by rw [h7, pk_us], by rw [f8]; exact b4, by rw [f9]; exact b5, b6, by rw [f10]; exact b7, by rw [f11]; exact b8, by rw [f12, f13]; exact b9, b10⟩
    · unfold stE
      rw [gset_ne c]
      have hne : sl e ≠ sl j := fun z => c (h.2.2.1 e j he hj z)
      exact ⟨by rw [f5]; exact b1, by rw [f6]; exact b2, by rw [h7, pk_un hne]; exact b3, by rw [f8]; exact b4, by rw [f9]; exact b5, b6, by rw [f10]; exact b7, by rw [f11]; exact b8, by rw [f12, f13]; exact b9, b10⟩
  · rw [f5, hl]; exact h.2.2.2 w hw
theorem R_strike (l : Launch) (D : va_G) (h0 : Nat) (q : Nat → Nat) (cB cI_ cZ : ClassId) {I : Nat → Int32} {F : Nat → Nat → Int32} {T : Nat → Int32} {n : Nat} {Es : List E5} {sl : Nat → Nat} {P : List Q4} {mo lk gs rm : Nat} (x1 : Int32) (h : rS I F T n Es sl P mo lk gs) (hi : dI T n Es P mo lk gs rm) : cI l D yX10_strike cX10_strike 4 (some .int) 2 43 0 0 [.ref h0, .int x1] zT (mW h0 q cB cI_ cZ I F) (mT cB cI_ cZ) (fun r u => ∃ (I2 : Nat → Int32) (F2 : Nat → Nat → Int32), ((¬ (∃ j : Nat, j < Es.length ∧ x1 = nI j) ∧ r = (-2) ∧ rS I2 F2 T n Es sl P mo lk gs) ∨ (∃ j : Nat, j < Es.length ∧ x1 = nI j ∧ (lk = 0 ∨ ¬ (Es.getD j dE).2.2.1 = 0) ∧ r = (-3) ∧ rS I2 F2 T n Es sl P mo lk gs) ∨ (∃ j : Nat, j < Es.length ∧ x1 = nI j ∧ 0 < lk ∧ (Es.getD j dE).2.2.1 = 0 ∧ r = 1 ∧ rS I2 F2 T n (stE Es j) sl (flI j P P.length) mo lk gs)) ∧ u = (mW h0 q cB cI_ cZ I2 F2, mT cB cI_ cZ)) := by
  obtain ⟨⟨a0, a1, a2, a3, a4, a5⟩, a6, a7, a8⟩ := id h
  have hbd := hi.bd
  refine cI_mono (r_strike l D h0 q cB cI_ cZ I F P.length Es.length lk P sl x1 a4 a3 a5 hi.1.2.2.2.2 a7.1 rfl (by omega) a8 (fun i hi2 => Nat.lt_of_lt_of_le (hbd.1 i hi2).1 a7.1) (fun e he => ⟨(a7.2.1 e he).1, (a7.2.1 e he).2.1⟩)) (fun r u hu => ?_)
  rcases hu with ⟨h1, h9, rfl⟩ | ⟨j, h1, h2, h3, h9, rfl⟩ | ⟨j, n2, g15, g16, g17, g18, h1, h2, h3, h4, h9, h5, h6, rfl⟩
  · exact ⟨I, F, Or.inl ⟨h1, h9, h⟩, rfl⟩
  · exact ⟨I, F, Or.inr (Or.inl ⟨j, h1, h2, by rw [← (a7.2.1 j h1).2.2.2.2.1]; exact h3, h9, h⟩), rfl⟩
  · refine ⟨upd I 14 (nI n2), va_up (va_up (va_up (va_up (va_up F 7 (upd (F 7) (sl j) (vp_nar .boolean 1))) 15 g15) 16 g16) 17 g17) 18 g18, Or.inr (Or.inr ⟨j, h1, h2, h3, by rw [← (a7.2.1 j h1).2.2.2.2.1]; exact h4, h9, ⟨a0, a1, a2, ?_, congrArg nI h5, a5⟩, a6, reR_st a7 h1 rfl ⟨rfl, rfl, rfl, rfl, rfl, rfl, rfl, rfl, rfl, trivial⟩, h6⟩), rfl⟩
    rw [(stE_sx Es j).1]
    exact a3
theorem pq_ins {Es : List E5} {P : List Q4} {x : E5} {pl g : Nat} (h : pq_ok Es.length (fun e => Es.getD e dE) P) (hx : 0 < eRw x) (hpl : pl < P.length) : pq_ok (Es.length + 1) (fun e => (Es ++ [x]).getD e dE) (lsJ P (pl + 1) (Es.length, 0, eRw x, g)) := by
  intro i hi
  rw [lsJ_len (by omega)] at hi
  have key : ∀ k, k < P.length → (P.getD k d4).1 < Es.length + 1 ∧ (P.getD k d4).2.1 < (P.getD k d4).2.2.1 ∧ (P.getD k d4).2.2.1 ≤ eRw ((Es ++ [x]).getD (P.getD k d4).1 dE) := by
    intro k hk
    have h1 := h k hk
    rw [gd_l h1.1]
    exact ⟨by omega, h1.2.1, h1.2.2⟩
  rw [lsJ_at (by omega)]
  by_cases c : i < pl + 1
  · rw [if_pos c]; exact key i (by omega)
  · rw [if_neg c]
    by_cases c2 : i = pl + 1
    · rw [if_pos c2]
      refine ⟨by show Es.length < Es.length + 1; omega, hx, ?_⟩
      show eRw x ≤ eRw ((Es ++ [x]).getD Es.length dE)
      rw [gd_r]
      exact Nat.le_refl _
    · rw [if_neg c2]; exact key (i - 1) (by omega)
theorem qS_ins {P : List Q4} {pl a b g : Nat} (hpl : pl < P.length) : qS (lsJ P (pl + 1) (a, 0, b, g)) (P.length + 1) = qS P P.length + b := by
  have h1 := qS_all (lsJ P (pl + 1) (a, 0, b, g))
  rw [lsJ_len (by omega)] at h1
  rw [h1, qS_all]
  have h2 := szs_app (P.take (pl + 1)) (P.drop (pl + 1))
  rw [List.take_append_drop] at h2
  unfold lsJ
  rw [szs_app]
  show szs (P.take (pl + 1)) + ((b - 0) + szs (P.drop (pl + 1))) = _
  omega
theorem R_insert (l : Launch) (D : va_G) (h0 : Nat) (q : Nat → Nat) (cB cI_ cZ : ClassId) {I : Nat → Int32} {F : Nat → Nat → Int32} {T : Nat → Int32} {n : Nat} {Es : List E5} {sl : Nat → Nat} {P : List Q4} {mo lk gs rm : Nat} (x1 x2 : Int32) (h : rS I F T n Es sl P mo lk gs) (hi : dI T n Es P mo lk gs rm) : cI l D yX10_insert cX10_insert 6 (some .int) 5 156 0 0 [.ref h0, .int x1, .int x2] zT (mW h0 q cB cI_ cZ I F) (mT cB cI_ cZ) (fun r u => ∃ (I2 : Nat → Int32) (F2 : Nat → Nat → Int32), (((¬ (∃ j : Nat, j < Es.length ∧ x1 = nI j) ∨ x2 < 0 ∨ 5 < x2) ∧ r = (-2) ∧ rS I2 F2 T n Es sl P mo lk gs) ∨ (∃ j : Nat, (j < Es.length ∧ x1 = nI j ∧ kd6 x2) ∧ (lk = 0 ∨ ¬ (Es.getD j dE).2.2.1 = 0 ∨ ¬ (∃ i, i < n ∧ ¬ tx_gap (T i))) ∧ r = (-3) ∧ rS I2 F2 T n Es sl P mo lk gs) ∨ (∃ j : Nat, (j < Es.length ∧ x1 = nI j ∧ kd6 x2) ∧ 0 < lk ∧ (Es.getD j dE).2.2.1 = 0 ∧ (∃ i, i < n ∧ ¬ tx_gap (T i)) ∧ Es.length = 60 ∧ r = (-4) ∧ rS I2 F2 T n Es sl P mo lk gs) ∨ (∃ (j pl : Nat), (j < Es.length ∧ x1 = nI j ∧ kd6 x2) ∧ (0 < lk ∧ (Es.getD j dE).2.2.1 = 0 ∧ (∃ i, i < n ∧ ¬ tx_gap (T i)) ∧ Es.length < 60) ∧ (pl < P.length ∧ (P.getD pl d4).1 = j ∧ ∀ i, pl < i → i < P.length → ¬ (P.getD i d4).1 = j) ∧ ((27 < rs_nm (qK (fun e => (Es ++ [(insE T n x2 Es.length)]).getD e dE) (lsJ P (pl + 1) (Es.length, 0, eRw (insE T n x2 Es.length), (P.getD pl d4).2.2.2))) (qF (lsJ P (pl + 1) (Es.length, 0, eRw (insE T n x2 Es.length), (P.getD pl d4).2.2.2))) (qT (lsJ P (pl + 1) (Es.length, 0, eRw (insE T n x2 Es.length), (P.getD pl d4).2.2.2))) (qR (fun e => (Es ++ [(insE T n x2 Es.length)]).getD e dE) (lsJ P (pl + 1) (Es.length, 0, eRw (insE T n x2 Es.length), (P.getD pl d4).2.2.2))) (fun p => ((lsJ P (pl + 1) (Es.length, 0, eRw (insE T n x2 Es.length), (P.getD pl d4).2.2.2)).getD p d4).2.2.2) (P.length + 1) mo (P.getD pl d4).2.2.2 ∧ r = (-4) ∧ rS I2 F2 T n Es sl P mo lk gs) ∨ (rs_nm (qK (fun e => (Es ++ [(insE T n x2 Es.length)]).getD e dE) (lsJ P (pl + 1) (Es.length, 0, eRw (insE T n x2 Es.length), (P.getD pl d4).2.2.2))) (qF (lsJ P (pl + 1) (Es.length, 0, eRw (insE T n x2 Es.length), (P.getD pl d4).2.2.2))) (qT (lsJ P (pl + 1) (Es.length, 0, eRw (insE T n x2 Es.length), (P.getD pl d4).2.2.2))) (qR (fun e => (Es ++ [(insE T n x2 Es.length)]).getD e dE) (lsJ P (pl + 1) (Es.length, 0, eRw (insE T n x2 Es.length), (P.getD pl d4).2.2.2))) (fun p => ((lsJ P (pl + 1) (Es.length, 0, eRw (insE T n x2 Es.length), (P.getD pl d4).2.2.2)).getD p d4).2.2.2) (P.length + 1) mo (P.getD pl d4).2.2.2 ≤ 27 ∧ r = nI Es.length ∧ ∃ sl2 : Nat → Nat, rS I2 F2 T 0 (Es ++ [(insE T n x2 Es.length)]) sl2 (lsJ P (pl + 1) (Es.length, 0, eRw (insE T n x2 Es.length), (P.getD pl d4).2.2.2)) mo lk gs)))) ∧ u = (mW h0 q cB cI_ cZ I2 F2, mT cB cI_ cZ)) := by
  obtain ⟨⟨a0, a1, a2, a3, a4, a5⟩, a6, a7, a8⟩ := id h
  have hbd := hi.bd
  have hnx := hi.1.1
  refine cI_mono (r_insert l D h0 q cB cI_ cZ I F n mo lk Es sl P x1 x2 a1 a2 a3 a4 a5 hi.1.2.2.2.2 hi.1.1 hi.1.2.2.1 hi.1.2.2.2.1 (by rw [a0]; exact hi.1.2.1) a7 a8 hbd.1 (by omega) (fun p hp => by have := hi.gb p hp; omega) hi.la (fun pl x2 hpl _ hw => pq_ins hbd.1 (insE_in (kd := x2) (en := Es.length) hw).1 hpl) (fun pl x2 hpl _ hw => ?_)) (fun r u hu => ?_)
  · have h1 := insE_in (kd := x2) (en := Es.length) hw
    have h2 := rows_len (insE (F 0) n x2 Es.length)
    have h3 := qS_ins (a := Es.length) (b := eRw (insE (F 0) n x2 Es.length)) (g := (P.getD pl d4).2.2.2) hpl
    unfold qS at h3
    have h4 := hi.bd.2.1
    unfold qS at h4
    refine Nat.le_trans (Nat.le_of_eq h3) ?_
    omega
  · rw [a0] at hu
    rcases hu with ⟨h1, h9, rfl⟩ | ⟨j, h1, h2, h9, rfl⟩ | ⟨j, h1, h2, h3, h4, h5, h9, rfl⟩ | ⟨j, pl, t, I2, F2, h1, h2, h3, h4, h5, h6, rfl⟩
    · exact ⟨I, F, Or.inl ⟨h1, h9, h⟩, rfl⟩
    · exact ⟨I, F, Or.inr (Or.inl ⟨j, h1, h2, h9, h⟩), rfl⟩
    · exact ⟨I, F, Or.inr (Or.inr (Or.inl ⟨j, h1, h2, h3, h4, h5, h9, h⟩)), rfl⟩
    · refine ⟨I2, F2, Or.inr (Or.inr (Or.inr ⟨j, pl, h1, h2, h3, ?_⟩)), rfl⟩
      rcases h6 with ⟨b1, b9, b2, b3, b4⟩ | ⟨b1, b9, b2, b3, b4⟩
      · exact Or.inl ⟨b1, b9, ⟨h4, b2.1.trans a1, h5.1.trans a2, b2.2.1, b2.2.2, h5.2.2.trans a5⟩, fun h9 => h5.2.1.trans (a6 h9), b3, b4⟩
      · refine Or.inr ⟨b1, b9, _, ⟨h4, b2.1, h5.1.trans a2, ?_, ?_, h5.2.2.trans a5⟩, fun h9 => h5.2.1.trans (a6 h9), b3, b4⟩
        · rw [List.length_append]; exact b2.2.1
        · rw [lsJ_len (by omega)]; exact b2.2.2
theorem upP_sx {A B : List E5} (h : sx A B) : ∀ n, upP A n = upP B n := by
  intro n
  induction n with
  | zero => rfl
  | succ n ih =>
    show upP A n ++ [(n, 0, eRw (A.getD n dE), 0)] = upP B n ++ [(n, 0, eRw (B.getD n dE), 0)]
    rw [ih, sx_rw h]
theorem rnm_o (Ms : List E5) : ∀ i e, ((rnm Ms i).getD e dE).2.2.1 = (Ms.getD e dE).2.2.1 ∧ ((rnm Ms i).getD e dE).2.2.2.1 = (Ms.getD e dE).2.2.2.1 := by
  intro i
  induction i with
  | zero => intro e; exact ⟨rfl, rfl⟩
  | succ i ih =>
    intro e
    show (((rnm Ms i).set i _).getD e dE).2.2.1 = _ ∧ (((rnm Ms i).set i _).getD e dE).2.2.2.1 = _
    by_cases c : i < (rnm Ms i).length
    · by_cases c2 : e = i
      · rw [c2, gset_eq c]; exact ih i
      · rw [gset_ne c2]; exact ih e
    · rw [gset_out c]; exact ih e
theorem reR_rn {F : Nat → Nat → Int32} {Ms : List E5} {sl : Nat → Nat} {i : Nat} (h : reR F Ms sl) : reR F (rnm Ms i) sl := by
  have hs := rnm_sx Ms i
  refine ⟨by rw [hs.1]; exact h.1, fun e he => ?_, fun e f he hf => h.2.2.1 e f (by rw [← hs.1]; exact he) (by rw [← hs.1]; exact hf), fun w hw => by rw [hs.1]; exact h.2.2.2 w hw⟩
  rw [hs.1] at he
  have h1 := h.2.1 e he
  have h2 := hs.2 e
  have h3 := rnm_o Ms i e
  refine ⟨h1.1, h1.2.1, ?_⟩
  unfold elF
  rw [h2.1, h2.2, h3.1, h3.2, sx_rw hs]
  exact h1.2.2
theorem R_merge (l : Launch) (D : va_G) (h0 : Nat) (q : Nat → Nat) (cB cI_ cZ : ClassId) {I : Nat → Int32} {F : Nat → Nat → Int32} {T : Nat → Int32} {n : Nat} {Es : List E5} {sl : Nat → Nat} {P : List Q4} {mo lk gs rm : Nat}  (h : rS I F T n Es sl P mo lk gs) (hi : dI T n Es P mo lk gs rm) : cI l D yX10_merge cX10_merge 4 (some .int) 1 22 0 0 [.ref h0] zT (mW h0 q cB cI_ cZ I F) (mT cB cI_ cZ) (fun r u => ∃ (I2 : Nat → Int32) (F2 : Nat → Nat → Int32), ((lk = 0 ∧ r = (-3) ∧ rS I2 F2 T n Es sl P mo lk gs) ∨ (0 < lk ∧ r = nI (mgN P P.length).length ∧ ∀ gs2 : Nat, rS I2 F2 T n (rnm ((mgN P P.length).map (fun e => Es.getD e dE)) (mgN P P.length).length) (fun i => sl ((mgN P P.length).getD i 0)) (upP (rnm ((mgN P P.length).map (fun e => Es.getD e dE)) (mgN P P.length).length) (rnm ((mgN P P.length).map (fun e => Es.getD e dE)) (mgN P P.length).length).length) mo 0 gs2)) ∧ u = (mW h0 q cB cI_ cZ I2 F2, mT cB cI_ cZ)) := by
  obtain ⟨⟨a0, a1, a2, a3, a4, a5⟩, a6, a7, a8⟩ := id h
  have hbd := hi.bd
  refine cI_mono (r_merge l D h0 q cB cI_ cZ I F lk Es sl P a3 a4 a5 hi.1.2.2.2.2 a7 a8 hbd.1 (by omega)) (fun r u hu => ?_)
  rcases hu with ⟨h1, h9, rfl⟩ | ⟨h1, h9, I2, F2, h2, h3, h4, h5, h6, rfl⟩
  · exact ⟨I, F, Or.inl ⟨h1, h9, h⟩, rfl⟩
  · refine ⟨I2, F2, Or.inr ⟨h1, h9, fun gs2 => ?_⟩, rfl⟩
    have hs := rnm_sx ((mgN P P.length).map (fun e => Es.getD e dE)) (mgN P P.length).length
    have hl : (rnm ((mgN P P.length).map (fun e => Es.getD e dE)) (mgN P P.length).length).length = (mgN P P.length).length := by rw [hs.1, List.length_map]
    refine ⟨⟨h2.trans a0, h3.1.trans a1, h3.2.1.trans a2, ?_, ?_, h3.2.2⟩, fun h9 => absurd h9 (Nat.lt_irrefl 0), reR_rn h5, ?_⟩
    · rw [hl]; exact h4.1
    · rw [upP_len, hl]; exact h4.2.1
    · rw [upP_sx hs, hl]; exact h6
