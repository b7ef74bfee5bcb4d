/-- of a prefix the rows are the same -/
theorem mgI_gd (P : List Q4) {t j : Nat} (h : j < (mgI P t).length) : ∀ d, (mgI P (t + d)).getD j 0 = (mgI P t).getD j 0 := by
  intro d
  induction d with
  | zero => rfl
  | succ d ih =>
    have h1 := mgI_m P (a := t) d
    show (mgI P (t + d + 1)).getD j 0 = _
    by_cases c : (P.getD (t + d) d4).2.1 = 0
    · rw [mgI_1 c, gd_n1 (by omega)]; exact ih
    · rw [mgI_0 c]; exact ih
def rho (P : List Q4) (t : Nat) : Nat := (mgI P t).length
theorem rho_m (P : List Q4) {a b : Nat} (h : a ≤ b) : rho P a ≤ rho P b := by
  have h1 := mgI_m P (a := a) (b - a)
  rw [show a + (b - a) = b by omega] at h1
  exact h1
theorem rho_s {P : List Q4} {t : Nat} (h : (P.getD t d4).2.1 = 0) : rho P (t + 1) = rho P t + 1 := by
  unfold rho
  rw [mgI_1 h, List.length_append]
  rfl
theorem rho_at {P : List Q4} {t n : Nat} (h : (P.getD t d4).2.1 = 0) (ht : t < n) : (mgI P n).getD (rho P t) 0 = (P.getD t d4).1 := by
  have h1 := rho_s h
  have h2 := mgI_gd P (t := t + 1) (j := rho P t) (by show rho P t < rho P (t + 1); omega) (n - (t + 1))
  rw [show t + 1 + (n - (t + 1)) = n by omega] at h2
  rw [h2, mgI_1 h]
  exact gd_n0 _ _
theorem rho_ex (P : List Q4) : ∀ n i, i < rho P n → ∃ t, t < n ∧ (P.getD t d4).2.1 = 0 ∧ rho P t = i := by
  intro n
  induction n with
  | zero => intro i h; exact absurd h (Nat.not_lt_zero i)
  | succ n ih =>
    intro i h
    by_cases c : (P.getD n d4).2.1 = 0
    · rw [rho_s c] at h
      by_cases c2 : i = rho P n
      · exact ⟨n, by omega, c, c2.symm⟩
      · obtain ⟨t, h1, h2, h3⟩ := ih i (by omega)
        exact ⟨t, by omega, h2, h3⟩
    · have h0 : rho P (n + 1) = rho P n := by unfold rho; rw [mgI_0 c]
      rw [h0] at h
      obtain ⟨t, h1, h2, h3⟩ := ih i h
      exact ⟨t, by omega, h2, h3⟩
theorem hdC_mo {Es : List E5} {Rw : Nat → Nat} {a : Nat} : ∀ d, hdC Es Rw a ≤ hdC Es Rw (a + d) := by
  intro d
  induction d with
  | zero => exact Nat.le_refl _
  | succ d ih =>
    show hdC Es Rw a ≤ hdC Es Rw (a + d + 1)
    by_cases c : (Es.getD (Rw (a + d)) dE).1 = 0
    · rw [hdC_y c]; omega
    · rw [hdC_n c]; exact ih
theorem hdC_m {Es : List E5} {Rw : Nat → Nat} {a b : Nat} (h : a ≤ b) : hdC Es Rw a ≤ hdC Es Rw b := by
  have h1 := hdC_mo (Es := Es) (Rw := Rw) (a := a) (b - a)
  rw [show a + (b - a) = b by omega] at h1
  exact h1
/-- row z is where scene s begins -/
def sfR (Es : List E5) (Rw : Nat → Nat) (mr s z : Nat) : Prop := (z < mr ∧ (Es.getD (Rw z) dE).1 = 0 ∧ hdC Es Rw z = s) ∨ (z = mr ∧ hdC Es Rw mr ≤ s)
theorem sfR_le {Es : List E5} {Rw : Nat → Nat} {mr s z : Nat} (h : sfR Es Rw mr s z) : z ≤ mr ∧ hdC Es Rw z ≤ s := by
  rcases h with ⟨h1, h2, h3⟩ | ⟨h1, h2⟩
  · omega
  · rw [h1]; exact ⟨Nat.le_refl _, h2⟩
theorem sfR_lt {Es : List E5} {Rw : Nat → Nat} {mr s t y z : Nat} (h1 : sfR Es Rw mr s y) (h2 : sfR Es Rw mr t z) (h : s ≤ t) : y ≤ z := by
  rcases Nat.lt_or_ge z y with c | c
  · rcases h2 with ⟨a1, a2, a3⟩ | ⟨a1, a2⟩
    · have h3 := hdC_m (Es := Es) (Rw := Rw) (a := z + 1) (b := y) (by omega)
      rw [hdC_y a2] at h3
      have h4 := (sfR_le h1).2
      omega
    · have := (sfR_le h1).1
      omega
  · exact c
theorem sfR_un {Es : List E5} {Rw : Nat → Nat} {mr s y z : Nat} (h1 : sfR Es Rw mr s y) (h2 : sfR Es Rw mr s z) : y = z := by
  have a := sfR_lt h1 h2 (Nat.le_refl _)
  have b := sfR_lt h2 h1 (Nat.le_refl _)
  omega
theorem pcnt_hit {Q : Nat → Prop} {s : Nat} : ∀ n, s < pcnt Q n → ∃ t, t < n ∧ Q t ∧ pcnt Q t = s := by
  intro n
  induction n with
  | zero => intro h; exact absurd h (Nat.not_lt_zero s)
  | succ n ih =>
    intro h
    by_cases c : Q n
    · rw [pcnt_1 c] at h
      by_cases c2 : pcnt Q n = s
      · exact ⟨n, by omega, c, c2⟩
      · obtain ⟨t, h1, h2, h3⟩ := ih (by omega)
        exact ⟨t, by omega, h2, h3⟩
    · rw [pcnt_0 c] at h
      obtain ⟨t, h1, h2, h3⟩ := ih h
      exact ⟨t, by omega, h2, h3⟩
theorem pcnt_c {Q Q2 : Nat → Prop} : ∀ n, (∀ t, t < n → (Q t ↔ Q2 t)) → pcnt Q n = pcnt Q2 n := by
  intro n
  induction n with
  | zero => intro _; rfl
  | succ n ih =>
    intro h
    have h1 := ih (fun t ht => h t (by omega))
    have h2 := h n (by omega)
    by_cases c : Q n
    · rw [pcnt_1 c, pcnt_1 (h2.mp c), h1]
    · rw [pcnt_0 c, pcnt_0 (fun z9 => c (h2.mpr z9)), h1]
theorem bgR_ex (EE : Nat → E5) (P : List Q4) (n s : Nat) : ∃ t, bgs EE P n s t := by
  by_cases c : ∃ t, t < n ∧ bgq EE P 0 t ∧ pcnt (bgq EE P 0) t = s
  · obtain ⟨t, h⟩ := c
    exact ⟨t, Or.inl h⟩
  · exact ⟨n, Or.inr ⟨rfl, fun t h1 h2 h3 => c ⟨t, h1, h2, h3⟩⟩⟩
theorem bgR_le {EE : Nat → E5} {P : List Q4} {n s t : Nat} (h : bgs EE P n s t) : t ≤ n := by
  rcases h with ⟨h1, _⟩ | ⟨h1, _⟩
  · omega
  · omega
theorem bgR_sf {Es : List E5} {P : List Q4} {n s t : Nat} (h : bgs (fun e => Es.getD e dE) P n s t) : sfR Es (fun j => (mgI P n).getD j 0) (mgI P n).length s (rho P t) := by
  rcases h with ⟨h1, h2, h3⟩ | ⟨h2, h1⟩
  · have h4 := rho_s h2.1
    have h5 := rho_m P (a := t + 1) (b := n) (by omega)
    have h6 := rho_at h2.1 h1
    have h7 := scn_eq Es P t
    rw [h3] at h7
    refine Or.inl ⟨by show rho P t < rho P n; omega, ?_, ?_⟩
    · show (Es.getD ((mgI P n).getD (rho P t) 0) dE).1 = 0
      rw [h6]; exact h2.2
    · rw [← h7]
      refine hdC_c _ (fun j hj => ?_)
      have h8 := mgI_gd P (t := t) (j := j) hj (n - t)
      rw [show t + (n - t) = n by omega] at h8
      exact h8
  · rw [h2]
    refine Or.inr ⟨rfl, ?_⟩
    rw [scn_eq]
    rcases Nat.lt_or_ge s (pcnt (bgq (fun e => Es.getD e dE) P 0) n) with c | c
    · obtain ⟨t2, a1, a2, a3⟩ := pcnt_hit n c
      exact absurd a3 (h1 t2 a1 a2)
    · exact c
/-- somebody with these words is in the rows -/
def inR (Es : List E5) (Rw : Nat → Nat) (Y : List Int32) (a b : Nat) : Prop := ∃ i, a ≤ i ∧ i < b ∧ (Es.getD (Rw i) dE).1 = 2 ∧ (Es.getD (Rw i) dE).2.2.2.2 = Y
theorem hp_in {Es : List E5} {P : List Q4} {n a b : Nat} {Y : List Int32} (hb : b ≤ n) : hpq (fun e => Es.getD e dE) P Y a b ↔ inR Es (fun j => (mgI P n).getD j 0) Y (rho P a) (rho P b) := by
  constructor
  · rintro ⟨t, h1, h2, h3, h4⟩
    have h5 := rho_s h3.1
    have h6 := rho_m P (a := t + 1) (b := b) (by omega)
    have h7 := rho_at (n := n) h3.1 (by omega)
    refine ⟨rho P t, rho_m P h1, by omega, ?_, ?_⟩
    · show (Es.getD ((mgI P n).getD (rho P t) 0) dE).1 = 2
      rw [h7]; exact h3.2
    · show (Es.getD ((mgI P n).getD (rho P t) 0) dE).2.2.2.2 = Y
      rw [h7]; exact h4
  · rintro ⟨i, h1, h2, h3, h4⟩
    obtain ⟨t, a1, a2, a3⟩ := rho_ex P b i h2
    have h7 := rho_at (n := n) a2 (by omega)
    have h3 : (Es.getD ((mgI P n).getD i 0) dE).1 = 2 := h3
    have h4 : (Es.getD ((mgI P n).getD i 0) dE).2.2.2.2 = Y := h4
    rw [← a3, h7] at h3 h4
    refine ⟨t, ?_, a1, ⟨a2, h3⟩, h4⟩
    rcases Nat.lt_or_ge t a with c | c
    · have h5 := rho_s a2
      have h6 := rho_m P (a := t + 1) (b := a) (by omega)
      omega
    · exact c
/-- somebody with these words is in scene s -/
def inS (Es : List E5) (Rw : Nat → Nat) (mr : Nat) (Y : List Int32) (s : Nat) : Prop := ∃ y z, sfR Es Rw mr s y ∧ sfR Es Rw mr (s + 1) z ∧ inR Es Rw Y y z
theorem hp_inS {Es : List E5} {P : List Q4} {n s a b : Nat} {Y : List Int32} (h1 : bgs (fun e => Es.getD e dE) P n s a) (h2 : bgs (fun e => Es.getD e dE) P n (s + 1) b) : hpq (fun e => Es.getD e dE) P Y a b ↔ inS Es (fun j => (mgI P n).getD j 0) (mgI P n).length Y s := by
  have s1 := bgR_sf h1
  have s2 := bgR_sf h2
  rw [hp_in (bgR_le h2)]
  constructor
  · intro h; exact ⟨_, _, s1, s2, h⟩
  · rintro ⟨y, z, a1, a2, a3⟩
    rw [sfR_un s1 a1, sfR_un s2 a2]
    exact a3
def alK (X Y : List Int32) (i : Nat) : Prop := X.length = Y.length ∧ ∀ u, u < i → X.getD u 0 = Y.getD u 0
theorem al_eq {X Y : List Int32} {i : Nat} (h : alK X Y i) (hi : X.length ≤ i) : X = Y := by
  refine List.ext_getElem h.1 (fun u h1 h2 => ?_)
  have h3 := h.2 u (by omega)
  rw [List.getD_eq_getElem?_getD, List.getD_eq_getElem?_getD, List.getElem?_eq_getElem h1, List.getElem?_eq_getElem h2] at h3
  exact h3
theorem al_fin {X Y : List Int32} {i b : Nat} (h : (b = 1 ∧ alK X Y i) ∨ (b = 0 ∧ ¬ X = Y)) (hi : X.length ≤ i) : (b = 1 ∧ X = Y) ∨ (b = 0 ∧ ¬ X = Y) := h.elim (fun z9 => Or.inl ⟨z9.1, al_eq z9.2 hi⟩) Or.inr
theorem al_fin0 {X Y : List Int32} {i b : Nat} (h : (b = 1 ∧ alK X Y i) ∨ (b = 0 ∧ ¬ X = Y)) (hb : b = 0) : (b = 1 ∧ X = Y) ∨ (b = 0 ∧ ¬ X = Y) := h.elim (fun z9 => absurd z9.1 (by omega)) Or.inr
theorem al_s {X Y : List Int32} {i : Nat} (h : alK X Y i) (c : X.getD i 0 = Y.getD i 0) : alK X Y (i + 1) := ⟨h.1, fun u hu => by
  by_cases e9 : u = i
  · rw [e9]; exact c
  · exact h.2 u (by omega)⟩
/-- who is told so far: the words of the rows z .. i, each once -/
def whQ (Es : List E5) (Rw : Nat → Nat) (wn : Nat) (g : Nat → Int32) (z i : Nat) : Prop := ∀ Y, (∃ u e, u < wn ∧ e < Es.length ∧ g u = nI e ∧ (Es.getD e dE).2.2.2.2 = Y) ↔ inR Es Rw Y z i
def nwR (Es : List E5) (Rw : Nat → Nat) (z i : Nat) : Prop := (Es.getD (Rw i) dE).1 = 2 ∧ ¬ inR Es Rw (Es.getD (Rw i) dE).2.2.2.2 z i
/-- the row i is not told yet, as far as the first j know -/
def whB (Es : List E5) (Rw : Nat → Nat) (wn : Nat) (g : Nat → Int32) (i j : Nat) (b : Int32) : Prop := (b = 1 ∧ (Es.getD (Rw i) dE).1 = 2 ∧ ∀ u e, u < j → e < Es.length → g u = nI e → ¬ (Es.getD e dE).2.2.2.2 = (Es.getD (Rw i) dE).2.2.2.2) ∨ (b = 0 ∧ (¬ (Es.getD (Rw i) dE).1 = 2 ∨ ∃ u e, u < wn ∧ e < Es.length ∧ g u = nI e ∧ (Es.getD e dE).2.2.2.2 = (Es.getD (Rw i) dE).2.2.2.2))
theorem inR_s {Es : List E5} {Rw : Nat → Nat} {Y : List Int32} {a i : Nat} (ha : a ≤ i) : inR Es Rw Y a (i + 1) ↔ (inR Es Rw Y a i ∨ ((Es.getD (Rw i) dE).1 = 2 ∧ (Es.getD (Rw i) dE).2.2.2.2 = Y)) := by
  constructor
  · rintro ⟨t, h1, h2, h3, h4⟩
    by_cases c : t = i
    · rw [c] at h3 h4; exact Or.inr ⟨h3, h4⟩
    · exact Or.inl ⟨t, h1, by omega, h3, h4⟩
  · rintro (⟨t, h1, h2, h3, h4⟩ | ⟨h3, h4⟩)
    · exact ⟨t, h1, by omega, h3, h4⟩
    · exact ⟨i, ha, by omega, h3, h4⟩
theorem whB_0 {Es : List E5} {Rw : Nat → Nat} {wn : Nat} {g : Nat → Int32} {i : Nat} (h : (Es.getD (Rw i) dE).1 = 2) : whB Es Rw wn g i 0 1 := Or.inl ⟨rfl, h, fun u e hu => absurd hu (Nat.not_lt_zero u)⟩
theorem whB_n {Es : List E5} {Rw : Nat → Nat} {wn : Nat} {g : Nat → Int32} {i : Nat} (h : ¬ (Es.getD (Rw i) dE).1 = 2) : whB Es Rw wn g i 0 0 := Or.inr ⟨rfl, Or.inl h⟩
theorem nI_un {a b : Nat} (ha : a < 60) (hb : b < 60) (h : nI a = nI b) : a = b := q_eqn (by omega) (by omega) h
theorem whB_s {Es : List E5} {Rw : Nat → Nat} {wn : Nat} {g : Nat → Int32} {i j e1 : Nat} {b : Int32} (hE : Es.length ≤ 60) (h : whB Es Rw wn g i j b) (hb : ¬ b = 0) (he : e1 < Es.length) (hg : g j = nI e1) (c : ¬ (Es.getD e1 dE).2.2.2.2 = (Es.getD (Rw i) dE).2.2.2.2) : whB Es Rw wn g i (j + 1) 1 := by
  rcases h with ⟨_, h2, h3⟩ | ⟨h1, _⟩
  · refine Or.inl ⟨rfl, h2, fun u e hu he2 hg2 => ?_⟩
    by_cases c2 : u = j
    · rw [c2, hg] at hg2
      rw [← nI_un (by omega) (by omega) hg2]
      exact c
    · exact h3 u e (by omega) he2 hg2
  · exact absurd h1 hb
theorem whB_l {Es : List E5} {Rw : Nat → Nat} {wn : Nat} {g : Nat → Int32} {i j e1 : Nat} (hj : j < wn) (he : e1 < Es.length) (hg : g j = nI e1) (c : (Es.getD e1 dE).2.2.2.2 = (Es.getD (Rw i) dE).2.2.2.2) : whB Es Rw wn g i (j + 1) 0 := Or.inr ⟨rfl, Or.inr ⟨j, e1, hj, he, hg, c⟩⟩
theorem whB_e {Es : List E5} {Rw : Nat → Nat} {wn : Nat} {g : Nat → Int32} {i j : Nat} {b : Int32} (h : whB Es Rw wn g i j b) (hj : b = 0 ∨ wn ≤ j) : whB Es Rw wn g i wn b := by
  rcases h with ⟨h1, h2, h3⟩ | h
  · refine Or.inl ⟨h1, h2, fun u e hu => h3 u e ?_⟩
    rcases hj with hj | hj
    · rw [h1] at hj; exact absurd hj (by decide)
    · omega
  · exact Or.inr h
theorem whQ_n {Es : List E5} {Rw : Nat → Nat} {wn z i : Nat} {g : Nat → Int32} (hz : z ≤ i) (h : whQ Es Rw wn g z i) (hb : whB Es Rw wn g i wn 0) : whQ Es Rw wn g z (i + 1) ∧ ¬ nwR Es Rw z i := by
  have h0 : ¬ (Es.getD (Rw i) dE).1 = 2 ∨ inR Es Rw (Es.getD (Rw i) dE).2.2.2.2 z i := by
    rcases hb with ⟨h1, _⟩ | ⟨_, h1 | h1⟩
    · exact absurd h1 (by decide)
    · exact Or.inl h1
    · exact Or.inr ((h _).mp h1)
  refine ⟨fun Y => ?_, fun h1 => h0.elim (fun h2 => h2 h1.1) (fun h2 => h1.2 h2)⟩
  rw [h Y, inR_s hz]
  constructor
  · exact Or.inl
  · rintro (h1 | ⟨h1, h2⟩)
    · exact h1
    · rcases h0 with h3 | h3
      · exact absurd h1 h3
      · rw [← h2]; exact h3
theorem whQ_y {Es : List E5} {Rw : Nat → Nat} {wn z i : Nat} {g : Nat → Int32} {b : Int32} (hE : Es.length ≤ 60) (hr : Rw i < Es.length) (hz : z ≤ i) (h : whQ Es Rw wn g z i) (hb : whB Es Rw wn g i wn b) (hb0 : ¬ b = 0) : whQ Es Rw (wn + 1) (upd g wn (nI (Rw i))) z (i + 1) ∧ nwR Es Rw z i := by
  rcases hb with ⟨_, h2, h3⟩ | ⟨h1, _⟩
  · have h4 : nwR Es Rw z i := ⟨h2, fun h5 => by
      obtain ⟨u, e, a1, a2, a3, a4⟩ := (h _).mpr h5
      exact h3 u e a1 a2 a3 a4⟩
    refine ⟨fun Y => ?_, h4⟩
    rw [inR_s hz, ← h Y]
    constructor
    · rintro ⟨u, e, a1, a2, a3, a4⟩
      by_cases c : u = wn
      · rw [c, pk_us] at a3
        rw [← nI_un (by omega) (by omega) a3] at a4
        exact Or.inr ⟨h2, a4⟩
      · rw [pk_un c] at a3
        exact Or.inl ⟨u, e, by omega, a2, a3, a4⟩
    · rintro (⟨u, e, a1, a2, a3, a4⟩ | ⟨a1, a2⟩)
      · exact ⟨u, e, by omega, a2, by rw [pk_un (by omega)]; exact a3, a4⟩
      · exact ⟨wn, Rw i, by omega, hr, by rw [pk_us], a2⟩
  · exact absurd h1 hb0
theorem whQ_0 {Es : List E5} {Rw : Nat → Nat} {g : Nat → Int32} {z : Nat} : whQ Es Rw 0 g z z := fun Y => ⟨fun ⟨u, _, h, _⟩ => absurd h (Nat.not_lt_zero u), fun ⟨i, h1, h2, _⟩ => by omega⟩

set_option maxHeartbeats 1000000 in
set_option maxRecDepth 100000 in
theorem lal2_ {p : Program} {l : Launch} {e : Env} {R : Room} {s : State} {m : MethodId} {args : Array Value} {below : List Frame} {meth : Method} {c : Code} {cells slots : Nat} {Q : State → Prop} {D : va_G} {A : Nat → Prop} {h0 : Nat} {q : Nat → Nat} {cB cI cZ : ClassId} {I : Nat → Int32} {F : Nat → Nat → Int32} {Es : List E5} {sl : Nat → Nat} {e1 e2 : Nat} (hre : reR F Es sl) (he1 : e1 < Es.length) (he2 : e2 < Es.length) (hRf : 0 ≤ R.frames) (hRl : 0 ≤ R.locals) (hRc : cells ≤ R.cells) (hRs : slots ≤ R.slots) (hA : ∀ q : Nat, s.heap.size ≤ q → A q) (hf : CallFix p m c cX10_areLike 7 s args gT yX10_areLike.cls) (hK : va_K D vcl (mT cB cI cZ) s) :
    ∀ (k : Nat) (i : Nat) (b : Nat) (H : Heap) (locs : List Loc) (ls : Array Slot), i + k = (Es.getD e1 dE).2.2.2.2.length → ((b = 1 ∧ alK (Es.getD e1 dE).2.2.2.2 (Es.getD e2 dE).2.2.2.2 i) ∨ (b = 0 ∧ ¬ (Es.getD e1 dE).2.2.2.2 = (Es.getD e2 dE).2.2.2.2)) →  va_P D vcl (mW h0 q cB cI cZ I F) H → va_D A (mW h0 q cB cI cZ I F) → va_S A s.heap H locs → lv_has ls 7 [(6, .int (nI i)), (5, .int (nI b)), (4, .int (nI ((sl e2)))), (3, .int (nI ((sl e1)))), (0, .ref h0)] →
    (∀ (b : Nat) (H : Heap) (locs : List Loc) (ls : Array Slot), ((b = 1 ∧ (Es.getD e1 dE).2.2.2.2 = (Es.getD e2 dE).2.2.2.2) ∨ (b = 0 ∧ ¬ (Es.getD e1 dE).2.2.2.2 = (Es.getD e2 dE).2.2.2.2)) → va_P D vcl (mW h0 q cB cI cZ I F) H → va_D A (mW h0 q cB cI cZ I F) → va_S A s.heap H locs → lv_has ls 7 [(5, .int (nI b)), (0, .ref h0)] → W p l e R s m args below meth c H locs cells slots Q (F0 m 100 ls [])) →
    W p l e R s m args below meth c H locs cells slots Q (F0 m 41 ls []) := by
  obtain ⟨hx, hb, hml, hown, hts⟩ := id hf
  have hre1 := hre.1
  have hq1 := (hre.2.1 e1 he1).2.1
  have hq2 := (hre.2.1 e2 he2).2.1
  have hl1 := (hre.2.1 e1 he1).2.2.2.2.2.2.2.1
  have hl2 := (hre.2.1 e2 he2).2.2.2.2.2.2.2.1
  intro k
  induction k with
  | zero =>
    intro i b H locs ls hik hb1 hP hD hS hl kk
    have hb9 : b ≤ 1 := by rcases hb1 with h9 | h9 <;> omega
    refine lv_iload hx hb dX10_areLike_41 (lv_at hl 0 rfl) ?_
    refine lv_aload_n hx hb dX10_areLike_43 rfl (lv_at hl 4 rfl) ?_
    refine va_get (D := D) (ci := 11) (v := .ref (q 9)) (C := RX10) (T := TX10) (N := 48) hx hb hts inX10 hown hK hP 0 rfl rfl 9 (by decide) (hts _ k_1153) (fun _ h9 => h9) rfl dX10_areLike_44 ?_
    refine lv_iload_n hx hb dX10_areLike_47 rfl (lv_at hl 3 rfl) ?_
    refine q_ild (X := (sl e1)) (f := (F 9)) hx hb hK hP 7 1 rfl rfl (by omega) (by decide) dX10_areLike_48 ?_
    refine q_seti (y := (nI ((Es.getD e1 dE).2.2.2.2.length))) (hre.2.1 e1 (by omega)).2.2.2.2.2.2.1 ?_
    refine lv_icmp_ge (tgt := 100) hx hb dX10_areLike_49 (by decide) (fun c_1 => ?_) (fun c_1 => ?_)
    · have c_1 := q_le (a := (Es.getD e1 dE).2.2.2.2.length) (b := i) (by omega) (by omega) c_1
      exact kk b H locs ls (by first | exact al_fin hb1 (by omega) | exact al_fin0 hb1 (by omega)) hP hD hS (lv_sub hl (l' := [(5, .int (nI b)), (0, .ref h0)]) [1, 4] rfl)
    · have c_1 := q_nle (a := (Es.getD e1 dE).2.2.2.2.length) (b := i) (by omega) (by omega) c_1
      exact absurd hik (by omega)
  | succ k ih =>
    intro i b H locs ls hik hb1 hP hD hS hl kk
    have hb9 : b ≤ 1 := by rcases hb1 with h9 | h9 <;> omega
    refine lv_iload hx hb dX10_areLike_41 (lv_at hl 0 rfl) ?_
    refine lv_aload_n hx hb dX10_areLike_43 rfl (lv_at hl 4 rfl) ?_
    refine va_get (D := D) (ci := 11) (v := .ref (q 9)) (C := RX10) (T := TX10) (N := 48) hx hb hts inX10 hown hK hP 0 rfl rfl 9 (by decide) (hts _ k_1153) (fun _ h9 => h9) rfl dX10_areLike_44 ?_
    refine lv_iload_n hx hb dX10_areLike_47 rfl (lv_at hl 3 rfl) ?_
    refine q_ild (X := (sl e1)) (f := (F 9)) hx hb hK hP 7 1 rfl rfl (by omega) (by decide) dX10_areLike_48 ?_
    refine q_seti (y := (nI ((Es.getD e1 dE).2.2.2.2.length))) (hre.2.1 e1 (by omega)).2.2.2.2.2.2.1 ?_
    refine lv_icmp_ge (tgt := 100) hx hb dX10_areLike_49 (by decide) (fun c_1 => ?_) (fun c_1 => ?_)
    · have c_1 := q_le (a := (Es.getD e1 dE).2.2.2.2.length) (b := i) (by omega) (by omega) c_1
      exact kk b H locs ls (by first | exact al_fin hb1 (by omega) | exact al_fin0 hb1 (by omega)) hP hD hS (lv_sub hl (l' := [(5, .int (nI b)), (0, .ref h0)]) [1, 4] rfl)
    · have c_1 := q_nle (a := (Es.getD e1 dE).2.2.2.2.length) (b := i) (by omega) (by omega) c_1
      refine lv_iload hx hb dX10_areLike_52 (lv_at hl 1 rfl) ?_
      refine lv_if_eq (tgt := 100) hx hb dX10_areLike_54 (by decide) (fun c_2 => ?_) (fun c_2 => ?_)
      · have c_2 := q_eqn (a := b) (b := 0) (by omega) (by omega) c_2
        exact kk b H locs ls (by first | exact al_fin hb1 (by omega) | exact al_fin0 hb1 (by omega)) hP hD hS (lv_sub hl (l' := [(5, .int (nI b)), (0, .ref h0)]) [1, 4] rfl)
      · have c_2 := q_nen (a := b) (b := 0) (by omega) (by omega) c_2
        have hK9 : alK (Es.getD e1 dE).2.2.2.2 (Es.getD e2 dE).2.2.2.2 i := by
          rcases hb1 with h9 | h9
          · exact h9.2
          · exact False.elim (by omega)
        have hK8 := hK9.1
        refine lv_aload_n hx hb dX10_areLike_57 rfl (lv_at hl 4 rfl) ?_
        refine va_get (D := D) (ci := 11) (v := .ref (q 10)) (C := RX10) (T := TX10) (N := 48) hx hb hts inX10 hown hK hP 0 rfl rfl 10 (by decide) (hts _ k_1154) (fun _ h9 => h9) rfl dX10_areLike_58 ?_
        refine lv_sipush (v := 1200) hx hb dX10_areLike_61 (by decide) ?_
        refine lv_iload_n hx hb dX10_areLike_64 rfl (lv_at hl 3 rfl) ?_
        refine lv_imul hx hb dX10_areLike_65 ?_
        refine q_seti (y := nI (1200 * ((sl e1)))) (pk_mul 1200 ((sl e1))) ?_
        refine lv_iload hx hb dX10_areLike_66 (lv_at hl 0 rfl) ?_
        refine lv_iadd hx hb dX10_areLike_68 ?_
        refine q_seti (y := nI ((1200 * ((sl e1))) + i)) (nI_add (1200 * ((sl e1))) i) ?_
        refine q_bld (X := (1200 * ((sl e1))) + i) (f := (F 10)) hx hb hK hP 8 0 rfl rfl (by omega) (by decide) dX10_areLike_69 ?_
        refine q_seti (y := ((Es.getD e1 dE).2.2.2.2.getD i 0)) ((hre.2.1 e1 he1).2.2.2.2.2.2.2.2.1 i (by omega)) ?_
        refine lv_aload_n hx hb dX10_areLike_70 rfl (lv_at hl 4 rfl) ?_
        refine va_get (D := D) (ci := 11) (v := .ref (q 10)) (C := RX10) (T := TX10) (N := 48) hx hb hts inX10 hown hK hP 0 rfl rfl 10 (by decide) (hts _ k_1154) (fun _ h9 => h9) rfl dX10_areLike_71 ?_
        refine lv_sipush (v := 1200) hx hb dX10_areLike_74 (by decide) ?_
        refine lv_iload hx hb dX10_areLike_77 (lv_at hl 2 rfl) ?_
        refine lv_imul hx hb dX10_areLike_79 ?_
        refine q_seti (y := nI (1200 * ((sl e2)))) (pk_mul 1200 ((sl e2))) ?_
        refine lv_iload hx hb dX10_areLike_80 (lv_at hl 0 rfl) ?_
        refine lv_iadd hx hb dX10_areLike_82 ?_
        refine q_seti (y := nI ((1200 * ((sl e2))) + i)) (nI_add (1200 * ((sl e2))) i) ?_
        refine q_bld (X := (1200 * ((sl e2))) + i) (f := (F 10)) hx hb hK hP 8 0 rfl rfl (by omega) (by decide) dX10_areLike_83 ?_
        refine q_seti (y := ((Es.getD e2 dE).2.2.2.2.getD i 0)) ((hre.2.1 e2 he2).2.2.2.2.2.2.2.2.1 i (by omega)) ?_
        refine lv_icmp_ne (tgt := 91) hx hb dX10_areLike_84 (by decide) (fun c_3 => ?_) (fun c_3 => ?_)
        · refine lv_iconst (v := 0) hx hb dX10_areLike_91 (by decide) ?_
          refine lv_istore (lv' := [(5, .int 0), (6, .int (nI i)), (4, .int (nI ((sl e2)))), (3, .int (nI ((sl e1)))), (0, .ref h0)]) hx hb dX10_areLike_92 hl (by decide) rfl (fun ls hl => ?_)
          refine lv_iinc (v := (nI (i + 1))) (lv' := [(6, .int (nI (i + 1))), (5, .int 0), (4, .int (nI ((sl e2)))), (3, .int (nI ((sl e1)))), (0, .ref h0)]) hx hb dX10_areLike_94 hl (k := 1) rfl (nI_add i 1) (by decide) rfl (fun ls hl => ?_)
          refine lv_goto (tgt := 41) hx hb dX10_areLike_97 (by decide) ?_
          exact ih (i + 1) 0 H locs ls (by omega) (Or.inr ⟨rfl, fun z9 => c_3 (by rw [z9])⟩) hP hD hS (lv_sub hl (l' := [(6, .int (nI (i + 1))), (5, .int 0), (4, .int (nI ((sl e2)))), (3, .int (nI ((sl e1)))), (0, .ref h0)]) [0, 1, 2, 3, 4] rfl) kk
        · refine lv_iconst (v := 1) hx hb dX10_areLike_87 (by decide) ?_
          refine lv_goto (tgt := 92) hx hb dX10_areLike_88 (by decide) ?_
          refine lv_istore (lv' := [(5, .int 1), (6, .int (nI i)), (4, .int (nI ((sl e2)))), (3, .int (nI ((sl e1)))), (0, .ref h0)]) hx hb dX10_areLike_92 hl (by decide) rfl (fun ls hl => ?_)
          refine lv_iinc (v := (nI (i + 1))) (lv' := [(6, .int (nI (i + 1))), (5, .int 1), (4, .int (nI ((sl e2)))), (3, .int (nI ((sl e1)))), (0, .ref h0)]) hx hb dX10_areLike_94 hl (k := 1) rfl (nI_add i 1) (by decide) rfl (fun ls hl => ?_)
          refine lv_goto (tgt := 41) hx hb dX10_areLike_97 (by decide) ?_
          exact ih (i + 1) 1 H locs ls (by omega) (Or.inl ⟨rfl, al_s hK9 c_3⟩) hP hD hS (lv_sub hl (l' := [(6, .int (nI (i + 1))), (5, .int 1), (4, .int (nI ((sl e2)))), (3, .int (nI ((sl e1)))), (0, .ref h0)]) [0, 1, 2, 3, 4] rfl) kk
set_option maxHeartbeats 1000000 in
set_option maxRecDepth 100000 in
theorem r_areLike2 (l : Launch) (D : va_G) (h0 : Nat) (q : Nat → Nat) (cB cI_ cZ : ClassId) (I : Nat → Int32) (F : Nat → Nat → Int32) (Es : List E5) (sl : Nat → Nat) (e1 e2 : Nat) (hre : reR F Es sl) (he1 : e1 < Es.length) (he2 : e2 < Es.length) : cI l D yX10_areLike cX10_areLike 7 (some .boolean) 0 0 0 0 [.ref h0, .int (nI e1), .int (nI e2)] zT (mW h0 q cB cI_ cZ I F) (mT cB cI_ cZ) (fun r u => (((Es.getD e1 dE).2.2.2.2 = (Es.getD e2 dE).2.2.2.2) ∧ r = 1 ∨ ¬ ((Es.getD e1 dE).2.2.2.2 = (Es.getD e2 dE).2.2.2.2) ∧ r = 0) ∧ u = (mW h0 q cB cI_ cZ I F, mT cB cI_ cZ)) := by
  refine q_si (by decide) (Nat.le_of_ble_eq_true rfl) ?_
  intro p e s m below meth c A ls hAe hf hr hlocks hin hK hP hD hS hA hZ hl
  obtain ⟨hx, hb, hml, hown, hts⟩ := id hf
  have hl : lv_has ls 7 [(0, .ref h0), (1, .int (nI e1)), (2, .int (nI e2))] := hl
  have hre1 := hre.1
  have hq1 := (hre.2.1 e1 he1).2.1
  have hq2 := (hre.2.1 e2 he2).2.1
  have hl1 := (hre.2.1 e1 he1).2.2.2.2.2.2.2.1
  have hl2 := (hre.2.1 e2 he2).2.2.2.2.2.2.2.1
  refine lv_aload_n hx hb dX10_areLike_0 rfl (lv_at hl 0 rfl) ?_
  refine va_get (D := D) (ci := 11) (v := .ref (q 4)) (C := RX10) (T := TX10) (N := 48) hx hb hts inX10 hown hK hP 0 rfl rfl 4 (by decide) (hts _ k_1148) (fun _ h9 => h9) rfl dX10_areLike_1 ?_
  refine lv_iload_n hx hb dX10_areLike_4 rfl (lv_at hl 1 rfl) ?_
  refine q_ild (X := e1) (f := (F 4)) hx hb hK hP 2 1 rfl rfl (by omega) (by decide) dX10_areLike_5 ?_
  refine q_seti (y := (nI ((sl e1)))) (hre.2.1 e1 (by omega)).1 ?_
  refine lv_istore_n (lv' := [(3, .int (nI ((sl e1)))), (0, .ref h0), (1, .int (nI e1)), (2, .int (nI e2))]) hx hb dX10_areLike_6 rfl hl (by decide) rfl (fun ls hl => ?_)
  refine lv_aload_n hx hb dX10_areLike_7 rfl (lv_at hl 1 rfl) ?_
  refine va_get (D := D) (ci := 11) (v := .ref (q 4)) (C := RX10) (T := TX10) (N := 48) hx hb hts inX10 hown hK hP 0 rfl rfl 4 (by decide) (hts _ k_1148) (fun _ h9 => h9) rfl dX10_areLike_8 ?_
  refine lv_iload_n hx hb dX10_areLike_11 rfl (lv_at hl 3 rfl) ?_
  refine q_ild (X := e2) (f := (F 4)) hx hb hK hP 2 1 rfl rfl (by omega) (by decide) dX10_areLike_12 ?_
  refine q_seti (y := (nI ((sl e2)))) (hre.2.1 e2 (by omega)).1 ?_
  refine lv_istore (lv' := [(4, .int (nI ((sl e2)))), (3, .int (nI ((sl e1)))), (0, .ref h0), (1, .int (nI e1)), (2, .int (nI e2))]) hx hb dX10_areLike_13 hl (by decide) rfl (fun ls hl => ?_)
  refine lv_aload_n hx hb dX10_areLike_15 rfl (lv_at hl 2 rfl) ?_
  refine va_get (D := D) (ci := 11) (v := .ref (q 9)) (C := RX10) (T := TX10) (N := 48) hx hb hts inX10 hown hK hP 0 rfl rfl 9 (by decide) (hts _ k_1153) (fun _ h9 => h9) rfl dX10_areLike_16 ?_
  refine lv_iload_n hx hb dX10_areLike_19 rfl (lv_at hl 1 rfl) ?_
  refine q_ild (X := (sl e1)) (f := (F 9)) hx hb hK hP 7 1 rfl rfl (by omega) (by decide) dX10_areLike_20 ?_
  refine q_seti (y := (nI ((Es.getD e1 dE).2.2.2.2.length))) (hre.2.1 e1 (by omega)).2.2.2.2.2.2.1 ?_
  refine lv_aload_n hx hb dX10_areLike_21 rfl (lv_at hl 2 rfl) ?_
  refine va_get (D := D) (ci := 11) (v := .ref (q 9)) (C := RX10) (T := TX10) (N := 48) hx hb hts inX10 hown hK hP 0 rfl rfl 9 (by decide) (hts _ k_1153) (fun _ h9 => h9) rfl dX10_areLike_22 ?_
  refine lv_iload hx hb dX10_areLike_25 (lv_at hl 0 rfl) ?_
  refine q_ild (X := (sl e2)) (f := (F 9)) hx hb hK hP 7 1 rfl rfl (by omega) (by decide) dX10_areLike_27 ?_
  refine q_seti (y := (nI ((Es.getD e2 dE).2.2.2.2.length))) (hre.2.1 e2 (by omega)).2.2.2.2.2.2.1 ?_
  refine lv_icmp_ne (tgt := 35) hx hb dX10_areLike_28 (by decide) (fun c_1 => ?_) (fun c_1 => ?_)
  · have c_1 := q_nen (a := (Es.getD e1 dE).2.2.2.2.length) (b := (Es.getD e2 dE).2.2.2.2.length) (by omega) (by omega) c_1
    refine lv_iconst (v := 0) hx hb dX10_areLike_35 (by decide) ?_
    refine lv_istore (lv' := [(5, .int 0), (4, .int (nI ((sl e2)))), (3, .int (nI ((sl e1)))), (0, .ref h0), (1, .int (nI e1)), (2, .int (nI e2))]) hx hb dX10_areLike_36 hl (by decide) rfl (fun ls hl => ?_)
    refine lv_iconst (v := 0) hx hb dX10_areLike_38 (by decide) ?_
    refine lv_istore (lv' := [(6, .int 0), (5, .int 0), (4, .int (nI ((sl e2)))), (3, .int (nI ((sl e1)))), (0, .ref h0), (1, .int (nI e1)), (2, .int (nI e2))]) hx hb dX10_areLike_39 hl (by decide) rfl (fun ls hl => ?_)
    refine lal2_ (Es := Es) (sl := sl) (e1 := e1) (e2 := e2) hre he1 he2 (Nat.le_of_ble_eq_true rfl) (Nat.le_of_ble_eq_true rfl) (Nat.le_of_ble_eq_true rfl) (Nat.le_of_ble_eq_true rfl) hA hf hK _ 0 0 _ _ ls (Nat.zero_add _) (Or.inr ⟨rfl, fun z9 => absurd (congrArg List.length z9) (by omega)⟩) hP hD hS (lv_sub hl (l' := [(6, .int 0), (5, .int 0), (4, .int (nI ((sl e2)))), (3, .int (nI ((sl e1)))), (0, .ref h0)]) [0, 1, 2, 3, 4] rfl) (fun b H locs ls hb1 hP hD hS hl => ?_)
    rcases hb1 with ⟨rfl, hE9⟩ | ⟨rfl, hE9⟩
    · refine lv_iload hx hb dX10_areLike_100 (lv_at hl 0 rfl) ?_
      exact q_zi hf hr rfl hlocks hK hP hD hS (Nat.le_of_ble_eq_true rfl) (Nat.le_of_ble_eq_true rfl) ⟨Or.inl ⟨hE9, rfl⟩, rfl⟩ dX10_areLike_102
    · refine lv_iload hx hb dX10_areLike_100 (lv_at hl 0 rfl) ?_
      exact q_zi hf hr rfl hlocks hK hP hD hS (Nat.le_of_ble_eq_true rfl) (Nat.le_of_ble_eq_true rfl) ⟨Or.inr ⟨hE9, rfl⟩, rfl⟩ dX10_areLike_102
  · have c_1 := q_eqn (a := (Es.getD e1 dE).2.2.2.2.length) (b := (Es.getD e2 dE).2.2.2.2.length) (by omega) (by omega) c_1
    refine lv_iconst (v := 1) hx hb dX10_areLike_31 (by decide) ?_
    refine lv_goto (tgt := 36) hx hb dX10_areLike_32 (by decide) ?_
    refine lv_istore (lv' := [(5, .int 1), (4, .int (nI ((sl e2)))), (3, .int (nI ((sl e1)))), (0, .ref h0), (1, .int (nI e1)), (2, .int (nI e2))]) hx hb dX10_areLike_36 hl (by decide) rfl (fun ls hl => ?_)
    refine lv_iconst (v := 0) hx hb dX10_areLike_38 (by decide) ?_
    refine lv_istore (lv' := [(6, .int 0), (5, .int 1), (4, .int (nI ((sl e2)))), (3, .int (nI ((sl e1)))), (0, .ref h0), (1, .int (nI e1)), (2, .int (nI e2))]) hx hb dX10_areLike_39 hl (by decide) rfl (fun ls hl => ?_)
    refine lal2_ (Es := Es) (sl := sl) (e1 := e1) (e2 := e2) hre he1 he2 (Nat.le_of_ble_eq_true rfl) (Nat.le_of_ble_eq_true rfl) (Nat.le_of_ble_eq_true rfl) (Nat.le_of_ble_eq_true rfl) hA hf hK _ 0 1 _ _ ls (Nat.zero_add _) (Or.inl ⟨rfl, by omega, fun u hu => absurd hu (Nat.not_lt_zero u)⟩) hP hD hS (lv_sub hl (l' := [(6, .int 0), (5, .int 1), (4, .int (nI ((sl e2)))), (3, .int (nI ((sl e1)))), (0, .ref h0)]) [0, 1, 2, 3, 4] rfl) (fun b H locs ls hb1 hP hD hS hl => ?_)
    rcases hb1 with ⟨rfl, hE9⟩ | ⟨rfl, hE9⟩
    · refine lv_iload hx hb dX10_areLike_100 (lv_at hl 0 rfl) ?_
      exact q_zi hf hr rfl hlocks hK hP hD hS (Nat.le_of_ble_eq_true rfl) (Nat.le_of_ble_eq_true rfl) ⟨Or.inl ⟨hE9, rfl⟩, rfl⟩ dX10_areLike_102
    · refine lv_iload hx hb dX10_areLike_100 (lv_at hl 0 rfl) ?_
      exact q_zi hf hr rfl hlocks hK hP hD hS (Nat.le_of_ble_eq_true rfl) (Nat.le_of_ble_eq_true rfl) ⟨Or.inr ⟨hE9, rfl⟩, rfl⟩ dX10_areLike_102
set_option maxHeartbeats 1000000 in
set_option maxRecDepth 100000 in
theorem lsf2_ {p : Program} {l : Launch} {e : Env} {R : Room} {s : State} {m : MethodId} {args : Array Value} {below : List Frame} {meth : Method} {c : Code} {cells slots : Nat} {Q : State → Prop} {D : va_G} {A : Nat → Prop} {h0 : Nat} {q : Nat → Nat} {cB cI cZ : ClassId} {I : Nat → Int32} {F : Nat → Nat → Int32} {Es : List E5} {sl : Nat → Nat} {mr : Nat} {Rw : Nat → Nat} {s1 : Nat} (hs1 : s1 ≤ 100) (hre : reR F Es sl) (hI44 : I 44 = nI mr) (hm : mr ≤ 60) (hrow : ∀ j, j < mr → F 45 j = nI (Rw j) ∧ Rw j < Es.length) (hRf : 1 ≤ R.frames) (hRl : 21 ≤ R.locals) (hRc : cells ≤ R.cells) (hRs : slots ≤ R.slots) (hA : ∀ q : Nat, s.heap.size ≤ q → A q) (hf : CallFix p m c cX10_sceneFrom 4 s args gT yX10_sceneFrom.cls) (hK : va_K D vcl (mT cB cI cZ) s) :
    ∀ (k : Nat) (i : Nat) (lf : Nat) (H : Heap) (locs : List Loc) (ls : Array Slot), i + k = mr → lf + hdC Es Rw i = s1 →  va_P D vcl (mW h0 q cB cI cZ I F) H → va_D A (mW h0 q cB cI cZ I F) → va_S A s.heap H locs → lv_has ls 4 [(3, .int (nI i)), (2, .int (nI lf)), (0, .ref h0)] →
    (∀ (i : Nat) (H : Heap) (locs : List Loc) (ls : Array Slot), i < mr → (Es.getD (Rw i) dE).1 = 0 → hdC Es Rw i = s1 → va_P D vcl (mW h0 q cB cI cZ I F) H → va_D A (mW h0 q cB cI cZ I F) → va_S A s.heap H locs → lv_has ls 4 [(3, .int (nI i)), (0, .ref h0)] → W p l e R s m args below meth c H locs cells slots Q (F0 m 24 ls [])) →
    (∀  (H : Heap) (locs : List Loc) (ls : Array Slot), hdC Es Rw mr ≤ s1 → va_P D vcl (mW h0 q cB cI cZ I F) H → va_D A (mW h0 q cB cI cZ I F) → va_S A s.heap H locs → lv_has ls 4 [(0, .ref h0)] → W p l e R s m args below meth c H locs cells slots Q (F0 m 35 ls [])) →
    W p l e R s m args below meth c H locs cells slots Q (F0 m 4 ls []) := by
  obtain ⟨hx, hb, hml, hown, hts⟩ := id hf
  intro k
  induction k with
  | zero =>
    intro i lf H locs ls hik hv hP hD hS hl kA kB
    refine lv_iload_n hx hb dX10_sceneFrom_4 rfl (lv_at hl 0 rfl) ?_
    refine lv_aload_n hx hb dX10_sceneFrom_5 rfl (lv_at hl 2 rfl) ?_
    refine va_get (D := D) (ci := 11) (v := .int (I 44)) (C := RX10) (T := TX10) (N := 48) hx hb hts inX10 hown hK hP 0 rfl rfl 44 (by decide) (hts _ k_1188) (fun _ h9 => h9) rfl dX10_sceneFrom_6 ?_
    refine q_seti (y := (nI mr)) hI44 ?_
    refine lv_icmp_ge (tgt := 35) hx hb dX10_sceneFrom_9 (by decide) (fun c_1 => ?_) (fun c_1 => ?_)
    · have c_1 := q_le (a := mr) (b := i) (by omega) (by omega) c_1
      obtain rfl : mr = i := by omega
      exact kB H locs ls (by omega) hP hD hS (lv_sub hl (l' := [(0, .ref h0)]) [2] rfl)
    · have c_1 := q_nle (a := mr) (b := i) (by omega) (by omega) c_1
      exact absurd hik (by omega)
  | succ k ih =>
    intro i lf H locs ls hik hv hP hD hS hl kA kB
    refine lv_iload_n hx hb dX10_sceneFrom_4 rfl (lv_at hl 0 rfl) ?_
    refine lv_aload_n hx hb dX10_sceneFrom_5 rfl (lv_at hl 2 rfl) ?_
    refine va_get (D := D) (ci := 11) (v := .int (I 44)) (C := RX10) (T := TX10) (N := 48) hx hb hts inX10 hown hK hP 0 rfl rfl 44 (by decide) (hts _ k_1188) (fun _ h9 => h9) rfl dX10_sceneFrom_6 ?_
    refine q_seti (y := (nI mr)) hI44 ?_
    refine lv_icmp_ge (tgt := 35) hx hb dX10_sceneFrom_9 (by decide) (fun c_1 => ?_) (fun c_1 => ?_)
    · have c_1 := q_le (a := mr) (b := i) (by omega) (by omega) c_1
      exact absurd hik (by omega)
    · have c_1 := q_nle (a := mr) (b := i) (by omega) (by omega) c_1
      refine lv_aload_n hx hb dX10_sceneFrom_12 rfl (lv_at hl 2 rfl) ?_
      refine lv_iload_n hx hb dX10_sceneFrom_13 rfl (lv_at hl 0 rfl) ?_
      refine q_ci (k := cells) (n := slots) hK hP hD hS hA (fun hPc hKc hDc => q_rV (As := [.int (nI i)]) (rest := []) hf (r_isHead _ D h0 q cB cI cZ I F Es sl mr Rw i hre hI44 hm hrow (by omega) _) k_1491 k_1488 k_1490 k_77 k_98 (nA := 1) (by decide +kernel) ⟨Nat.le_trans (by decide) hRf, Nat.le_trans (by decide) hRl⟩ hK hP (ci := 11) (q0 := 0) rfl rfl rfl hPc hKc hDc (fun _ _ _ _ h => h) (fun _ _ _ => trivial) rfl hl.1 rfl (Nat.le_of_ble_eq_true rfl) dX10_sceneFrom_14 ⟨hRc, hRs⟩) (Nat.le_refl _) (Nat.le_refl _) (fun r u H locs hw hK hP hD hS => ?_)
      rcases hw with ⟨⟨c_2, rfl⟩ | ⟨c_2, rfl⟩, rfl⟩
      · have hP : va_P D vcl (mW h0 q cB cI cZ I F) H := hP
        have hD : va_D A (mW h0 q cB cI cZ I F) := hD
        refine lv_if_eq (tgt := 29) hx hb dX10_sceneFrom_17 (by decide) (fun hno => absurd hno (by decide)) (fun _ => ?_)
        refine lv_iload_n hx hb dX10_sceneFrom_20 rfl (lv_at hl 1 rfl) ?_
        refine lv_if_ne (tgt := 26) hx hb dX10_sceneFrom_21 (by decide) (fun c_3 => ?_) (fun c_3 => ?_)
        · have c_3 := q_nen (a := lf) (b := 0) (by omega) (by omega) c_3
          refine lv_iinc (v := (nI (lf - 1))) (lv' := [(2, .int (nI (lf - 1))), (3, .int (nI i)), (0, .ref h0)]) hx hb dX10_sceneFrom_26 hl (k := 1) rfl (sb_m1 (by omega)) (by decide) rfl (fun ls hl => ?_)
          refine lv_iinc (v := (nI (i + 1))) (lv' := [(3, .int (nI (i + 1))), (2, .int (nI (lf - 1))), (0, .ref h0)]) hx hb dX10_sceneFrom_29 hl (k := 1) rfl (nI_add i 1) (by decide) rfl (fun ls hl => ?_)
          refine lv_goto (tgt := 4) hx hb dX10_sceneFrom_32 (by decide) ?_
          have hh9 := hdC_y (Es := Es) (Rw := Rw) c_2
          exact ih (i + 1) _ H locs ls (by omega) (by rw [hh9]; omega) hP hD hS (lv_sub hl (l' := [(3, .int (nI (i + 1))), (2, .int (nI (lf - 1))), (0, .ref h0)]) [0, 1, 2] rfl) kA kB
        · have c_3 := q_eqn (a := lf) (b := 0) (by omega) (by omega) c_3
          exact kA i H locs ls (by omega) c_2 (by omega) hP hD hS (lv_sub hl (l' := [(3, .int (nI i)), (0, .ref h0)]) [0, 2] rfl)
      · have hP : va_P D vcl (mW h0 q cB cI cZ I F) H := hP
        have hD : va_D A (mW h0 q cB cI cZ I F) := hD
        refine lv_if_eq (tgt := 29) hx hb dX10_sceneFrom_17 (by decide) (fun _ => ?_) (fun hno => absurd hno (by decide))
        refine lv_iinc (v := (nI (i + 1))) (lv' := [(3, .int (nI (i + 1))), (2, .int (nI lf)), (0, .ref h0)]) hx hb dX10_sceneFrom_29 hl (k := 0) rfl (nI_add i 1) (by decide) rfl (fun ls hl => ?_)
        refine lv_goto (tgt := 4) hx hb dX10_sceneFrom_32 (by decide) ?_
        have hh9 := hdC_n (Es := Es) (Rw := Rw) c_2
        exact ih (i + 1) _ H locs ls (by omega) (by rw [hh9]; omega) hP hD hS (lv_sub hl (l' := [(3, .int (nI (i + 1))), (2, .int (nI lf)), (0, .ref h0)]) [0, 1, 2] rfl) kA kB
set_option maxHeartbeats 1000000 in
set_option maxRecDepth 100000 in
theorem r_sceneF2 (l : Launch) (D : va_G) (h0 : Nat) (q : Nat → Nat) (cB cI_ cZ : ClassId) (I : Nat → Int32) (F : Nat → Nat → Int32) (Es : List E5) (sl : Nat → Nat) (mr : Nat) (Rw : Nat → Nat) (s1 : Nat) (hs1 : s1 ≤ 100) (hre : reR F Es sl) (hI44 : I 44 = nI mr) (hm : mr ≤ 60) (hrow : ∀ j, j < mr → F 45 j = nI (Rw j) ∧ Rw j < Es.length) : cI l D yX10_sceneFrom cX10_sceneFrom 4 (some .int) 1 21 0 0 [.ref h0, .int (nI s1)] zT (mW h0 q cB cI_ cZ I F) (mT cB cI_ cZ) (fun r u => ∃ z : Nat, r = nI z ∧ sfR Es Rw mr s1 z ∧ u = (mW h0 q cB cI_ cZ I F, mT cB cI_ cZ)) := by
  refine q_si (by decide) (Nat.le_of_ble_eq_true rfl) ?_
  intro p e s m below meth c A ls hAe hf hr hlocks hin hK hP hD hS hA hZ hl
  obtain ⟨hx, hb, hml, hown, hts⟩ := id hf
  have hl : lv_has ls 4 [(0, .ref h0), (1, .int (nI s1))] := hl
  refine lv_iload_n hx hb dX10_sceneFrom_0 rfl (lv_at hl 1 rfl) ?_
  refine lv_istore_n (lv' := [(2, .int (nI s1)), (0, .ref h0), (1, .int (nI s1))]) hx hb dX10_sceneFrom_1 rfl hl (by decide) rfl (fun ls hl => ?_)
  refine lv_iconst (v := 0) hx hb dX10_sceneFrom_2 (by decide) ?_
  refine lv_istore_n (lv' := [(3, .int 0), (2, .int (nI s1)), (0, .ref h0), (1, .int (nI s1))]) hx hb dX10_sceneFrom_3 rfl hl (by decide) rfl (fun ls hl => ?_)
  refine lsf2_ (Es := Es) (sl := sl) (mr := mr) (Rw := Rw) (s1 := s1) hs1 hre hI44 hm hrow (Nat.le_of_ble_eq_true rfl) (Nat.le_of_ble_eq_true rfl) (Nat.le_of_ble_eq_true rfl) (Nat.le_of_ble_eq_true rfl) hA hf hK mr 0 s1 _ _ ls (by omega) (Nat.add_zero _) hP hD hS (lv_sub hl (l' := [(3, .int 0), (2, .int (nI s1)), (0, .ref h0)]) [0, 1, 2] rfl) (fun i H locs ls a1 a2 a3 hP hD hS hl => ?_) (fun H locs ls a1 hP hD hS hl => ?_)
  · refine lv_iload_n hx hb dX10_sceneFrom_24 rfl (lv_at hl 0 rfl) ?_
    exact q_zi hf hr rfl hlocks hK hP hD hS (Nat.le_of_ble_eq_true rfl) (Nat.le_of_ble_eq_true rfl) ⟨i, rfl, Or.inl ⟨a1, a2, a3⟩, rfl⟩ dX10_sceneFrom_25
  · refine lv_aload_n hx hb dX10_sceneFrom_35 rfl (lv_at hl 0 rfl) ?_
    refine va_get (D := D) (ci := 11) (v := .int (I 44)) (C := RX10) (T := TX10) (N := 48) hx hb hts inX10 hown hK hP 0 rfl rfl 44 (by decide) (hts _ k_1188) (fun _ h9 => h9) rfl dX10_sceneFrom_36 ?_
    refine q_seti (y := (nI mr)) hI44 ?_
    exact q_zi hf hr rfl hlocks hK hP hD hS (Nat.le_of_ble_eq_true rfl) (Nat.le_of_ble_eq_true rfl) ⟨mr, rfl, Or.inr ⟨rfl, a1⟩, rfl⟩ dX10_sceneFrom_39
set_option maxHeartbeats 1000000 in
set_option maxRecDepth 100000 in
theorem lwi2_ {p : Program} {l : Launch} {e : Env} {R : Room} {s : State} {m : MethodId} {args : Array Value} {below : List Frame} {meth : Method} {c : Code} {cells slots : Nat} {Q : State → Prop} {D : va_G} {A : Nat → Prop} {h0 : Nat} {q : Nat → Nat} {cB cI cZ : ClassId} {I : Nat → Int32} {F : Nat → Nat → Int32} {Es : List E5} {sl : Nat → Nat} {mr : Nat} {Rw : Nat → Nat} {wn i s1 : Nat} (hre : reR F Es sl) (hI44 : I 44 = nI mr) (hm : mr ≤ 60) (hrow : ∀ j, j < mr → F 45 j = nI (Rw j) ∧ Rw j < Es.length) (hI46 : I 46 = nI wn) (hwn : wn ≤ 60) (hwho : whI Es.length wn (F 47)) (hi : i < mr) (hRf : 1 ≤ R.frames) (hRl : 30 ≤ R.locals) (hRc : cells ≤ R.cells) (hRs : slots ≤ R.slots) (hA : ∀ q : Nat, s.heap.size ≤ q → A q) (hf : CallFix p m c cX10_findWho 5 s args gT yX10_findWho.cls) (hK : va_K D vcl (mT cB cI cZ) s) :
    ∀ (k : Nat) (j : Nat) (b : Int32) (H : Heap) (locs : List Loc) (ls : Array Slot), j + k = wn → whB Es Rw wn (F 47) i j b →  va_P D vcl (mW h0 q cB cI cZ I F) H → va_D A (mW h0 q cB cI cZ I F) → va_S A s.heap H locs → lv_has ls 5 [(4, .int (nI j)), (3, .int b), (2, .int (nI i)), (1, .int (nI s1)), (0, .ref h0)] →
    (∀ (b : Int32) (H : Heap) (locs : List Loc) (ls : Array Slot), whB Es Rw wn (F 47) i wn b → va_P D vcl (mW h0 q cB cI cZ I F) H → va_D A (mW h0 q cB cI cZ I F) → va_S A s.heap H locs → lv_has ls 5 [(3, .int b), (2, .int (nI i)), (1, .int (nI s1)), (0, .ref h0)] → W p l e R s m args below meth c H locs cells slots Q (F0 m 96 ls [])) →
    W p l e R s m args below meth c H locs cells slots Q (F0 m 51 ls []) := by
  obtain ⟨hx, hb, hml, hown, hts⟩ := id hf
  have hre1 := hre.1
  intro k
  induction k with
  | zero =>
    intro j b H locs ls hik hbb hP hD hS hl kk
    refine lv_iload hx hb dX10_findWho_51 (lv_at hl 0 rfl) ?_
    refine lv_aload_n hx hb dX10_findWho_53 rfl (lv_at hl 4 rfl) ?_
    refine va_get (D := D) (ci := 11) (v := .int (I 46)) (C := RX10) (T := TX10) (N := 48) hx hb hts inX10 hown hK hP 0 rfl rfl 46 (by decide) (hts _ k_1190) (fun _ h9 => h9) rfl dX10_findWho_54 ?_
    refine q_seti (y := (nI wn)) hI46 ?_
    refine lv_icmp_ge (tgt := 96) hx hb dX10_findWho_57 (by decide) (fun c_1 => ?_) (fun c_1 => ?_)
    · have c_1 := q_le (a := wn) (b := j) (by omega) (by omega) c_1
      exact kk b H locs ls (whB_e hbb (Or.inr (by omega))) hP hD hS (lv_sub hl (l' := [(3, .int b), (2, .int (nI i)), (1, .int (nI s1)), (0, .ref h0)]) [1, 2, 3, 4] rfl)
    · have c_1 := q_nle (a := wn) (b := j) (by omega) (by omega) c_1
      exact absurd hik (by omega)
  | succ k ih =>
    intro j b H locs ls hik hbb hP hD hS hl kk
    refine lv_iload hx hb dX10_findWho_51 (lv_at hl 0 rfl) ?_
    refine lv_aload_n hx hb dX10_findWho_53 rfl (lv_at hl 4 rfl) ?_
    refine va_get (D := D) (ci := 11) (v := .int (I 46)) (C := RX10) (T := TX10) (N := 48) hx hb hts inX10 hown hK hP 0 rfl rfl 46 (by decide) (hts _ k_1190) (fun _ h9 => h9) rfl dX10_findWho_54 ?_
    refine q_seti (y := (nI wn)) hI46 ?_
    refine lv_icmp_ge (tgt := 96) hx hb dX10_findWho_57 (by decide) (fun c_1 => ?_) (fun c_1 => ?_)
    · have c_1 := q_le (a := wn) (b := j) (by omega) (by omega) c_1
      exact kk b H locs ls (whB_e hbb (Or.inr (by omega))) hP hD hS (lv_sub hl (l' := [(3, .int b), (2, .int (nI i)), (1, .int (nI s1)), (0, .ref h0)]) [1, 2, 3, 4] rfl)
    · have c_1 := q_nle (a := wn) (b := j) (by omega) (by omega) c_1
      refine lv_iload_n hx hb dX10_findWho_60 rfl (lv_at hl 1 rfl) ?_
      refine lv_if_eq (tgt := 96) hx hb dX10_findWho_61 (by decide) (fun c_2 => ?_) (fun c_2 => ?_)
      · exact kk b H locs ls (whB_e hbb (Or.inl c_2)) hP hD hS (lv_sub hl (l' := [(3, .int b), (2, .int (nI i)), (1, .int (nI s1)), (0, .ref h0)]) [1, 2, 3, 4] rfl)
      · obtain ⟨e1, he1, hw1⟩ := hwho j (by omega)
        have hrj1 := (hrow i hi).2
        refine lv_aload_n hx hb dX10_findWho_64 rfl (lv_at hl 4 rfl) ?_
        refine lv_aload_n hx hb dX10_findWho_65 rfl (lv_at hl 4 rfl) ?_
        refine va_get (D := D) (ci := 11) (v := .ref (q 47)) (C := RX10) (T := TX10) (N := 48) hx hb hts inX10 hown hK hP 0 rfl rfl 47 (by decide) (hts _ k_1191) (fun _ h9 => h9) rfl dX10_findWho_66 ?_
        refine lv_iload hx hb dX10_findWho_69 (lv_at hl 0 rfl) ?_
        refine q_ild (X := j) (f := (F 47)) hx hb hK hP 34 1 rfl rfl (by omega) (by decide) dX10_findWho_71 ?_
        refine q_seti (y := (nI e1)) hw1 ?_
        refine lv_aload_n hx hb dX10_findWho_72 rfl (lv_at hl 4 rfl) ?_
        refine va_get (D := D) (ci := 11) (v := .ref (q 45)) (C := RX10) (T := TX10) (N := 48) hx hb hts inX10 hown hK hP 0 rfl rfl 45 (by decide) (hts _ k_1189) (fun _ h9 => h9) rfl dX10_findWho_73 ?_
        refine lv_iload_n hx hb dX10_findWho_76 rfl (lv_at hl 2 rfl) ?_
        refine q_ild (X := i) (f := (F 45)) hx hb hK hP 33 1 rfl rfl (by omega) (by decide) dX10_findWho_77 ?_
        refine q_seti (y := (nI ((Rw i)))) (hrow i (by omega)).1 ?_
        refine q_ci (k := cells) (n := slots) hK hP hD hS hA (fun hPc hKc hDc => q_rV (As := [.int (nI e1), .int (nI ((Rw i)))]) (rest := []) hf (r_areLike2 _ D h0 q cB cI cZ I F Es sl e1 ((Rw i)) hre (by omega) (by omega) _) k_1508 k_1505 k_1507 k_80 k_98 (nA := 2) (by decide +kernel) ⟨Nat.le_trans (by decide) hRf, Nat.le_trans (by decide) hRl⟩ hK hP (ci := 11) (q0 := 0) rfl rfl rfl hPc hKc hDc (fun _ _ _ _ h => h) (fun _ _ _ => trivial) rfl hl.1 rfl (Nat.le_of_ble_eq_true rfl) dX10_findWho_78 ⟨hRc, hRs⟩) (Nat.le_refl _) (Nat.le_refl _) (fun r u H locs hw hK hP hD hS => ?_)
        rcases hw with ⟨⟨c_3, rfl⟩ | ⟨c_3, rfl⟩, rfl⟩
        · have hP : va_P D vcl (mW h0 q cB cI cZ I F) H := hP
          have hD : va_D A (mW h0 q cB cI cZ I F) := hD
          refine lv_if_ne (tgt := 88) hx hb dX10_findWho_81 (by decide) (fun _ => ?_) (fun hno => absurd hno (by decide))
          refine lv_iconst (v := 0) hx hb dX10_findWho_88 (by decide) ?_
          refine lv_istore_n (lv' := [(3, .int 0), (4, .int (nI j)), (2, .int (nI i)), (1, .int (nI s1)), (0, .ref h0)]) hx hb dX10_findWho_89 rfl hl (by decide) rfl (fun ls hl => ?_)
          refine lv_iinc (v := (nI (j + 1))) (lv' := [(4, .int (nI (j + 1))), (3, .int 0), (2, .int (nI i)), (1, .int (nI s1)), (0, .ref h0)]) hx hb dX10_findWho_90 hl (k := 1) rfl (nI_add j 1) (by decide) rfl (fun ls hl => ?_)
          refine lv_goto (tgt := 51) hx hb dX10_findWho_93 (by decide) ?_
          exact ih (j + 1) _ H locs ls (by omega) (whB_l (by omega) he1 hw1 c_3) hP hD hS (lv_sub hl (l' := [(4, .int (nI (j + 1))), (3, .int 0), (2, .int (nI i)), (1, .int (nI s1)), (0, .ref h0)]) [0, 1, 2, 3, 4] rfl) kk
        · have hP : va_P D vcl (mW h0 q cB cI cZ I F) H := hP
          have hD : va_D A (mW h0 q cB cI cZ I F) := hD
          refine lv_if_ne (tgt := 88) hx hb dX10_findWho_81 (by decide) (fun hno => absurd hno (by decide)) (fun _ => ?_)
          refine lv_iconst (v := 1) hx hb dX10_findWho_84 (by decide) ?_
          refine lv_goto (tgt := 89) hx hb dX10_findWho_85 (by decide) ?_
          refine lv_istore_n (lv' := [(3, .int 1), (4, .int (nI j)), (2, .int (nI i)), (1, .int (nI s1)), (0, .ref h0)]) hx hb dX10_findWho_89 rfl hl (by decide) rfl (fun ls hl => ?_)
          refine lv_iinc (v := (nI (j + 1))) (lv' := [(4, .int (nI (j + 1))), (3, .int 1), (2, .int (nI i)), (1, .int (nI s1)), (0, .ref h0)]) hx hb dX10_findWho_90 hl (k := 1) rfl (nI_add j 1) (by decide) rfl (fun ls hl => ?_)
          refine lv_goto (tgt := 51) hx hb dX10_findWho_93 (by decide) ?_
          exact ih (j + 1) _ H locs ls (by omega) (whB_s hre1 hbb c_2 he1 hw1 c_3) hP hD hS (lv_sub hl (l' := [(4, .int (nI (j + 1))), (3, .int 1), (2, .int (nI i)), (1, .int (nI s1)), (0, .ref h0)]) [0, 1, 2, 3, 4] rfl) kk
set_option maxHeartbeats 1000000 in
set_option maxRecDepth 100000 in
theorem lwo2_ {p : Program} {l : Launch} {e : Env} {R : Room} {s : State} {m : MethodId} {args : Array Value} {below : List Frame} {meth : Method} {c : Code} {cells slots : Nat} {Q : State → Prop} {D : va_G} {A : Nat → Prop} {h0 : Nat} {q : Nat → Nat} {cB cI cZ : ClassId} {I : Nat → Int32} {F : Nat → Nat → Int32} {Es : List E5} {sl : Nat → Nat} {mr : Nat} {Rw : Nat → Nat} {s1 z1 : Nat} (hs1 : s1 ≤ 99) (hre : reR F Es sl) (hI44 : I 44 = nI mr) (hm : mr ≤ 60) (hrow : ∀ j, j < mr → F 45 j = nI (Rw j) ∧ Rw j < Es.length) (hRf : 2 ≤ R.frames) (hRl : 60 ≤ R.locals) (hRc : cells ≤ R.cells) (hRs : slots ≤ R.slots) (hA : ∀ q : Nat, s.heap.size ≤ q → A q) (hf : CallFix p m c cX10_findWho 5 s args gT yX10_findWho.cls) (hK : va_K D vcl (mT cB cI cZ) s) :
    ∀ (k : Nat) (i : Nat) (wn : Nat) (g47 : Nat → Int32) (H : Heap) (locs : List Loc) (ls : Array Slot), i + k = mr → wn ≤ i → whI Es.length wn g47 → z1 ≤ i → (∀ z2, sfR Es Rw mr (s1 + 1) z2 → i ≤ z2) → whQ Es Rw wn g47 z1 i → wn + pcnt (nwR Es Rw z1) z1 = pcnt (nwR Es Rw z1) i →  va_P D vcl (mW h0 q cB cI cZ (upd I 46 (nI wn)) (va_up F 47 g47)) H → va_D A (mW h0 q cB cI cZ (upd I 46 (nI wn)) (va_up F 47 g47)) → va_S A s.heap H locs → lv_has ls 5 [(2, .int (nI i)), (1, .int (nI s1)), (0, .ref h0)] →
    (∀ (wn : Nat) (g47 : Nat → Int32) (z2 : Nat) (H : Heap) (locs : List Loc) (ls : Array Slot), wn ≤ 60 → whI Es.length wn g47 → sfR Es Rw mr (s1 + 1) z2 → whQ Es Rw wn g47 z1 z2 → wn + pcnt (nwR Es Rw z1) z1 = pcnt (nwR Es Rw z1) z2 → va_P D vcl (mW h0 q cB cI cZ (upd I 46 (nI wn)) (va_up F 47 g47)) H → va_D A (mW h0 q cB cI cZ (upd I 46 (nI wn)) (va_up F 47 g47)) → va_S A s.heap H locs → lv_has ls 5 [(0, .ref h0)] → W p l e R s m args below meth c H locs cells slots Q (F0 m 131 ls [])) →
    W p l e R s m args below meth c H locs cells slots Q (F0 m 11 ls []) := by
  obtain ⟨hx, hb, hml, hown, hts⟩ := id hf
  have hre1 := hre.1
  intro k
  induction k with
  | zero =>
    intro i wn g47 H locs ls hik hwi hwho hz1 hiz hwq hwc hP hD hS hl kk
    refine lv_iload_n hx hb dX10_findWho_11 rfl (lv_at hl 0 rfl) ?_
    refine lv_aload_n hx hb dX10_findWho_12 rfl (lv_at hl 2 rfl) ?_
    refine lv_iload_n hx hb dX10_findWho_13 rfl (lv_at hl 1 rfl) ?_
    refine lv_iconst (v := 1) hx hb dX10_findWho_14 (by decide) ?_
    refine lv_iadd hx hb dX10_findWho_15 ?_
    refine q_seti (y := nI (s1 + 1)) (nI_add s1 1) ?_
    refine q_ci (k := cells) (n := slots) hK hP hD hS hA (fun hPc hKc hDc => q_rV (As := [.int (nI (s1 + 1))]) (rest := [.int (nI i)]) hf (r_sceneF2 _ D h0 q cB cI cZ (upd I 46 (nI wn)) (va_up F 47 g47) Es sl mr Rw (s1 + 1) (by omega) hre hI44 hm hrow _) k_1504 k_1501 k_1503 k_79 k_98 (nA := 1) (by decide +kernel) ⟨Nat.le_trans (by decide) hRf, Nat.le_trans (by decide) hRl⟩ hK hP (ci := 11) (q0 := 0) rfl rfl rfl hPc hKc hDc (fun _ _ _ _ h => h) (fun _ _ _ => trivial) rfl hl.1 rfl (Nat.le_of_ble_eq_true rfl) dX10_findWho_16 ⟨hRc, hRs⟩) (Nat.le_refl _) (Nat.le_refl _) (fun r u H locs hw hK hP hD hS => ?_)
    obtain ⟨z_1, rfl, hz_1s, rfl⟩ := hw
    have hP : va_P D vcl (mW h0 q cB cI cZ (upd I 46 (nI wn)) (va_up F 47 g47)) H := hP
    have hD : va_D A (mW h0 q cB cI cZ (upd I 46 (nI wn)) (va_up F 47 g47)) := hD
    have hz_1a := (sfR_le hz_1s).1
    refine lv_icmp_ge (tgt := 131) hx hb dX10_findWho_19 (by decide) (fun c_2 => ?_) (fun c_2 => ?_)
    · have c_2 := q_le (a := z_1) (b := i) (by omega) (by omega) c_2
      obtain rfl : i = z_1 := by have := hiz _ hz_1s; omega
      exact kk wn g47 i H locs ls (by omega) hwho hz_1s hwq hwc hP hD hS (lv_sub hl (l' := [(0, .ref h0)]) [2] rfl)
    · have c_2 := q_nle (a := z_1) (b := i) (by omega) (by omega) c_2
      exact absurd hik (by omega)
  | succ k ih =>
    intro i wn g47 H locs ls hik hwi hwho hz1 hiz hwq hwc hP hD hS hl kk
    refine lv_iload_n hx hb dX10_findWho_11 rfl (lv_at hl 0 rfl) ?_
    refine lv_aload_n hx hb dX10_findWho_12 rfl (lv_at hl 2 rfl) ?_
    refine lv_iload_n hx hb dX10_findWho_13 rfl (lv_at hl 1 rfl) ?_
    refine lv_iconst (v := 1) hx hb dX10_findWho_14 (by decide) ?_
    refine lv_iadd hx hb dX10_findWho_15 ?_
    refine q_seti (y := nI (s1 + 1)) (nI_add s1 1) ?_
    refine q_ci (k := cells) (n := slots) hK hP hD hS hA (fun hPc hKc hDc => q_rV (As := [.int (nI (s1 + 1))]) (rest := [.int (nI i)]) hf (r_sceneF2 _ D h0 q cB cI cZ (upd I 46 (nI wn)) (va_up F 47 g47) Es sl mr Rw (s1 + 1) (by omega) hre hI44 hm hrow _) k_1504 k_1501 k_1503 k_79 k_98 (nA := 1) (by decide +kernel) ⟨Nat.le_trans (by decide) hRf, Nat.le_trans (by decide) hRl⟩ hK hP (ci := 11) (q0 := 0) rfl rfl rfl hPc hKc hDc (fun _ _ _ _ h => h) (fun _ _ _ => trivial) rfl hl.1 rfl (Nat.le_of_ble_eq_true rfl) dX10_findWho_16 ⟨hRc, hRs⟩) (Nat.le_refl _) (Nat.le_refl _) (fun r u H locs hw hK hP hD hS => ?_)
    obtain ⟨z_1, rfl, hz_1s, rfl⟩ := hw
    have hP : va_P D vcl (mW h0 q cB cI cZ (upd I 46 (nI wn)) (va_up F 47 g47)) H := hP
    have hD : va_D A (mW h0 q cB cI cZ (upd I 46 (nI wn)) (va_up F 47 g47)) := hD
    have hz_1a := (sfR_le hz_1s).1
    refine lv_icmp_ge (tgt := 131) hx hb dX10_findWho_19 (by decide) (fun c_2 => ?_) (fun c_2 => ?_)
    · have c_2 := q_le (a := z_1) (b := i) (by omega) (by omega) c_2
      obtain rfl : i = z_1 := by have := hiz _ hz_1s; omega
      exact kk wn g47 i H locs ls (by omega) hwho hz_1s hwq hwc hP hD hS (lv_sub hl (l' := [(0, .ref h0)]) [2] rfl)
    · have c_2 := q_nle (a := z_1) (b := i) (by omega) (by omega) c_2
      have hrj1 := (hrow i (by omega)).2
      have hsj1 := (hre.2.1 _ hrj1).2.1
      have hwj1 := elF_rw (hre.2.1 _ hrj1).2.2
      refine lv_aload_n hx hb dX10_findWho_22 rfl (lv_at hl 2 rfl) ?_
      refine va_get (D := D) (ci := 11) (v := .ref (q 6)) (C := RX10) (T := TX10) (N := 48) hx hb hts inX10 hown hK hP 0 rfl rfl 6 (by decide) (hts _ k_1150) (fun _ h9 => h9) rfl dX10_findWho_23 ?_
      refine lv_aload_n hx hb dX10_findWho_26 rfl (lv_at hl 2 rfl) ?_
      refine va_get (D := D) (ci := 11) (v := .ref (q 4)) (C := RX10) (T := TX10) (N := 48) hx hb hts inX10 hown hK hP 0 rfl rfl 4 (by decide) (hts _ k_1148) (fun _ h9 => h9) rfl dX10_findWho_27 ?_
      refine lv_aload_n hx hb dX10_findWho_30 rfl (lv_at hl 2 rfl) ?_
      refine va_get (D := D) (ci := 11) (v := .ref (q 45)) (C := RX10) (T := TX10) (N := 48) hx hb hts inX10 hown hK hP 0 rfl rfl 45 (by decide) (hts _ k_1189) (fun _ h9 => h9) rfl dX10_findWho_31 ?_
      refine lv_iload_n hx hb dX10_findWho_34 rfl (lv_at hl 0 rfl) ?_
      refine q_ild (X := i) (f := (F 45)) hx hb hK hP 33 1 rfl rfl (by omega) (by decide) dX10_findWho_35 ?_
      refine q_seti (y := (nI ((Rw i)))) (hrow i (by omega)).1 ?_
      refine q_ild (X := (Rw i)) (f := (F 4)) hx hb hK hP 2 1 rfl rfl (by omega) (by decide) dX10_findWho_36 ?_
      refine q_seti (y := (nI ((sl ((Rw i)))))) (hre.2.1 ((Rw i)) (by omega)).1 ?_
      refine q_ild (X := (sl ((Rw i)))) (f := (F 6)) hx hb hK hP 4 1 rfl rfl (by omega) (by decide) dX10_findWho_37 ?_
      refine q_seti (y := (Es.getD ((Rw i)) dE).1) (hre.2.1 ((Rw i)) (by omega)).2.2.2.1 ?_
      refine lv_iconst (v := 2) hx hb dX10_findWho_38 (by decide) ?_
      refine lv_icmp_ne (tgt := 46) hx hb dX10_findWho_39 (by decide) (fun c_3 => ?_) (fun c_3 => ?_)
      · refine lv_iconst (v := 0) hx hb dX10_findWho_46 (by decide) ?_
        refine lv_istore_n (lv' := [(3, .int 0), (2, .int (nI i)), (1, .int (nI s1)), (0, .ref h0)]) hx hb dX10_findWho_47 rfl hl (by decide) rfl (fun ls hl => ?_)
        refine lv_iconst (v := 0) hx hb dX10_findWho_48 (by decide) ?_
        refine lv_istore (lv' := [(4, .int 0), (3, .int 0), (2, .int (nI i)), (1, .int (nI s1)), (0, .ref h0)]) hx hb dX10_findWho_49 hl (by decide) rfl (fun ls hl => ?_)
        refine lwi2_ (I := (upd I 46 (nI wn))) (F := (va_up F 47 g47)) (Es := Es) (sl := sl) (mr := mr) (Rw := Rw) (wn := wn) (i := i) (s1 := s1) hre hI44 hm hrow rfl (by omega) hwho (by omega) (Nat.le_trans (by decide) hRf) (Nat.le_trans (by decide) hRl) hRc hRs hA hf hK wn 0 _ _ _ ls (by omega) (whB_n c_3) hP hD hS (lv_sub hl (l' := [(4, .int 0), (3, .int 0), (2, .int (nI i)), (1, .int (nI s1)), (0, .ref h0)]) [0, 1, 2, 3, 4] rfl) (fun b H locs ls hbb hP hD hS hl => ?_)
        have hbb : whB Es Rw wn g47 i wn b := hbb
        refine lv_iload_n hx hb dX10_findWho_96 rfl (lv_at hl 0 rfl) ?_
        refine lv_if_eq (tgt := 125) hx hb dX10_findWho_97 (by decide) (fun c_4 => ?_) (fun c_4 => ?_)
        · refine lv_iinc (v := (nI (i + 1))) (lv' := [(2, .int (nI (i + 1))), (3, .int b), (1, .int (nI s1)), (0, .ref h0)]) hx hb dX10_findWho_125 hl (k := 1) rfl (nI_add i 1) (by decide) rfl (fun ls hl => ?_)
          refine lv_goto (tgt := 11) hx hb dX10_findWho_128 (by decide) ?_
          rw [c_4] at hbb
          have hq9 := whQ_n hz1 hwq hbb
          have hc9 := pcnt_0 hq9.2
          exact ih (i + 1) wn g47 H locs ls (by omega) (by omega) hwho (by omega) (fun z9 h9 => by have := sfR_un hz_1s h9; omega) hq9.1 (by omega) hP hD hS (lv_sub hl (l' := [(2, .int (nI (i + 1))), (1, .int (nI s1)), (0, .ref h0)]) [0, 2, 3] rfl) kk
        · refine lv_aload_n hx hb dX10_findWho_100 rfl (lv_at hl 3 rfl) ?_
          refine va_get (D := D) (ci := 11) (v := .ref (q 47)) (C := RX10) (T := TX10) (N := 48) hx hb hts inX10 hown hK hP 0 rfl rfl 47 (by decide) (hts _ k_1191) (fun _ h9 => h9) rfl dX10_findWho_101 ?_
          refine lv_aload_n hx hb dX10_findWho_104 rfl (lv_at hl 3 rfl) ?_
          refine va_get (D := D) (ci := 11) (v := .int (nI wn)) (C := RX10) (T := TX10) (N := 48) hx hb hts inX10 hown hK hP 0 rfl rfl 46 (by decide) (hts _ k_1190) (fun _ h9 => h9) rfl dX10_findWho_105 ?_
          refine lv_aload_n hx hb dX10_findWho_108 rfl (lv_at hl 3 rfl) ?_
          refine va_get (D := D) (ci := 11) (v := .ref (q 45)) (C := RX10) (T := TX10) (N := 48) hx hb hts inX10 hown hK hP 0 rfl rfl 45 (by decide) (hts _ k_1189) (fun _ h9 => h9) rfl dX10_findWho_109 ?_
          refine lv_iload_n hx hb dX10_findWho_112 rfl (lv_at hl 1 rfl) ?_
          refine q_ild (X := i) (f := (F 45)) hx hb hK hP 33 1 rfl rfl (by omega) (by decide) dX10_findWho_113 ?_
          refine q_seti (y := (nI ((Rw i)))) (hrow i (by omega)).1 ?_
          refine q_ist (X := wn) (f := g47) (x := (nI ((Rw i)))) hx hb hK hP hD hS 34 1 rfl rfl (by omega) (by decide) dX10_findWho_114 (fun H locs hP hD hS => ?_)
          have hP : va_P D vcl (mW h0 q cB cI cZ (upd I 46 (nI wn)) (va_up F 47 (upd g47 wn (nI ((Rw i)))))) H := hP
          have hD : va_D A (mW h0 q cB cI cZ (upd I 46 (nI wn)) (va_up F 47 (upd g47 wn (nI ((Rw i)))))) := hD
          refine lv_aload_n hx hb dX10_findWho_115 rfl (lv_at hl 3 rfl) ?_
          refine lv_dup hx hb dX10_findWho_116 rfl ?_
          refine va_get (D := D) (ci := 11) (v := .int (nI wn)) (C := RX10) (T := TX10) (N := 48) hx hb hts inX10 hown hK hP 0 rfl rfl 46 (by decide) (hts _ k_1190) (fun _ h9 => h9) rfl dX10_findWho_117 ?_
          refine lv_iconst (v := 1) hx hb dX10_findWho_120 (by decide) ?_
          refine lv_iadd hx hb dX10_findWho_121 ?_
          refine q_seti (y := nI (wn + 1)) (nI_add wn 1) ?_
          refine va_put (D := D) (ci := 11) (v := .int (nI (wn + 1))) (ty := .int) (C := RX10) (T := TX10) (N := 48) hx hb hts inX10 tyX10 tyX10_ok nmX10 hown hK hP hD hS 0 rfl rfl 46 (by decide) (hts _ k_1190) (fun _ h9 => h9) rfl (by decide +kernel) rfl rfl (Nat.le_of_ble_eq_true rfl) dX10_findWho_122 (fun H locs hP hD hS => ?_)
          have hP : va_P D vcl (mW h0 q cB cI cZ (upd I 46 (nI (wn + 1))) (va_up F 47 (upd g47 wn (nI ((Rw i)))))) H := hP
          have hD : va_D A (mW h0 q cB cI cZ (upd I 46 (nI (wn + 1))) (va_up F 47 (upd g47 wn (nI ((Rw i)))))) := hD
          refine lv_iinc (v := (nI (i + 1))) (lv' := [(2, .int (nI (i + 1))), (3, .int b), (1, .int (nI s1)), (0, .ref h0)]) hx hb dX10_findWho_125 hl (k := 1) rfl (nI_add i 1) (by decide) rfl (fun ls hl => ?_)
          refine lv_goto (tgt := 11) hx hb dX10_findWho_128 (by decide) ?_
          have hq9 := whQ_y hre1 hrj1 hz1 hwq hbb c_4
          have hc9 := pcnt_1 hq9.2
          exact ih (i + 1) (wn + 1) _ H locs ls (by omega) (by omega) (whI_s hwho (hrow i (by omega)).2) (by omega) (fun z9 h9 => by have := sfR_un hz_1s h9; omega) hq9.1 (by omega) hP hD hS (lv_sub hl (l' := [(2, .int (nI (i + 1))), (1, .int (nI s1)), (0, .ref h0)]) [0, 2, 3] rfl) kk
      · refine lv_iconst (v := 1) hx hb dX10_findWho_42 (by decide) ?_
        refine lv_goto (tgt := 47) hx hb dX10_findWho_43 (by decide) ?_
        refine lv_istore_n (lv' := [(3, .int 1), (2, .int (nI i)), (1, .int (nI s1)), (0, .ref h0)]) hx hb dX10_findWho_47 rfl hl (by decide) rfl (fun ls hl => ?_)
        refine lv_iconst (v := 0) hx hb dX10_findWho_48 (by decide) ?_
        refine lv_istore (lv' := [(4, .int 0), (3, .int 1), (2, .int (nI i)), (1, .int (nI s1)), (0, .ref h0)]) hx hb dX10_findWho_49 hl (by decide) rfl (fun ls hl => ?_)
        refine lwi2_ (I := (upd I 46 (nI wn))) (F := (va_up F 47 g47)) (Es := Es) (sl := sl) (mr := mr) (Rw := Rw) (wn := wn) (i := i) (s1 := s1) hre hI44 hm hrow rfl (by omega) hwho (by omega) (Nat.le_trans (by decide) hRf) (Nat.le_trans (by decide) hRl) hRc hRs hA hf hK wn 0 _ _ _ ls (by omega) (whB_0 c_3) hP hD hS (lv_sub hl (l' := [(4, .int 0), (3, .int 1), (2, .int (nI i)), (1, .int (nI s1)), (0, .ref h0)]) [0, 1, 2, 3, 4] rfl) (fun b H locs ls hbb hP hD hS hl => ?_)
        have hbb : whB Es Rw wn g47 i wn b := hbb
        refine lv_iload_n hx hb dX10_findWho_96 rfl (lv_at hl 0 rfl) ?_
        refine lv_if_eq (tgt := 125) hx hb dX10_findWho_97 (by decide) (fun c_5 => ?_) (fun c_5 => ?_)
        · refine lv_iinc (v := (nI (i + 1))) (lv' := [(2, .int (nI (i + 1))), (3, .int b), (1, .int (nI s1)), (0, .ref h0)]) hx hb dX10_findWho_125 hl (k := 1) rfl (nI_add i 1) (by decide) rfl (fun ls hl => ?_)
          refine lv_goto (tgt := 11) hx hb dX10_findWho_128 (by decide) ?_
          rw [c_5] at hbb
          have hq9 := whQ_n hz1 hwq hbb
          have hc9 := pcnt_0 hq9.2
          exact ih (i + 1) wn g47 H locs ls (by omega) (by omega) hwho (by omega) (fun z9 h9 => by have := sfR_un hz_1s h9; omega) hq9.1 (by omega) hP hD hS (lv_sub hl (l' := [(2, .int (nI (i + 1))), (1, .int (nI s1)), (0, .ref h0)]) [0, 2, 3] rfl) kk
        · refine lv_aload_n hx hb dX10_findWho_100 rfl (lv_at hl 3 rfl) ?_
          refine va_get (D := D) (ci := 11) (v := .ref (q 47)) (C := RX10) (T := TX10) (N := 48) hx hb hts inX10 hown hK hP 0 rfl rfl 47 (by decide) (hts _ k_1191) (fun _ h9 => h9) rfl dX10_findWho_101 ?_
          refine lv_aload_n hx hb dX10_findWho_104 rfl (lv_at hl 3 rfl) ?_
          refine va_get (D := D) (ci := 11) (v := .int (nI wn)) (C := RX10) (T := TX10) (N := 48) hx hb hts inX10 hown hK hP 0 rfl rfl 46 (by decide) (hts _ k_1190) (fun _ h9 => h9) rfl dX10_findWho_105 ?_
          refine lv_aload_n hx hb dX10_findWho_108 rfl (lv_at hl 3 rfl) ?_
          refine va_get (D := D) (ci := 11) (v := .ref (q 45)) (C := RX10) (T := TX10) (N := 48) hx hb hts inX10 hown hK hP 0 rfl rfl 45 (by decide) (hts _ k_1189) (fun _ h9 => h9) rfl dX10_findWho_109 ?_
          refine lv_iload_n hx hb dX10_findWho_112 rfl (lv_at hl 1 rfl) ?_
          refine q_ild (X := i) (f := (F 45)) hx hb hK hP 33 1 rfl rfl (by omega) (by decide) dX10_findWho_113 ?_
          refine q_seti (y := (nI ((Rw i)))) (hrow i (by omega)).1 ?_
          refine q_ist (X := wn) (f := g47) (x := (nI ((Rw i)))) hx hb hK hP hD hS 34 1 rfl rfl (by omega) (by decide) dX10_findWho_114 (fun H locs hP hD hS => ?_)
          have hP : va_P D vcl (mW h0 q cB cI cZ (upd I 46 (nI wn)) (va_up F 47 (upd g47 wn (nI ((Rw i)))))) H := hP
          have hD : va_D A (mW h0 q cB cI cZ (upd I 46 (nI wn)) (va_up F 47 (upd g47 wn (nI ((Rw i)))))) := hD
          refine lv_aload_n hx hb dX10_findWho_115 rfl (lv_at hl 3 rfl) ?_
          refine lv_dup hx hb dX10_findWho_116 rfl ?_
          refine va_get (D := D) (ci := 11) (v := .int (nI wn)) (C := RX10) (T := TX10) (N := 48) hx hb hts inX10 hown hK hP 0 rfl rfl 46 (by decide) (hts _ k_1190) (fun _ h9 => h9) rfl dX10_findWho_117 ?_
          refine lv_iconst (v := 1) hx hb dX10_findWho_120 (by decide) ?_
          refine lv_iadd hx hb dX10_findWho_121 ?_
          refine q_seti (y := nI (wn + 1)) (nI_add wn 1) ?_
          refine va_put (D := D) (ci := 11) (v := .int (nI (wn + 1))) (ty := .int) (C := RX10) (T := TX10) (N := 48) hx hb hts inX10 tyX10 tyX10_ok nmX10 hown hK hP hD hS 0 rfl rfl 46 (by decide) (hts _ k_1190) (fun _ h9 => h9) rfl (by decide +kernel) rfl rfl (Nat.le_of_ble_eq_true rfl) dX10_findWho_122 (fun H locs hP hD hS => ?_)
          have hP : va_P D vcl (mW h0 q cB cI cZ (upd I 46 (nI (wn + 1))) (va_up F 47 (upd g47 wn (nI ((Rw i)))))) H := hP
          have hD : va_D A (mW h0 q cB cI cZ (upd I 46 (nI (wn + 1))) (va_up F 47 (upd g47 wn (nI ((Rw i)))))) := hD
          refine lv_iinc (v := (nI (i + 1))) (lv' := [(2, .int (nI (i + 1))), (3, .int b), (1, .int (nI s1)), (0, .ref h0)]) hx hb dX10_findWho_125 hl (k := 1) rfl (nI_add i 1) (by decide) rfl (fun ls hl => ?_)
          refine lv_goto (tgt := 11) hx hb dX10_findWho_128 (by decide) ?_
          have hq9 := whQ_y hre1 hrj1 hz1 hwq hbb c_5
          have hc9 := pcnt_1 hq9.2
          exact ih (i + 1) (wn + 1) _ H locs ls (by omega) (by omega) (whI_s hwho (hrow i (by omega)).2) (by omega) (fun z9 h9 => by have := sfR_un hz_1s h9; omega) hq9.1 (by omega) hP hD hS (lv_sub hl (l' := [(2, .int (nI (i + 1))), (1, .int (nI s1)), (0, .ref h0)]) [0, 2, 3] rfl) kk
set_option maxHeartbeats 1000000 in
set_option maxRecDepth 100000 in
theorem r_findWho2 (l : Launch) (D : va_G) (h0 : Nat) (q : Nat → Nat) (cB cI_ cZ : ClassId) (I : Nat → Int32) (F : Nat → Nat → Int32) (Es : List E5) (sl : Nat → Nat) (mr : Nat) (Rw : Nat → Nat) (s1 : Nat) (hs1 : s1 ≤ 99) (hre : reR F Es sl) (hI44 : I 44 = nI mr) (hm : mr ≤ 60) (hrow : ∀ j, j < mr → F 45 j = nI (Rw j) ∧ Rw j < Es.length) : cV l D yX10_findWho cX10_findWho 5 none 2 60 0 0 [.ref h0, .int (nI s1)] zT (mW h0 q cB cI_ cZ I F) (mT cB cI_ cZ) (fun u => ∃ (wn : Nat) (g47 : Nat → Int32) (z1 z2 : Nat), wn ≤ 60 ∧ whI Es.length wn g47 ∧ sfR Es Rw mr s1 z1 ∧ sfR Es Rw mr (s1 + 1) z2 ∧ whQ Es Rw wn g47 z1 z2 ∧ wn + pcnt (nwR Es Rw z1) z1 = pcnt (nwR Es Rw z1) z2 ∧ u = (mW h0 q cB cI_ cZ (upd I 46 (nI wn)) (va_up F 47 g47), mT cB cI_ cZ)) := by
  refine q_sv (by decide) (Nat.le_of_ble_eq_true rfl) ?_
  intro p e s m below meth c A ls hAe hf hr hlocks hin hK hP hD hS hA hZ hl
  obtain ⟨hx, hb, hml, hown, hts⟩ := id hf
  have hl : lv_has ls 5 [(0, .ref h0), (1, .int (nI s1))] := hl
  refine lv_aload_n hx hb dX10_findWho_0 rfl (lv_at hl 0 rfl) ?_
  refine lv_iconst (v := 0) hx hb dX10_findWho_1 (by decide) ?_
  refine va_put (D := D) (ci := 11) (v := .int 0) (ty := .int) (C := RX10) (T := TX10) (N := 48) hx hb hts inX10 tyX10 tyX10_ok nmX10 hown hK hP hD hS 0 rfl rfl 46 (by decide) (hts _ k_1190) (fun _ h9 => h9) rfl (by decide +kernel) rfl rfl (Nat.le_of_ble_eq_true rfl) dX10_findWho_2 (fun H locs hP hD hS => ?_)
  have hP : va_P D vcl (mW h0 q cB cI_ cZ (upd I 46 0) F) H := hP
  have hD : va_D A (mW h0 q cB cI_ cZ (upd I 46 0) F) := hD
  refine lv_aload_n hx hb dX10_findWho_5 rfl (lv_at hl 0 rfl) ?_
  refine lv_iload_n hx hb dX10_findWho_6 rfl (lv_at hl 1 rfl) ?_
  refine q_ci (k := 0) (n := 0) hK hP hD hS hA (fun hPc hKc hDc => q_rV (As := [.int (nI s1)]) (rest := []) hf (r_sceneF2 _ D h0 q cB cI_ cZ (upd I 46 0) F Es sl mr Rw s1 (by omega) hre hI44 hm hrow _) k_1504 k_1501 k_1503 k_79 k_98 (nA := 1) (by decide +kernel) ⟨Nat.le_of_ble_eq_true rfl, Nat.le_of_ble_eq_true rfl⟩ hK hP (ci := 11) (q0 := 0) rfl rfl rfl hPc hKc hDc (fun _ _ _ _ h => h) (fun _ _ _ => trivial) rfl hl.1 rfl (Nat.le_of_ble_eq_true rfl) dX10_findWho_7 ⟨Nat.le_of_ble_eq_true rfl, Nat.le_of_ble_eq_true rfl⟩) (by decide) (by decide) (fun r u H locs hw hK hP hD hS => ?_)
  obtain ⟨z_1, rfl, hz_1s, rfl⟩ := hw
  have hP : va_P D vcl (mW h0 q cB cI_ cZ (upd I 46 0) F) H := hP
  have hD : va_D A (mW h0 q cB cI_ cZ (upd I 46 0) F) := hD
  have hz_1a := (sfR_le hz_1s).1
  refine lv_istore_n (lv' := [(2, .int (nI z_1)), (0, .ref h0), (1, .int (nI s1))]) hx hb dX10_findWho_10 rfl hl (by decide) rfl (fun ls hl => ?_)
  have hz9 : F = va_up F 47 (F 47) := (va_up_id9 F 47).symm
  obtain ⟨hP, hD⟩ := q_set4 hz9 hP hD
  refine lwo2_ (I := I) (F := F) (Es := Es) (sl := sl) (mr := mr) (Rw := Rw) (s1 := s1) (z1 := z_1) hs1 hre hI44 hm hrow (Nat.le_of_ble_eq_true rfl) (Nat.le_of_ble_eq_true rfl) (Nat.le_of_ble_eq_true rfl) (Nat.le_of_ble_eq_true rfl) hA hf hK (mr - z_1) z_1 0 (F 47) _ _ ls (by omega) (Nat.zero_le _) (fun j hj => absurd hj (Nat.not_lt_zero j)) (Nat.le_refl _) (fun z9 h9 => sfR_lt hz_1s h9 (Nat.le_succ _)) whQ_0 (Nat.zero_add _) hP hD hS (lv_sub hl (l' := [(2, .int (nI z_1)), (1, .int (nI s1)), (0, .ref h0)]) [0, 2, 1] rfl) (fun wn g47 z2 H locs ls a1 a2 a3 a4 a5 hP hD hS hl => ?_)
  have hP : va_P D vcl (mW h0 q cB cI_ cZ (upd I 46 (nI wn)) (va_up F 47 g47)) H := hP
  have hD : va_D A (mW h0 q cB cI_ cZ (upd I 46 (nI wn)) (va_up F 47 g47)) := hD
  exact q_zv hf hr hlocks hK hP hD hS (Nat.le_of_ble_eq_true rfl) (Nat.le_of_ble_eq_true rfl) ⟨wn, g47, z_1, z2, a1, a2, hz_1s, a3, a4, a5, rfl⟩ dX10_findWho_131
