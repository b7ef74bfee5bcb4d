theorem eI_mo {l : Launch} {D : va_G} {y : MethodName} {b : ByteArray} {n : Nat} {r : Option FieldType} {fr lo mc ms : Nat} {As : List Value} {z : Nat → Nat} {cB cI_ cO : ClassId} {L : List Nat} {g : hG} {P Q : Int32 → List Nat → hG → Prop} (h : eI l D y b n r fr lo mc ms As z cB cI_ cO L g P) (hp : ∀ r L g, P r L g → Q r L g) : eI l D y b n r fr lo mc ms As z cB cI_ cO L g Q :=
  cI_mono h (fun r u h => by obtain ⟨L1, g1, h1, h2⟩ := h; exact ⟨L1, g1, hp r L1 g1 h1, h2⟩)
theorem eV_mo {l : Launch} {D : va_G} {y : MethodName} {b : ByteArray} {n : Nat} {r : Option FieldType} {fr lo mc ms : Nat} {As : List Value} {z : Nat → Nat} {cB cI_ cO : ClassId} {L : List Nat} {g : hG} {P Q : List Nat → hG → Prop} (h : eV l D y b n r fr lo mc ms As z cB cI_ cO L g P) (hp : ∀ L g, P L g → Q L g) : eV l D y b n r fr lo mc ms As z cB cI_ cO L g Q :=
  cV_mono h (fun u h => by obtain ⟨L1, g1, h1, h2⟩ := h; exact ⟨L1, g1, hp L1 g1 h1, h2⟩)
theorem eR_mo {l : Launch} {D : va_G} {y : MethodName} {b : ByteArray} {n : Nat} {r : Option FieldType} {fr lo mc ms : Nat} {As : List Value} {z : Nat → Nat} {cB cI_ cO : ClassId} {L : List Nat} {g : hG} {P Q : Nat → List Nat → hG → Prop} (h : eR l D y b n r fr lo mc ms As z cB cI_ cO L g P) (hp : ∀ r L g, P r L g → Q r L g) : eR l D y b n r fr lo mc ms As z cB cI_ cO L g Q := by
  intro sz p e a1 a2 a3 s m args below b1 b2 b3 b4
  obtain ⟨k, o, c1, c2, c3, ⟨⟨⟨r, u, d1, ⟨a, d7, L1, g1, d2, d6⟩, d3⟩, d4⟩, d5⟩⟩ := h sz p e a1 a2 a3 s m args below b1 b2 b3 b4
  exact ⟨k, o, c1, c2, c3, ⟨⟨r, u, d1, ⟨a, d7, L1, g1, hp a L1 g1 d2, d6⟩, d3⟩, d4⟩, d5⟩
/-- a row of references holds a list -/
def lsR (f : Nat → Option Nat) (xs : List Nat) : Prop := ∀ i, i < xs.length → f i = some (xs.getD i 0)
/-- a list of the desk: its capacity, what it holds -/
def alR (cO : ClassId) (z0 tA tD : Nat) (L : List Nat) (g : hG) (al cap : Nat) (xs : List Nat) : Prop :=
  ∃ (mc : Int32) (d : Nat) (f : Nat → Option Nat), ho L g al tA (.inr (0, [.int mc, .ref d, .int (nI xs.length)])) ∧ (xs.length ≤ cap ∧ cap ≤ 60000) ∧ lsR f xs ∧ ((cap = 0 ∧ d = z0) ∨ (10 ≤ cap ∧ ho L g d tD (.inl (cO, cap, .inr (.inr (.inr (.inr f)))))))
theorem alR.fr {cO : ClassId} {z0 tA tD : Nat} {ts L L1 : List Nat} {g g1 : hG} {al cap : Nat} {xs : List Nat} (h : alR cO z0 tA tD L g al cap xs) (hf : fr ts L g L1 g1) (hA : tA ∉ ts) (hD : tD ∉ ts) : alR cO z0 tA tD L1 g1 al cap xs := by
  obtain ⟨mc, d, f, h1, h2, h3, h4⟩ := h
  refine ⟨mc, d, f, h1.fr hf hA, h2, h3, ?_⟩
  rcases h4 with h4 | ⟨h4, h5⟩
  · exact Or.inl h4
  · exact Or.inr ⟨h4, h5.fr hf hD⟩
theorem alR.nw {cO : ClassId} {z0 tA tD q : Nat} {L L1 : List Nat} {g g1 : hG} {al cap : Nat} {xs : List Nat} (h : alR cO z0 tA tD L g al cap xs) (hn : nw1 L g q L1 g1) : alR cO z0 tA tD L1 g1 al cap xs := by
  obtain ⟨mc, d, f, h1, h2, h3, h4⟩ := h
  refine ⟨mc, d, f, h1.nw hn, h2, h3, ?_⟩
  rcases h4 with h4 | ⟨h4, h5⟩
  · exact Or.inl h4
  · exact Or.inr ⟨h4, h5.nw hn⟩
theorem alR.b {cO : ClassId} {z0 tA tD : Nat} {L : List Nat} {g : hG} {al cap : Nat} {xs : List Nat} (h : alR cO z0 tA tD L g al cap xs) : xs.length ≤ cap ∧ cap ≤ 60000 ∧ (cap = 0 ∨ 10 ≤ cap) := by
  obtain ⟨mc, d, f, h1, h2, h3, h4⟩ := h
  refine ⟨h2.1, h2.2, ?_⟩
  rcases h4 with h4 | h4
  · exact Or.inl h4.1
  · exact Or.inr h4.1
/-- the list's own cell -/
theorem alR.al {cO : ClassId} {z0 tA tD : Nat} {L : List Nat} {g : hG} {al cap : Nat} {xs : List Nat} (h : alR cO z0 tA tD L g al cap xs) : ∃ (mc : Int32) (d : Nat), ho L g al tA (.inr (0, [.int mc, .ref d, .int (nI xs.length)])) := by
  obtain ⟨mc, d, f, h1, _⟩ := h
  exact ⟨mc, d, h1⟩
theorem ls_mem {xs : List Nat} {i : Nat} (h : i < xs.length) : xs.getD i 0 ∈ xs := by
  rw [List.getD_eq_getElem?_getD, List.getElem?_eq_getElem h]
  exact List.getElem_mem h
theorem lsR_obj {L : List Nat} {g : hG} {f : Nat → Option Nat} {xs : List Nat} {tx cx : Nat} (h : lsR f xs) (ho_ : ∀ y, y ∈ xs → ∃ fs, ho L g y tx (.inr (cx, fs))) : ∀ i, i < xs.length → ∀ y, f i = some y → ∃ fs, ho L g y tx (.inr (cx, fs)) := by
  intro i hi y hy
  rw [h i hi] at hy
  cases hy
  exact ho_ _ (ls_mem hi)
theorem lsR_add {f : Nat → Option Nat} {xs : List Nat} {x : Nat} {n : Nat} (hn : n = xs.length) (h : lsR f xs) : lsR (va_up f n (some x)) (xs ++ [x]) := by
  intro i hi
  rw [List.length_append] at hi
  have hi : i < xs.length + 1 := hi
  by_cases e : i = n
  · rw [e, va_up_self, hn]; simp
  · rw [va_up_ne _ _ e, h i (by omega)]
    simp only [List.getD_eq_getElem?_getD]
    rw [List.getElem?_append_left (by omega)]
theorem lsR_cpy {f : Nat → Option Nat} {xs : List Nat} {n : Nat} (hn : xs.length ≤ n) (h : lsR f xs) : lsR (va_cpy f (fun _ => none) 0 0 n) xs := by
  intro i hi
  rw [pk_cpy_in (by omega) (by omega)]
  have := h i hi
  rw [← this]
  exact congrArg f (by omega)
/-- x at place i, the rest behind it -/
def lsI (xs : List Nat) (i x : Nat) : List Nat := xs.take i ++ x :: xs.drop i
theorem lsI_len {xs : List Nat} {i x : Nat} (h : i ≤ xs.length) : (lsI xs i x).length = xs.length + 1 := by
  unfold lsI
  rw [List.length_append, List.length_cons, List.length_take, List.length_drop]
  omega
theorem lsI_at {xs : List Nat} {i x : Nat} (h : i ≤ xs.length) (j : Nat) : (lsI xs i x).getD j 0 = if j < i then xs.getD j 0 else if j = i then x else xs.getD (j - 1) 0 := by
  unfold lsI
  have hl : (xs.take i).length = i := by rw [List.length_take]; omega
  simp only [List.getD_eq_getElem?_getD]
  by_cases c : j < i
  · rw [if_pos c, List.getElem?_append_left (by omega), List.getElem?_take_of_lt c]
  · rw [if_neg c, List.getElem?_append_right (by omega), hl]
    by_cases c2 : j = i
    · rw [if_pos c2, show j - i = 0 by omega]; rfl
    · rw [if_neg c2, show j - i = (j - 1 - i) + 1 by omega, List.getElem?_cons_succ, List.getElem?_drop, show i + (j - 1 - i) = j - 1 by omega]
theorem lsR_ins {f f1 : Nat → Option Nat} {xs : List Nat} {i x : Nat} (hi : i ≤ xs.length) (h : lsR f xs) (h1 : f1 i = some x) (h2 : ∀ j, j < i → f1 j = f j) (h3 : ∀ j, i ≤ j → j < xs.length → f1 (j + 1) = f j) : lsR f1 (lsI xs i x) := by
  intro j hj
  rw [lsI_len hi] at hj
  rw [lsI_at hi]
  by_cases c : j < i
  · rw [if_pos c, h2 j c]; exact h j (by omega)
  · rw [if_neg c]
    by_cases c2 : j = i
    · rw [if_pos c2, c2]; exact h1
    · rw [if_neg c2]
      have := h3 (j - 1) (by omega) (by omega)
      rw [show j - 1 + 1 = j by omega] at this
      rw [this]
      exact h (j - 1) (by omega)
theorem ls_er {xs : List Nat} {i : Nat} (h : i < xs.length) (j : Nat) : (xs.eraseIdx i).length = xs.length - 1 ∧ (xs.eraseIdx i).getD j 0 = if j < i then xs.getD j 0 else xs.getD (j + 1) 0 := by
  refine ⟨by rw [List.length_eraseIdx, if_pos h], ?_⟩
  simp only [List.getD_eq_getElem?_getD]
  rw [List.getElem?_eraseIdx]
  by_cases c : j < i
  · rw [if_pos c, if_pos c]
  · rw [if_neg c, if_neg c]
theorem lsR_rm {f f1 : Nat → Option Nat} {xs : List Nat} {i : Nat} (hi : i < xs.length) (h : lsR f xs) (h2 : ∀ j, j < i → f1 j = f j) (h3 : ∀ j, i ≤ j → j + 1 < xs.length → f1 j = f (j + 1)) : lsR f1 (xs.eraseIdx i) := by
  intro j hj
  rw [(ls_er hi j).1] at hj
  rw [(ls_er hi j).2]
  by_cases c : j < i
  · rw [if_pos c, h2 j c]; exact h j (by omega)
  · rw [if_neg c, h3 j (by omega) (by omega)]; exact h (j + 1) (by omega)

theorem li_size (l : Launch) (D : va_G) (z : Nat → Nat) (cB cI_ cO : ClassId) (L0 : List Nat) (g0 : hG) (al tA tD cap : Nat) (xs : List Nat) (hal : alR cO (z 0) tA tD L0 g0 al cap xs) : eIs l D yJx4a65c_size_8abf5 cJx4a65c_size_8abf5 1 (some .int) 0 0 0 0 [.ref al] z cB cI_ cO L0 g0 (fun r => r = nI xs.length) := by
  obtain ⟨mc, d, f, h1, h2, h3, h4⟩ := hal
  exact a_size l D z cB cI_ cO L0 g0 al tA tD mc d xs.length h1
theorem li_isE (l : Launch) (D : va_G) (z : Nat → Nat) (cB cI_ cO : ClassId) (L0 : List Nat) (g0 : hG) (al tA tD cap : Nat) (xs : List Nat) (hal : alR cO (z 0) tA tD L0 g0 al cap xs) : eIs l D yJx4a65c_isEmpty_aae02 cJx4a65c_isEmpty_aae02 1 (some .boolean) 0 0 0 0 [.ref al] z cB cI_ cO L0 g0 (fun r => (xs.length = 0 ∧ r = 1 ∨ ¬ xs.length = 0 ∧ r = 0)) := by
  obtain ⟨mc, d, f, h1, h2, h3, h4⟩ := hal
  exact a_isE l D z cB cI_ cO L0 g0 al tA tD mc d xs.length h1 (by omega)
theorem li_get (l : Launch) (D : va_G) (z : Nat → Nat) (cB cI_ cO : ClassId) (L0 : List Nat) (g0 : hG) (al tA tD cap : Nat) (xs : List Nat) (i : Nat) (hal : alR cO (z 0) tA tD L0 g0 al cap xs) (hi : i < xs.length) : eRs l D yJx4a65c_get_915e3 cJx4a65c_get_915e3 2 (some (.object "java/lang/Object")) 2 43 0 0 [.ref al, .int (nI i)] z cB cI_ cO L0 g0 (fun r => r = xs.getD i 0) := by
  obtain ⟨mc, d, f, h1, h2, h3, h4⟩ := hal
  rcases h4 with ⟨h4, h5⟩ | ⟨h4, h5⟩
  · omega
  · exact a_get l D z cB cI_ cO L0 g0 al tA tD mc d cap xs.length i (xs.getD i 0) f h1 h5 hi h2.1 h2.2 (h3 i hi)
theorem li_add (l : Launch) (D : va_G) (z : Nat → Nat) (cB cI_ cO : ClassId) (L0 : List Nat) (g0 : hG) (al tA tD cap : Nat) (xs : List Nat) (tx x cx : Nat) (rx : vw_C) (fsx : List Value) (hal : alR cO (z 0) tA tD L0 g0 al cap xs) (h_x : ho L0 g0 x tx (.inr (cx, fsx))) (hAD : tA ≠ tD) (hxA : tx ≠ tA) (hxD : tx ≠ tD) (hcx : vcl[cx]? = some rx) (hca : ∀ s : State, zB z s → va_Nw (.castable rx.1 "java/lang/Object") s) (hob : ∀ y, y ∈ xs → ∃ fs, ho L0 g0 y tx (.inr (cx, fs))) (hcp : ncap xs.length cap ≤ 60000) : eI l D yJx4a65c_add_9ea2d cJx4a65c_add_9ea2d 2 (some .boolean) 6 130 (gcel xs.length cap) (gslo xs.length cap) [.ref al, .ref x] z cB cI_ cO L0 g0 (fun r L g => r = 1 ∧ fr [tA, tD] L0 g0 L g ∧ alR cO (z 0) tA tD L g al (ncap xs.length cap) (xs ++ [x])) := by
  obtain ⟨mc, d, f, h1, h2, h3, h4⟩ := hal
  have hl : (xs ++ [x]).length = xs.length + 1 := by rw [List.length_append]; rfl
  rcases h4 with ⟨h4, h5⟩ | ⟨h4, h5⟩
  · subst h5
    have hx0 : xs = [] := List.eq_nil_of_length_eq_zero (by omega)
    subst hx0
    subst h4
    exact eI_mo (a_addV l D z cB cI_ cO L0 g0 al tA tD mc tx x cx rx fsx h1 h_x hAD hxA hxD hcx hca) (fun r L g hw => by
      obtain ⟨h6, d1, h7, h8, h9⟩ := hw
      exact ⟨h6, h7, _, d1, _, h8, ⟨show 1 ≤ 10 by decide, by decide⟩, lsR_add (xs := []) rfl (fun i hi => absurd hi (Nat.not_lt_zero i)), Or.inr ⟨by decide, h9⟩⟩)
  · by_cases c : xs.length = cap
    · have e1 : ncap xs.length cap = cap + cap / 2 := by unfold ncap; rw [if_pos c, if_neg (by omega)]
      have e2 : gslo xs.length cap = cap + cap / 2 := by unfold gslo; rw [if_pos c, if_neg (by omega)]
      have e3 : gcel xs.length cap = 1 := if_pos c
      rw [e1] at hcp
      rw [e2, e3, e1]
      rw [c] at h1
      exact eI_mo (a_addF l D z cB cI_ cO L0 g0 al tA tD mc tx x cx rx fsx d cap f h1 h5 h_x hAD hxA hxD h4 h2.2 hcx hca (fun i hi => lsR_obj h3 hob i (by omega))) (fun r L g hw => by
        obtain ⟨h6, d1, h7, h8, h9⟩ := hw
        refine ⟨h6, h7, mc + 1, d1, _, ?_, ⟨by omega, hcp⟩, lsR_add (n := cap) c.symm (lsR_cpy (by omega) h3), Or.inr ⟨by omega, h9⟩⟩
        rw [hl, c]; exact h8)
    · have e1 : ncap xs.length cap = cap := if_neg c
      have e2 : gslo xs.length cap = 0 := if_neg c
      have e3 : gcel xs.length cap = 0 := if_neg c
      rw [e2, e3, e1]
      exact eI_mo (a_addN l D z cB cI_ cO L0 g0 al tA tD mc tx x cx rx fsx d cap xs.length f h1 h5 h_x hAD hxA hxD (by omega) h2.2 hcx hca) (fun r L g hw => by
        obtain ⟨h6, d1, h7, h8, h9⟩ := hw
        refine ⟨h6, h7, mc + 1, d1, _, ?_, ⟨by omega, h2.2⟩, lsR_add rfl h3, Or.inr ⟨h4, h9⟩⟩
        rw [hl]; exact h8)
theorem li_addAt (l : Launch) (D : va_G) (z : Nat → Nat) (cB cI_ cO : ClassId) (L0 : List Nat) (g0 : hG) (al tA tD cap : Nat) (xs : List Nat) (tx x cx : Nat) (rx : vw_C) (fsx : List Value) (i : Nat) (hal : alR cO (z 0) tA tD L0 g0 al cap xs) (h_x : ho L0 g0 x tx (.inr (cx, fsx))) (hAD : tA ≠ tD) (hxA : tx ≠ tA) (hxD : tx ≠ tD) (hcx : vcl[cx]? = some rx) (hca : ∀ s : State, zB z s → va_Nw (.castable rx.1 "java/lang/Object") s) (hob : ∀ y, y ∈ xs → ∃ fs, ho L0 g0 y tx (.inr (cx, fs))) (hcp : ncap xs.length cap ≤ 60000) (hi : i ≤ xs.length) : eV l D yJx4a65c_add_7a177 cJx4a65c_add_7a177 5 none 5 107 (gcel xs.length cap) (gslo xs.length cap) [.ref al, .int (nI i), .ref x] z cB cI_ cO L0 g0 (fun L g => fr [tA, tD] L0 g0 L g ∧ alR cO (z 0) tA tD L g al (ncap xs.length cap) (lsI xs i x)) := by
  obtain ⟨mc, d, f, h1, h2, h3, h4⟩ := hal
  have hl := lsI_len (x := x) hi
  rcases h4 with ⟨h4, h5⟩ | ⟨h4, h5⟩
  · subst h5
    have hx0 : xs = [] := List.eq_nil_of_length_eq_zero (by omega)
    subst hx0
    subst h4
    have hi0 : i = 0 := Nat.le_zero.mp hi
    subst hi0
    exact eV_mo (a_atV l D z cB cI_ cO L0 g0 al tA tD mc tx x cx rx fsx h1 h_x hAD hxA hxD hcx hca) (fun L g hw => by
      obtain ⟨d1, f1, h6, h7, h8, h9⟩ := hw
      exact ⟨h7, _, d1, f1, h8, ⟨show 1 ≤ 10 by decide, by decide⟩, lsR_ins (xs := []) (f := fun _ => none) (Nat.le_refl _) (fun i hi => absurd hi (Nat.not_lt_zero i)) h6 (fun j hj => absurd hj (Nat.not_lt_zero j)) (fun j _ hj => absurd hj (Nat.not_lt_zero j)), Or.inr ⟨by decide, h9⟩⟩)
  · by_cases c : xs.length = cap
    · have e1 : ncap xs.length cap = cap + cap / 2 := by unfold ncap; rw [if_pos c, if_neg (by omega)]
      have e2 : gslo xs.length cap = cap + cap / 2 := by unfold gslo; rw [if_pos c, if_neg (by omega)]
      have e3 : gcel xs.length cap = 1 := if_pos c
      rw [e1] at hcp
      rw [e2, e3, e1]
      rw [c] at h1
      exact eV_mo (a_atF l D z cB cI_ cO L0 g0 al tA tD mc tx x cx rx fsx d cap i f h1 h5 h_x hAD hxA hxD (by omega) h4 h2.2 hcx hca (fun i hi => lsR_obj h3 hob i (by omega))) (fun L g hw => by
        obtain ⟨d1, f1, ⟨k1, k2, k3⟩, h7, h8, h9⟩ := hw
        refine ⟨h7, mc + 1, d1, f1, ?_, ⟨by omega, hcp⟩, lsR_ins hi h3 k1 k2 (fun j a1 a2 => k3 j a1 (by omega)), Or.inr ⟨by omega, h9⟩⟩
        rw [hl, c]; exact h8)
    · have e1 : ncap xs.length cap = cap := if_neg c
      have e2 : gslo xs.length cap = 0 := if_neg c
      have e3 : gcel xs.length cap = 0 := if_neg c
      rw [e2, e3, e1]
      exact eV_mo (a_atN l D z cB cI_ cO L0 g0 al tA tD mc tx x cx rx fsx d cap xs.length i f h1 h5 h_x hAD hxA hxD hi (by omega) h2.2 hcx hca (lsR_obj h3 hob)) (fun L g hw => by
        obtain ⟨d1, f1, ⟨k1, k2, k3⟩, h7, h8, h9⟩ := hw
        refine ⟨h7, mc + 1, d1, f1, ?_, ⟨by omega, h2.2⟩, lsR_ins hi h3 k1 k2 k3, Or.inr ⟨h4, h9⟩⟩
        rw [hl]; exact h8)
theorem li_rm (l : Launch) (D : va_G) (z : Nat → Nat) (cB cI_ cO : ClassId) (L0 : List Nat) (g0 : hG) (al tA tD cap : Nat) (xs : List Nat) (tx cx : Nat) (rx : vw_C) (i : Nat) (hal : alR cO (z 0) tA tD L0 g0 al cap xs) (hAD : tA ≠ tD) (hxA : tx ≠ tA) (hxD : tx ≠ tD) (hcx : vcl[cx]? = some rx) (hca : ∀ s : State, zB z s → va_Nw (.castable rx.1 "java/lang/Object") s) (hob : ∀ y, y ∈ xs → ∃ fs, ho L0 g0 y tx (.inr (cx, fs))) (hi : i < xs.length) : eR l D yJx4a65c_remove_915e3 cJx4a65c_remove_915e3 4 (some (.object "java/lang/Object")) 2 43 0 0 [.ref al, .int (nI i)] z cB cI_ cO L0 g0 (fun r L g => r = xs.getD i 0 ∧ fr [tA, tD] L0 g0 L g ∧ alR cO (z 0) tA tD L g al cap (xs.eraseIdx i)) := by
  obtain ⟨mc, d, f, h1, h2, h3, h4⟩ := hal
  rcases h4 with ⟨h4, h5⟩ | ⟨h4, h5⟩
  · omega
  · exact eR_mo (a_rm l D z cB cI_ cO L0 g0 al tA tD mc tx cx rx d cap xs.length i f (xs.getD i 0) h1 h5 hAD hxA hxD hi h2.1 h2.2 hcx hca (lsR_obj h3 hob) (h3 i hi)) (fun r L g hw => by
      obtain ⟨h6, f1, ⟨k2, k3⟩, h7, h8, h9⟩ := hw
      refine ⟨h6, h7, mc + 1, d, f1, ?_, ⟨by rw [(ls_er hi 0).1]; omega, h2.2⟩, lsR_rm hi h3 k2 k3, Or.inr ⟨h4, h9⟩⟩
      rw [(ls_er hi 0).1]; exact h8)
theorem li_clr (l : Launch) (D : va_G) (z : Nat → Nat) (cB cI_ cO : ClassId) (L0 : List Nat) (g0 : hG) (al tA tD cap : Nat) (xs : List Nat) (hal : alR cO (z 0) tA tD L0 g0 al cap xs) (hAD : tA ≠ tD) : eV l D yJx4a65c_clear_da8c8 cJx4a65c_clear_da8c8 4 none 0 0 0 0 [.ref al] z cB cI_ cO L0 g0 (fun L g => fr [tA, tD] L0 g0 L g ∧ alR cO (z 0) tA tD L g al cap []) := by
  obtain ⟨mc, d, f, h1, h2, h3, h4⟩ := hal
  rcases h4 with ⟨h4, h5⟩ | ⟨h4, h5⟩
  · subst h5
    have hx0 : xs = [] := List.eq_nil_of_length_eq_zero (by omega)
    subst hx0
    exact eV_mo (a_clrV l D z cB cI_ cO L0 g0 al tA tD mc h1) (fun L g hw => ⟨hw.1, _, _, f, hw.2, ⟨Nat.zero_le _, h2.2⟩, h3, Or.inl ⟨h4, rfl⟩⟩)
  · exact eV_mo (a_clrO l D z cB cI_ cO L0 g0 al tA tD mc d cap xs.length f h1 h5 hAD h2.1 h2.2) (fun L g hw => by
      obtain ⟨f1, h7, h8, h9⟩ := hw
      exact ⟨h7, _, d, f1, h8, ⟨Nat.zero_le _, h2.2⟩, fun i hi => absurd hi (Nat.not_lt_zero i), Or.inr ⟨h4, h9⟩⟩)
