/-- two lists of elements with the same kinds and texts -/
def sx (A B : List E5) : Prop := A.length = B.length ∧ ∀ e, (A.getD e dE).1 = (B.getD e dE).1 ∧ (A.getD e dE).2.2.2.2 = (B.getD e dE).2.2.2.2
theorem sx_rw {A B : List E5} (h : sx A B) (e : Nat) : eRw (A.getD e dE) = eRw (B.getD e dE) := by
  show (tx_rows (A.getD e dE).1 (A.getD e dE).2.2.2.2).length = (tx_rows (B.getD e dE).1 (B.getD e dE).2.2.2.2).length
  rw [(h.2 e).1, (h.2 e).2]
theorem sx_c {A B : List E5} {x y : E5} (h : sx (x :: A) (y :: B)) : sx A B ∧ x.1 = y.1 ∧ x.2.2.2.2 = y.2.2.2.2 := by
  refine ⟨⟨by have := h.1; simpa using this, fun e => ?_⟩, ?_⟩
  · have h1 := h.2 (e + 1)
    simpa using h1
  · have h1 := h.2 0
    simpa using h1
theorem sx_su : ∀ {A B : List E5}, sx A B → txs A = txs B ∧ rws A = rws B
  | [], [], _ => ⟨rfl, rfl⟩
  | [], _ :: _, h => absurd h.1 (by simp)
  | _ :: _, [], h => absurd h.1 (by simp)
  | x :: A, y :: B, h => by
    have h1 := sx_c h
    have h2 := sx_su h1.1
    refine ⟨?_, ?_⟩
    · show x.2.2.2.2.length + txs A = y.2.2.2.2.length + txs B
      rw [h2.1, h1.2.2]
    · show (tx_rows x.1 x.2.2.2.2).length + rws A = (tx_rows y.1 y.2.2.2.2).length + rws B
      rw [h2.2, h1.2.1, h1.2.2]
theorem sx_f {A B : List E5} (h : sx A B) : (fun e => eRw (A.getD e dE)) = fun e => eRw (B.getD e dE) := funext (sx_rw h)
theorem gset_eq {Es : List E5} {j : Nat} {y : E5} (h : j < Es.length) : (Es.set j y).getD j dE = y := by
  rw [List.getD_eq_getElem?_getD, List.getElem?_set_self h]
  rfl
theorem gset_ne {Es : List E5} {j e : Nat} {y : E5} (h : e ≠ j) : (Es.set j y).getD e dE = Es.getD e dE := by
  rw [List.getD_eq_getElem?_getD, List.getElem?_set_ne (fun z => h z.symm), ← List.getD_eq_getElem?_getD]
theorem gset_out {Es : List E5} {j e : Nat} {y : E5} (h : ¬ j < Es.length) : (Es.set j y).getD e dE = Es.getD e dE := by
  rw [List.set_eq_of_length_le (by omega)]
theorem sx_set {Es : List E5} {j : Nat} {y : E5} (h1 : y.1 = (Es.getD j dE).1) (h2 : y.2.2.2.2 = (Es.getD j dE).2.2.2.2) : sx (Es.set j y) Es := by
  refine ⟨List.length_set, fun e => ?_⟩
  by_cases c : j < Es.length
  · by_cases c2 : e = j
    · rw [c2, gset_eq c]; exact ⟨h1, h2⟩
    · rw [gset_ne c2]; exact ⟨rfl, rfl⟩
  · rw [gset_out c]; exact ⟨rfl, rfl⟩
theorem sx_tr {A B C : List E5} (h : sx A B) (h2 : sx B C) : sx A C := ⟨h.1.trans h2.1, fun e => ⟨(h.2 e).1.trans (h2.2 e).1, (h.2 e).2.trans (h2.2 e).2⟩⟩
/-- the element j, struck -/
def stE (Es : List E5) (j : Nat) : List E5 := Es.set j ((Es.getD j dE).1, (Es.getD j dE).2.1, 1, (Es.getD j dE).2.2.2.1, (Es.getD j dE).2.2.2.2)
theorem stE_sx (Es : List E5) (j : Nat) : sx (stE Es j) Es := sx_set rfl rfl
theorem pcf_fl (f j : Nat) (P : List Q4) : pcf f (P.filter (fun x => !decide (x.1 = j))) = if f = j then [] else pcf f P := by
  by_cases c : f = j
  · rw [if_pos c]
    refine pcf_no (fun x hx => ?_)
    have h1 := (List.mem_filter.mp hx).2
    intro h2
    rw [nd_f (show x.1 = j by omega)] at h1
    exact absurd h1 (by decide)
  · rw [if_neg c]
    unfold pcf
    rw [List.filter_filter]
    refine List.filter_congr (fun x _ => ?_)
    by_cases c2 : x.1 = f
    · rw [nd_t (show ¬ x.1 = j by omega), Bool.and_true]
    · rw [decide_eq_false c2, Bool.false_and]
theorem dI.st {T : Nat → Int32} {n : Nat} {Es : List E5} {P : List Q4} {mo gs rm rm2 j : Nat} (h : dI T n Es P mo 1 gs rm) (hj : j < Es.length) (hr : rm2 ≤ rm) : dI T n (stE Es j) (flI j P P.length) mo 1 gs rm2 := by
  obtain ⟨a1, a2, a3, a4, a5, a6⟩ := h
  have hs := stE_sx Es j
  have hsu := sx_su hs
  obtain ⟨b1, b2, b3, b4, b5⟩ := a6 (by decide)
  rw [flI_all]
  refine ⟨a1, ⟨by rw [hs.1]; exact a2.1, fun e he => ?_, by rw [hsu.1]; omega⟩, fun x hx => ?_, ?_, fun h => absurd h (by decide), fun _ => ⟨?_, fun x hx => ?_, b3, fun f => ?_, fun e he hse => ?_⟩⟩
  · rw [sx_rw hs]; exact a2.2.1 e (by rw [← hs.1]; exact he)
  · have h1 := a3 x (List.mem_filter.mp hx).1
    rw [hs.1, sx_rw hs]; exact h1
  · rw [hsu.2]; exact Nat.le_trans (szs_fl _ _) a4
  · show prS (fun e => eRw ((stE Es j).getD e dE)) _
    rw [sx_f hs]
    exact List.Pairwise.filter _ b1
  · exact b2 x (List.mem_filter.mp hx).1
  · rw [pcf_fl, sx_rw hs]
    by_cases c : f = j
    · rw [if_pos c]; exact Or.inl rfl
    · rw [if_neg c]; exact b4 f
  · rw [hs.1] at he
    rw [pcf_fl]
    by_cases c : e = j
    · exfalso
      rw [c] at hse
      unfold stE at hse
      rw [gset_eq hj] at hse
      exact absurd hse (by show ¬ (1 : Int32) = 0; decide)
    · rw [if_neg c]
      unfold stE at hse
      rw [gset_ne c] at hse
      exact b5 e he hse
theorem prt_last {r : Nat} {x : Q4} : ∀ (A : List Q4) (a : Nat), prt r a (A ++ [x]) → x.2.2.1 = r
  | [], _, h => h.2.2
  | _ :: A, _, h => prt_last A _ h.2.2
theorem q_split {P : List Q4} {i : Nat} (h : i < P.length) : P = P.take i ++ P.getD i d4 :: P.drop (i + 1) := by
  rw [← q_drop h, List.take_append_drop]
theorem q_dmem {P : List Q4} {i : Nat} {x : Q4} (h : x ∈ P.drop i) : ∃ t, i ≤ t ∧ t < P.length ∧ P.getD t d4 = x := by
  obtain ⟨k, hk, e⟩ := List.mem_iff_getElem.mp h
  rw [List.length_drop] at hk
  refine ⟨i + k, by omega, by omega, ?_⟩
  rw [List.getElem_drop] at e
  rw [List.getD_eq_getElem?_getD, List.getElem?_eq_getElem (by omega)]
  exact e
/-- the last piece of an element ends it -/
theorem pl_end {Rw j pl : Nat} {P : List Q4} (hpl : pl < P.length) (hplj : (P.getD pl d4).1 = j) (hlst : ∀ t, pl < t → t < P.length → ¬ (P.getD t d4).1 = j) (h : pcf j P = [] ∨ prt Rw 0 (pcf j P)) : (P.getD pl d4).2.2.1 = Rw := by
  have e : pcf j P = pcf j (P.take pl) ++ [P.getD pl d4] := by
    conv => lhs; rw [q_split hpl]
    unfold pcf
    rw [List.filter_append]
    have e2 : (P.getD pl d4 :: P.drop (pl + 1)).filter (fun x => decide (x.1 = j)) = [P.getD pl d4] := by
      have e3 := pcf_y (P := P.drop (pl + 1)) hplj
      have e4 : pcf j (P.drop (pl + 1)) = [] := pcf_no (fun x hx => by
        obtain ⟨t, h1, h2, h3⟩ := q_dmem hx
        rw [← h3]
        exact hlst t (by omega) h2)
      rw [e4] at e3
      exact e3
    rw [e2]
  rw [e] at h
  rcases h with h | h
  · exact absurd h (by simp)
  · exact prt_last _ _ h
theorem dI.ins {T : Nat → Int32} {n : Nat} {Es : List E5} {P : List Q4} {mo gs rm rm2 j pl : Nat} {x : E5} (h : dI T n Es P mo 1 gs rm) (hr : rm2 ≤ rm) (hl : Es.length < 60) (hx0 : 0 < eRw x) (hxn : x.2.2.2.2.length ≤ n) (hpl : pl < P.length) (hplj : (P.getD pl d4).1 = j) (hlst : ∀ t, pl < t → t < P.length → ¬ (P.getD t d4).1 = j) : dI T 0 (Es ++ [x]) (lsJ P (pl + 1) (Es.length, 0, eRw x, (P.getD pl d4).2.2.2)) mo 1 gs rm2 := by
  obtain ⟨a1, a2, a3, a4, a5, a6⟩ := h
  obtain ⟨b1, b2, b3, b4, b5⟩ := a6 (by decide)
  have hll : (Es ++ [x]).length = Es.length + 1 := by rw [List.length_append]; rfl
  have hmem : ∀ y, y ∈ lsJ P (pl + 1) (Es.length, 0, eRw x, (P.getD pl d4).2.2.2) → y ∈ P ∨ y = (Es.length, 0, eRw x, (P.getD pl d4).2.2.2) := by
    intro y hy
    unfold lsJ at hy
    rcases List.mem_append.mp hy with hy | hy
    · exact Or.inl (List.mem_of_mem_take hy)
    · rcases List.mem_cons.mp hy with hy | hy
      · exact Or.inr hy
      · exact Or.inl (List.mem_of_mem_drop hy)
  have hgl : ∀ e, e < Es.length → (Es ++ [x]).getD e dE = Es.getD e dE := fun e he => gd_l he
  have hend := pl_end hpl hplj hlst (b4 j)
  have hsplit := List.take_append_drop (pl + 1) P
  have hpw := b1
  unfold prS at hpw
  rw [← hsplit, List.pairwise_append] at hpw
  obtain ⟨c1, c2, c3⟩ := hpw
  have hplm : P.getD pl d4 ∈ P.take (pl + 1) := by rw [q_take hpl]; exact List.mem_append.mpr (Or.inr (List.mem_singleton.mpr rfl))
  have hq0 := fun y (hy : y ∈ P.take (pl + 1)) => a3 y (List.mem_of_mem_take hy)
  have hq1 := fun y (hy : y ∈ P.drop (pl + 1)) => a3 y (List.mem_of_mem_drop hy)
  have hbef : ∀ y, y ∈ P.take (pl + 1) → y.2.2.2 ≤ (P.getD pl d4).2.2.2 ∧ (y.2.2.2 = (P.getD pl d4).2.2.2 → y.2.2.1 = eRw (Es.getD y.1 dE)) := by
    intro y hy
    rw [q_take hpl] at hy
    rcases List.mem_append.mp hy with hy | hy
    · have h1 := b1
      unfold prS at h1
      rw [q_split hpl, List.pairwise_append] at h1
      have h2 := h1.2.2 y hy _ List.mem_cons_self
      exact ⟨h2.1, fun h3 => (h2.2 h3).2⟩
    · rw [List.mem_singleton.mp hy]
      exact ⟨Nat.le_refl _, fun _ => by rw [hplj]; exact hend⟩
  refine ⟨⟨by omega, a1.2.1, a1.2.2⟩, ⟨by omega, fun e he => ?_, ?_⟩, fun y hy => ?_, ?_, fun h => absurd h (by decide), fun _ => ⟨?_, fun y hy => ?_, b3, fun f => ?_, fun e he hse => ?_⟩⟩
  · by_cases c : e < Es.length
    · rw [hgl e c]; exact a2.2.1 e c
    · rw [show e = Es.length by omega, gd_r]; exact hx0
  · rw [txs_app]
    show txs Es + (x.2.2.2.2.length + 0) + 0 + 8 * rm2 ≤ 4096
    omega
  · rcases hmem y hy with h1 | h1
    · have h2 := a3 y h1
      rw [hgl _ h2.1]
      exact ⟨by omega, h2.2⟩
    · rw [h1]
      refine ⟨by show Es.length < _; omega, hx0, ?_⟩
      show eRw x ≤ eRw ((Es ++ [x]).getD Es.length dE)
      rw [gd_r]
      exact Nat.le_refl _
  · unfold lsJ
    rw [szs_app, rws_app]
    have h1 := szs_app (P.take (pl + 1)) (P.drop (pl + 1))
    rw [hsplit] at h1
    show szs (P.take (pl + 1)) + ((eRw x - 0) + szs (P.drop (pl + 1))) ≤ rws Es + (eRw x + 0)
    omega
  · unfold prS lsJ
    rw [List.pairwise_append, List.pairwise_cons]
    refine ⟨c1.imp_of_mem (fun {a b} ha hb h1 => ⟨h1.1, fun h2 => ⟨(h1.2 h2).1, ?_⟩⟩), ⟨fun b hb => ?_, c2.imp_of_mem (fun {a b} ha hb h1 => ⟨h1.1, fun h2 => ⟨(h1.2 h2).1, ?_⟩⟩)⟩, fun a ha b hb => ?_⟩
    · show _ = eRw ((Es ++ [x]).getD a.1 dE); rw [hgl _ (hq0 a ha).1]; exact (h1.2 h2).2
    · have h1 := c3 _ hplm b hb
      refine ⟨h1.1, fun h2 => ⟨(h1.2 h2).1, ?_⟩⟩
      show eRw x = eRw ((Es ++ [x]).getD Es.length dE)
      rw [gd_r]
    · show _ = eRw ((Es ++ [x]).getD a.1 dE); rw [hgl _ (hq1 a ha).1]; exact (h1.2 h2).2
    · rcases List.mem_cons.mp hb with hb | hb
      · rw [hb]
        have h1 := hbef a ha
        refine ⟨h1.1, fun h2 => ⟨rfl, ?_⟩⟩
        show _ = eRw ((Es ++ [x]).getD a.1 dE)
        rw [hgl _ (hq0 a ha).1]
        exact h1.2 h2
      · have h1 := c3 a ha b hb
        refine ⟨h1.1, fun h2 => ⟨(h1.2 h2).1, ?_⟩⟩
        show _ = eRw ((Es ++ [x]).getD a.1 dE)
        rw [hgl _ (hq0 a ha).1]
        exact (h1.2 h2).2
  · rcases hmem y hy with h1 | h1
    · exact b2 y h1
    · rw [h1]; show (P.getD pl d4).2.2.2 < gs; exact b2 _ (gq_mem hpl)
  · by_cases c : f = Es.length
    · right
      rw [c, gd_r]
      have e1 : pcf Es.length (lsJ P (pl + 1) (Es.length, 0, eRw x, (P.getD pl d4).2.2.2)) = [(Es.length, 0, eRw x, (P.getD pl d4).2.2.2)] := by
        unfold lsJ pcf
        rw [List.filter_append]
        have e2 := pcf_no (f := Es.length) (P := P.take (pl + 1)) (fun y hy => by have := (hq0 y hy).1; omega)
        have e3 := pcf_no (f := Es.length) (P := P.drop (pl + 1)) (fun y hy => by have := (hq1 y hy).1; omega)
        have e4 := pcf_y (f := Es.length) (x := (Es.length, 0, eRw x, (P.getD pl d4).2.2.2)) (P := P.drop (pl + 1)) rfl
        unfold pcf at e2 e3 e4
        rw [e2, e4, e3]
        rfl
      rw [e1]
      exact ⟨rfl, hx0, rfl⟩
    · have e1 : pcf f (lsJ P (pl + 1) (Es.length, 0, eRw x, (P.getD pl d4).2.2.2)) = pcf f P := by
        conv => rhs; rw [← hsplit]
        unfold lsJ pcf
        rw [List.filter_append, List.filter_append]
        have e4 := pcf_n (f := f) (x := (Es.length, 0, eRw x, (P.getD pl d4).2.2.2)) (P := P.drop (pl + 1)) (fun z => c z.symm)
        unfold pcf at e4
        rw [e4]
      rw [e1]
      by_cases c2 : f < Es.length
      · rw [hgl f c2]; exact b4 f
      · left
        exact pcf_no (fun y hy => by have := (a3 y hy).1; omega)
  · have e1 : ∀ f, f ≠ Es.length → pcf f (lsJ P (pl + 1) (Es.length, 0, eRw x, (P.getD pl d4).2.2.2)) = pcf f P := by
      intro f c
      conv => rhs; rw [← hsplit]
      unfold lsJ pcf
      rw [List.filter_append, List.filter_append]
      have e4 := pcf_n (f := f) (x := (Es.length, 0, eRw x, (P.getD pl d4).2.2.2)) (P := P.drop (pl + 1)) (fun z => c z.symm)
      unfold pcf at e4
      rw [e4]
    by_cases c : e < Es.length
    · rw [hgl e c] at hse
      rw [e1 e (by omega)]
      exact b5 e c hse
    · rw [show e = Es.length by omega]
      intro z
      have h1 : (Es.length, 0, eRw x, (P.getD pl d4).2.2.2) ∈ pcf Es.length (lsJ P (pl + 1) (Es.length, 0, eRw x, (P.getD pl d4).2.2.2)) := by
        unfold pcf lsJ
        refine List.mem_filter.mpr ⟨List.mem_append.mpr (Or.inr List.mem_cons_self), ?_⟩
        exact decide_eq_true rfl
      rw [z] at h1
      exact absurd h1 List.not_mem_nil
