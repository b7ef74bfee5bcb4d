set_option maxHeartbeats 4000000 in
set_option maxRecDepth 100000 in
theorem z_start {p : Program} {s : State} {m : MethodId} {meth : Method} {c : Code} {b L : Nat} {xs : Nat → Int32} (C0 : lw_At p s m meth c b L xs) {A : Nat → Prop} (hA : ∀ a : Nat, a < s.heap.size → ¬ A a) : ∃ z : Nat → Nat, zA z A s s.heap ∧ zB z s := by
  obtain ⟨hx, hb, hr, hml, hown, hts0, hX, hbl, hlocks, hgv⟩ := id C0
  have G := fun (w : Cond) => flat_of_before (args := #[Value.ref b]) (s := s) _ hgv w
  obtain ⟨z0, z1, z6, ⟨a1, a2, a3, a4, a5, a6⟩, b1, b2, b3, b4, b5, b6⟩ := z_start1 C0 hA
  obtain ⟨kK, kV, hS, hE⟩ := vk_Sof (args := #[Value.ref b]) (N := 2) (tm := fun i => .string "ScriptDesk$LineReader" ([88, 94].getD i 0)) (len := [4, 4]) (byt := [[73, 78, 84, 46], [69, 88, 84, 46]]) (A := A) (s := s)
    (fun i hi => by rcases (show i = 0 ∨ i = 1 by omega) with h | h <;> subst h <;> decide)
    (fun i hi => by rcases (show i = 0 ∨ i = 1 by omega) with h | h <;> subst h <;> exact G _ (by decide +kernel))
    (fun i hi => by rcases (show i = 0 ∨ i = 1 by omega) with h | h <;> subst h <;> exact G _ (by decide +kernel))
    (fun i hi => by rcases (show i = 0 ∨ i = 1 by omega) with h | h <;> subst h <;> exact G _ (by decide +kernel))
    (fun i hi => by rcases (show i = 0 ∨ i = 1 by omega) with h | h <;> subst h <;> exact G _ (by decide +kernel))
    (fun i hi j hj => by
      rcases (show i = 0 ∨ i = 1 by omega) with h | h <;> subst h <;> (have hj : j < 4 := hj) <;> rcases (show j = 0 ∨ j = 1 ∨ j = 2 ∨ j = 3 by omega) with h | h | h | h <;> subst h <;> exact G _ (by decide +kernel))
    (fun i j hi hj hne => by
      rcases (show i = 0 ∨ i = 1 by omega) with h | h <;> subst h <;> rcases (show j = 0 ∨ j = 1 by omega) with h | h <;> subst h
      · exact absurd rfl hne
      · first | exact Or.inl (G _ (by decide +kernel)) | exact Or.inr (G _ (by decide +kernel))
      · first | exact Or.inl (G _ (by decide +kernel)) | exact Or.inr (G _ (by decide +kernel))
      · exact absurd rfl hne) hA
  refine ⟨fun i => if i = 0 then z0 else if i = 1 then z1 else if i < 4 then kK (i - 2) else if i < 6 then kV (i - 4) else z6, ⟨a1, a2, a3, a4, a5, ?_, a6⟩, vk_R.of (A := #[Value.ref b]) (hts0 _ (List.mem_of_getElem? (i := 528) (by decide +kernel))) (hE 0 (by decide)), vk_R.of (A := #[Value.ref b]) (hts0 _ (List.mem_of_getElem? (i := 581) (by decide +kernel))) (hE 1 (by decide)), b1, b2, b3, b4, b5, b6⟩
  refine ⟨fun i hi => ?_, fun i j hi hj e => ?_⟩
  · rcases (show i = 0 ∨ i = 1 by omega) with h | h <;> subst h
    · exact hS.1 0 (by decide)
    · exact hS.1 1 (by decide)
  · rcases (show i = 0 ∨ i = 1 by omega) with h | h <;> subst h <;> rcases (show j = 0 ∨ j = 1 by omega) with h | h <;> subst h
    · rfl
    · exact hS.2 0 1 (by decide) (by decide) e
    · exact hS.2 1 0 (by decide) (by decide) e
    · rfl
