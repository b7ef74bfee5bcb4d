theorem q_D {s : State} {cl : List vw_C} (h : ∀ q ∈ cl, ∃ (c : ClassId) (i : Nat → Nat), u_Kn s q.1 q.2.1 q.2.2 c i) : ∃ D : va_G, ∀ (k : Nat) (q : vw_C), cl[k]? = some q → u_Kn s q.1 q.2.1 q.2.2 (D.1 k) (D.2 k) := by
  have h2 : ∀ k : Nat, ∃ (c : ClassId) (i : Nat → Nat), ∀ q : vw_C, cl[k]? = some q → u_Kn s q.1 q.2.1 q.2.2 c i := by
    intro k
    cases hk : cl[k]? with
    | none => exact ⟨(0 : Nat), fun _ => 0, fun q hq => by cases hq⟩
    | some q =>
      obtain ⟨c, i, hci⟩ := h q (List.mem_of_getElem? hk)
      exact ⟨c, i, fun q' e => by cases e; exact hci⟩
  exact ⟨(fun k => Classical.choose (h2 k), fun k => Classical.choose (Classical.choose_spec (h2 k))), fun k q hq => Classical.choose_spec (Classical.choose_spec (h2 k)) q hq⟩
set_option maxHeartbeats 1000000 in
set_option maxRecDepth 100000 in
theorem whole_start {p : Program} {e : Env} {s : State} {m : MethodId} {below : List Frame} {meth : Method} {c : Code} (l : Launch) {b L : Nat} {xs : Nat → Int32} (hL : L ≤ 4) (C0 : lw_At p s m meth c b L xs) : W p l e room_1 s m #[Value.ref b] below meth c s.heap [] 0 0 (lw_Z below #[Value.ref b] s) (entryFrame m ([Value.ref b] : List Value).toArray 4) := by
  obtain ⟨hx, hb, hr, hml, hown, hts0, hX, hbl, hlocks, hgv⟩ := id C0
  have hts : ∀ w ∈ gT, w.before #[Value.ref b] s = true := fun w h => hts0 w (gT_lw w h)
  have hf : CallFix p m c cL_law 4 s #[Value.ref b] gT R_law := ⟨hx, hb, hml, hown, hts⟩
  obtain ⟨D, hKc⟩ := q_D (s := s) (cl := vcl) (List.forall_mem_cons.mpr ⟨u_known (C := RJx4a65c) (T := TJx4a65c) (N := 3) hts inJx4a65c (hts _ k_155), List.forall_mem_cons.mpr ⟨u_known (C := RX0) (T := TX0) (N := 11) hts inX0 (hts _ k_343), List.forall_mem_cons.mpr ⟨u_known (C := RX1) (T := TX1) (N := 9) hts inX1 (hts _ k_181), List.forall_mem_cons.mpr ⟨u_known (C := RX2) (T := TX2) (N := 10) hts inX2 (hts _ k_383), List.forall_mem_cons.mpr ⟨u_known (C := RX3) (T := TX3) (N := 7) hts inX3 (hts _ k_315), List.forall_mem_cons.mpr ⟨u_known (C := RX4) (T := TX4) (N := 6) hts inX4 (hts _ k_130), List.forall_mem_cons.mpr ⟨u_known (C := RX5) (T := TX5) (N := 4) hts inX5 (hts _ k_271), List.forall_mem_cons.mpr ⟨u_known (C := RX6) (T := TX6) (N := 3) hts inX6 (hts _ k_263), List.forall_mem_cons.mpr ⟨u_known (C := RX7) (T := TX7) (N := 1) hts inX7 (hts _ k_420), List.forall_mem_cons.mpr ⟨u_known (C := RX8) (T := TX8) (N := 2) hts inX8 (hts _ k_116), List.forall_mem_cons.mpr ⟨u_known (C := RX9) (T := TX9) (N := 12) hts inX9 (hts _ k_108), List.forall_mem_cons.mpr ⟨u_known (C := RX10) (T := TX10) (N := 48) hts inX10 (hts _ k_1138), fun _ h => absurd h List.not_mem_nil⟩⟩⟩⟩⟩⟩⟩⟩⟩⟩⟩⟩)
  have hex := flat_of_before _ hgv (Cond.exactly (.static "java/util/ArrayList" "DEFAULTCAPACITY_EMPTY_ELEMENTDATA" "[Ljava/lang/Object;") "[Ljava/lang/Object;") (by decide +kernel)
  obtain ⟨z0, _, _, _, hev, -⟩ := Cond.exactly_spec hex
  obtain ⟨A, hAe⟩ : ∃ A : Nat → Prop, A = fun q => s.heap.size ≤ q := ⟨_, rfl⟩
  have hZ : va_Z "java/util/ArrayList" "DEFAULTCAPACITY_EMPTY_ELEMENTDATA" "[Ljava/lang/Object;" (.ref z0) A s s.heap := va_Zof (hts0 _ (List.mem_of_getElem? (i := 167) (by decide +kernel))) (hts _ k_89) hev (fun a h => by rw [hAe]; exact Nat.not_le.mpr h)
  have hN : va_Nw (.methodLinkNest "ScriptDesk" 9 ⟨"ScriptDesk$Tape", "<init>", "()V"⟩ "ScriptDesk") s := va_Nw.of rfl (hts0 _ (List.mem_of_getElem? (i := 117) (by decide +kernel)))
  have hA : ∀ q : Nat, s.heap.size ≤ q → A q := fun q h => by rw [hAe]; exact h
  have hAq : ∀ q : Nat, A q → s.heap.size ≤ q := fun q h => by rw [hAe] at h; exact h
  have hbA : ¬ A b := fun h => absurd (hAq b h) (Nat.not_le.mpr hbl)
  have hK : va_K D vcl [] s := ⟨hKc, fun k q h => by simp at h⟩
  have hP : va_P D vcl [] s.heap := fun k q h => by simp at h
  have hD : va_D A [] := ⟨fun i j p q h => by simp at h, fun k q h => by simp at h⟩
  have hS : va_S A s.heap s.heap [] := va_S.rf
  have hl := lv_entry ([.ref b]) (n := 4) (Nat.le_of_ble_eq_true rfl)
  rw [lg_entry_eq]
  generalize (lg_sl ([.ref b]) ++ List.replicate (4 - (lg_sl ([.ref b])).length) Slot.unset).toArray = ls at hl ⊢
  have hl : lv_has ls 4 [(0, .ref b)] := hl
  refine va_new (ci := 10) (fs := [.null, .null, .null, .null, .null, .null, .null, .null, .null, .int 0, .int 0, .int 0]) (C := RX9) (T := TX9) (N := 12) hx hb hts inX9 tyX9 tyX9_ok hown (hts _ k_107) (hts _ k_108) (hts _ k_84) hK hP hD hS hA rfl dfX9 (Nat.le_of_ble_eq_true rfl) (Nat.le_of_ble_eq_true rfl) dL_law_0 (fun q1 H hP hD hS => ?_)
  refine W.widen (k := 1) (n := 12) (by decide) (by decide) ?_
  have hP : va_P D vcl [(q1, .inr (10, [.null, .null, .null, .null, .null, .null, .null, .null, .null, .int 0, .int 0, .int 0]))] H := hP
  have hD : va_D A [(q1, .inr (10, [.null, .null, .null, .null, .null, .null, .null, .null, .null, .int 0, .int 0, .int 0]))] := hD
  refine lv_dup hx hb dL_law_3 rfl ?_
  refine q_bv (wc := [(q1, .inr (10, [.null, .null, .null, .null, .null, .null, .null, .null, .null, .int 0, .int 0, .int 0]))]) (wr := []) (tc := []) (tr := []) (k := 24) (n := 1680) hK hP hD hS hA [0] [] [] [] rfl rfl (by decide) (by decide) (by decide) rfl rfl (fun hPc hKc hDc hFc => (q_rI (As := []) (rest := [.ref q1]) hf (m_X9_init_1 _ D z0 q1 _) k_111 k_109 k_110 k_84 rfl (nA := 0) (by decide +kernel) ⟨Nat.le_of_ble_eq_true rfl, Nat.le_of_ble_eq_true rfl⟩ hPc hKc hDc zN_blind (zN_pass hZ hN hS hFc) rfl hl.1 rfl (Nat.le_of_ble_eq_true rfl) dL_law_4 ⟨Nat.le_of_ble_eq_true rfl, Nat.le_of_ble_eq_true rfl⟩)) (by decide) (by decide) (fun u H locs hw hK hP hD hS => ?_)
  obtain ⟨q2, q3, a4, q5, q6, q7, q8, q9, q10, q11, q12, q13, q14, q15, a16, q17, a18, q19, a20, q21, q22, rfl⟩ := hw
  have hP : va_P D vcl [(q1, .inr (10, [.ref q2, .ref q5, .ref q6, .ref q7, .ref q8, .ref q9, .ref q14, .ref q21, .ref q22, .int 20, .int 0, .int 0])), (q2, .inr (9, [.ref q3, .int 0])), (q3, .inl (a4, 1200, .inl (fun _ => 0))), (q5, .inr (5, [.ref q2, .int 0, .int 0, .int 0, .int 0, .int 0])), (q6, .inr (0, [.int 0, .ref z0, .int 0])), (q9, .inr (7, [.ref q10, .ref q11, .ref q12])), (q10, .inr (0, [.int 0, .ref z0, .int 0])), (q14, .inr (1, [.ref q9, .ref q13, .ref q15, .int 0, .int 0, .ref q17, .ref q19, .int 0, .int 0, .int 0, .int 0])), (q15, .inl (a16, 61, .inl (fun _ => 0))), (q17, .inl (a18, 128, .inl (fun _ => 0))), (q19, .inl (a20, 128, .inl (fun _ => 0))), (q22, .inr (8, [.ref q9]))] H := hP
  have hD : va_D A [(q1, .inr (10, [.ref q2, .ref q5, .ref q6, .ref q7, .ref q8, .ref q9, .ref q14, .ref q21, .ref q22, .int 20, .int 0, .int 0])), (q2, .inr (9, [.ref q3, .int 0])), (q3, .inl (a4, 1200, .inl (fun _ => 0))), (q5, .inr (5, [.ref q2, .int 0, .int 0, .int 0, .int 0, .int 0])), (q6, .inr (0, [.int 0, .ref z0, .int 0])), (q9, .inr (7, [.ref q10, .ref q11, .ref q12])), (q10, .inr (0, [.int 0, .ref z0, .int 0])), (q14, .inr (1, [.ref q9, .ref q13, .ref q15, .int 0, .int 0, .ref q17, .ref q19, .int 0, .int 0, .int 0, .int 0])), (q15, .inl (a16, 61, .inl (fun _ => 0))), (q17, .inl (a18, 128, .inl (fun _ => 0))), (q19, .inl (a20, 128, .inl (fun _ => 0))), (q22, .inr (8, [.ref q9]))] := hD
  have hK : va_K D vcl [(a4, .byte), (a16, .int), (a18, .int), (a20, .int)] s := hK
  refine lv_astore_n (lv' := [(1, .ref q1), (0, .ref b)]) hx hb dL_law_7 rfl hl (by decide) rfl (fun ls hl => ?_)
  refine va_new (ci := 11) (fs := [.null, .int 0, .int 0, .int 0, .null, .null, .null, .null, .null, .null, .null, .null, .null, .null, .int 0, .null, .null, .null, .null, .int 0, .int 0, .int 0, .null, .null, .null, .int 0, .int 0, .int 0, .int 0, .int 0, .null, .null, .null, .null, .null, .null, .null, .null, .null, .null, .null, .null, .null, .null, .int 0, .null, .int 0, .null]) (C := RX10) (T := TX10) (N := 48) hx hb hts inX10 tyX10 tyX10_ok hown (hts _ k_1137) (hts _ k_1138) (hts _ k_98) hK hP hD hS hA rfl dfX10 (Nat.le_of_ble_eq_true rfl) (Nat.le_of_ble_eq_true rfl) dL_law_8 (fun q23 H hP hD hS => ?_)
  refine W.widen (k := 25) (n := 1728) (by decide) (by decide) ?_
  have hP : va_P D vcl [(q1, .inr (10, [.ref q2, .ref q5, .ref q6, .ref q7, .ref q8, .ref q9, .ref q14, .ref q21, .ref q22, .int 20, .int 0, .int 0])), (q2, .inr (9, [.ref q3, .int 0])), (q3, .inl (a4, 1200, .inl (fun _ => 0))), (q5, .inr (5, [.ref q2, .int 0, .int 0, .int 0, .int 0, .int 0])), (q6, .inr (0, [.int 0, .ref z0, .int 0])), (q9, .inr (7, [.ref q10, .ref q11, .ref q12])), (q10, .inr (0, [.int 0, .ref z0, .int 0])), (q14, .inr (1, [.ref q9, .ref q13, .ref q15, .int 0, .int 0, .ref q17, .ref q19, .int 0, .int 0, .int 0, .int 0])), (q15, .inl (a16, 61, .inl (fun _ => 0))), (q17, .inl (a18, 128, .inl (fun _ => 0))), (q19, .inl (a20, 128, .inl (fun _ => 0))), (q22, .inr (8, [.ref q9])), (q23, .inr (11, [.null, .int 0, .int 0, .int 0, .null, .null, .null, .null, .null, .null, .null, .null, .null, .null, .int 0, .null, .null, .null, .null, .int 0, .int 0, .int 0, .null, .null, .null, .int 0, .int 0, .int 0, .int 0, .int 0, .null, .null, .null, .null, .null, .null, .null, .null, .null, .null, .null, .null, .null, .null, .int 0, .null, .int 0, .null]))] H := hP
  have hD : va_D A [(q1, .inr (10, [.ref q2, .ref q5, .ref q6, .ref q7, .ref q8, .ref q9, .ref q14, .ref q21, .ref q22, .int 20, .int 0, .int 0])), (q2, .inr (9, [.ref q3, .int 0])), (q3, .inl (a4, 1200, .inl (fun _ => 0))), (q5, .inr (5, [.ref q2, .int 0, .int 0, .int 0, .int 0, .int 0])), (q6, .inr (0, [.int 0, .ref z0, .int 0])), (q9, .inr (7, [.ref q10, .ref q11, .ref q12])), (q10, .inr (0, [.int 0, .ref z0, .int 0])), (q14, .inr (1, [.ref q9, .ref q13, .ref q15, .int 0, .int 0, .ref q17, .ref q19, .int 0, .int 0, .int 0, .int 0])), (q15, .inl (a16, 61, .inl (fun _ => 0))), (q17, .inl (a18, 128, .inl (fun _ => 0))), (q19, .inl (a20, 128, .inl (fun _ => 0))), (q22, .inr (8, [.ref q9])), (q23, .inr (11, [.null, .int 0, .int 0, .int 0, .null, .null, .null, .null, .null, .null, .null, .null, .null, .null, .int 0, .null, .null, .null, .null, .int 0, .int 0, .int 0, .null, .null, .null, .int 0, .int 0, .int 0, .int 0, .int 0, .null, .null, .null, .null, .null, .null, .null, .null, .null, .null, .null, .null, .null, .null, .int 0, .null, .int 0, .null]))] := hD
  refine lv_dup hx hb dL_law_11 rfl ?_
  refine q_bv (wc := [(q23, .inr (11, [.null, .int 0, .int 0, .int 0, .null, .null, .null, .null, .null, .null, .null, .null, .null, .null, .int 0, .null, .null, .null, .null, .int 0, .int 0, .int 0, .null, .null, .null, .int 0, .int 0, .int 0, .int 0, .int 0, .null, .null, .null, .null, .null, .null, .null, .null, .null, .null, .null, .null, .null, .null, .int 0, .null, .int 0, .null]))]) (wr := [(q1, .inr (10, [.ref q2, .ref q5, .ref q6, .ref q7, .ref q8, .ref q9, .ref q14, .ref q21, .ref q22, .int 20, .int 0, .int 0])), (q2, .inr (9, [.ref q3, .int 0])), (q3, .inl (a4, 1200, .inl (fun _ => 0))), (q5, .inr (5, [.ref q2, .int 0, .int 0, .int 0, .int 0, .int 0])), (q6, .inr (0, [.int 0, .ref z0, .int 0])), (q9, .inr (7, [.ref q10, .ref q11, .ref q12])), (q10, .inr (0, [.int 0, .ref z0, .int 0])), (q14, .inr (1, [.ref q9, .ref q13, .ref q15, .int 0, .int 0, .ref q17, .ref q19, .int 0, .int 0, .int 0, .int 0])), (q15, .inl (a16, 61, .inl (fun _ => 0))), (q17, .inl (a18, 128, .inl (fun _ => 0))), (q19, .inl (a20, 128, .inl (fun _ => 0))), (q22, .inr (8, [.ref q9]))]) (tc := []) (tr := [(a4, .byte), (a16, .int), (a18, .int), (a20, .int)]) (k := 59) (n := 222914) hK hP hD hS hA [12] [0, 1, 2, 3, 4, 5, 6, 7, 8, 9, 10, 11] [] [0, 1, 2, 3] rfl rfl (by decide) (by decide) (by decide) rfl rfl (fun hPc hKc hDc hFc => (q_rI (As := []) (rest := [.ref q23]) hf (m_X10_init_1 _ D q23 _) k_1141 k_1139 k_1140 k_98 rfl (nA := 0) (by decide +kernel) ⟨Nat.le_of_ble_eq_true rfl, Nat.le_of_ble_eq_true rfl⟩ hPc hKc hDc (fun _ _ _ _ h => h) (fun _ _ _ => trivial) rfl hl.1 rfl (Nat.le_of_ble_eq_true rfl) dL_law_12 ⟨Nat.le_of_ble_eq_true rfl, Nat.le_of_ble_eq_true rfl⟩)) (by decide) (by decide) (fun u H locs hw hK hP hD hS => ?_)
  obtain ⟨q24, a25, q26, q27, a28, q29, q30, q31, q32, q33, q34, q35, q36, q37, q38, q39, q40, q41, q42, q43, q44, a45, q46, q47, q48, q49, q50, q51, q52, q53, q54, q55, q56, q57, q58, q59, q60, rfl⟩ := hw
  have hP : va_P D vcl [(q1, .inr (10, [.ref q2, .ref q5, .ref q6, .ref q7, .ref q8, .ref q9, .ref q14, .ref q21, .ref q22, .int 20, .int 0, .int 0])), (q2, .inr (9, [.ref q3, .int 0])), (q3, .inl (a4, 1200, .inl (fun _ => 0))), (q5, .inr (5, [.ref q2, .int 0, .int 0, .int 0, .int 0, .int 0])), (q6, .inr (0, [.int 0, .ref z0, .int 0])), (q9, .inr (7, [.ref q10, .ref q11, .ref q12])), (q10, .inr (0, [.int 0, .ref z0, .int 0])), (q14, .inr (1, [.ref q9, .ref q13, .ref q15, .int 0, .int 0, .ref q17, .ref q19, .int 0, .int 0, .int 0, .int 0])), (q15, .inl (a16, 61, .inl (fun _ => 0))), (q17, .inl (a18, 128, .inl (fun _ => 0))), (q19, .inl (a20, 128, .inl (fun _ => 0))), (q22, .inr (8, [.ref q9])), (q23, .inr (11, [.ref q24, .int 0, .int 20, .int 0, .ref q26, .ref q27, .ref q29, .ref q30, .ref q31, .ref q32, .ref q33, .ref q34, .ref q35, .ref q36, .int 0, .ref q37, .ref q38, .ref q39, .ref q40, .int 0, .int 0, .int 0, .ref q41, .ref q42, .ref q43, .int 0, .int 0, .int 0, .int 0, .int 0, .ref q44, .ref q46, .ref q47, .ref q48, .ref q49, .ref q50, .ref q51, .ref q52, .ref q53, .ref q54, .ref q55, .ref q56, .ref q57, .ref q58, .int 0, .ref q59, .int 0, .ref q60])), (q24, .inl (a25, 1200, .inl (fun _ => 0))), (q27, .inl (a28, 60, .inl (fun _ => 0))), (q44, .inl (a45, 8001, .inl (fun _ => 0)))] H := hP
  have hD : va_D A [(q1, .inr (10, [.ref q2, .ref q5, .ref q6, .ref q7, .ref q8, .ref q9, .ref q14, .ref q21, .ref q22, .int 20, .int 0, .int 0])), (q2, .inr (9, [.ref q3, .int 0])), (q3, .inl (a4, 1200, .inl (fun _ => 0))), (q5, .inr (5, [.ref q2, .int 0, .int 0, .int 0, .int 0, .int 0])), (q6, .inr (0, [.int 0, .ref z0, .int 0])), (q9, .inr (7, [.ref q10, .ref q11, .ref q12])), (q10, .inr (0, [.int 0, .ref z0, .int 0])), (q14, .inr (1, [.ref q9, .ref q13, .ref q15, .int 0, .int 0, .ref q17, .ref q19, .int 0, .int 0, .int 0, .int 0])), (q15, .inl (a16, 61, .inl (fun _ => 0))), (q17, .inl (a18, 128, .inl (fun _ => 0))), (q19, .inl (a20, 128, .inl (fun _ => 0))), (q22, .inr (8, [.ref q9])), (q23, .inr (11, [.ref q24, .int 0, .int 20, .int 0, .ref q26, .ref q27, .ref q29, .ref q30, .ref q31, .ref q32, .ref q33, .ref q34, .ref q35, .ref q36, .int 0, .ref q37, .ref q38, .ref q39, .ref q40, .int 0, .int 0, .int 0, .ref q41, .ref q42, .ref q43, .int 0, .int 0, .int 0, .int 0, .int 0, .ref q44, .ref q46, .ref q47, .ref q48, .ref q49, .ref q50, .ref q51, .ref q52, .ref q53, .ref q54, .ref q55, .ref q56, .ref q57, .ref q58, .int 0, .ref q59, .int 0, .ref q60])), (q24, .inl (a25, 1200, .inl (fun _ => 0))), (q27, .inl (a28, 60, .inl (fun _ => 0))), (q44, .inl (a45, 8001, .inl (fun _ => 0)))] := hD
  have hK : va_K D vcl [(a4, .byte), (a16, .int), (a18, .int), (a20, .int), (a25, .byte), (a28, .boolean), (a45, .int)] s := hK
  refine lv_astore_n (lv' := [(2, .ref q23), (1, .ref q1), (0, .ref b)]) hx hb dL_law_15 rfl hl (by decide) rfl (fun ls hl => ?_)
  refine lv_iconst (v := 0) hx hb dL_law_16 (by decide) ?_
  refine lv_istore_n (lv' := [(3, .int 0), (2, .ref q23), (1, .ref q1), (0, .ref b)]) hx hb dL_law_17 rfl hl (by decide) rfl (fun ls hl => ?_)
  refine lv_iload_n hx hb dL_law_18 rfl (lv_at hl 0 rfl) ?_
  refine lv_aload_n hx hb dL_law_19 rfl (lv_at hl 3 rfl) ?_
  have hc : L = 0 ∨ L = 1 ∨ L = 2 ∨ L = 3 ∨ L = 4 := by omega
  rcases hc with rfl | rfl | rfl | rfl | rfl
  · refine va_slen hx hb hX hbl hbA hS dL_law_20 ?_
    refine lv_iconst (v := 4) hx hb dL_law_21 (by decide) ?_
    refine lv_isub hx hb dL_law_22 ?_
    refine q_seti (y := (-4)) (by decide) ?_
    refine lv_icmp_gt (tgt := 709) hx hb dL_law_23 (by decide) (fun _ => ?_) (fun hno => absurd hno (by decide))
    refine lv_iconst (v := 1) hx hb dL_law_709 (by decide) ?_
    refine va_forget (fun q hq => hAq _ (hS.2.2 q hq)) ?_
    refine W.widen (k := 600000) (n := 7302249) (by decide) (by decide) ?_
    exact lw_ret hx hb hr hlocks dL_law_710
  · refine va_slen hx hb hX hbl hbA hS dL_law_20 ?_
    refine lv_iconst (v := 4) hx hb dL_law_21 (by decide) ?_
    refine lv_isub hx hb dL_law_22 ?_
    refine q_seti (y := (-3)) (by decide) ?_
    refine lv_icmp_gt (tgt := 709) hx hb dL_law_23 (by decide) (fun _ => ?_) (fun hno => absurd hno (by decide))
    refine lv_iconst (v := 1) hx hb dL_law_709 (by decide) ?_
    refine va_forget (fun q hq => hAq _ (hS.2.2 q hq)) ?_
    refine W.widen (k := 600000) (n := 7302249) (by decide) (by decide) ?_
    exact lw_ret hx hb hr hlocks dL_law_710
  · refine va_slen hx hb hX hbl hbA hS dL_law_20 ?_
    refine lv_iconst (v := 4) hx hb dL_law_21 (by decide) ?_
    refine lv_isub hx hb dL_law_22 ?_
    refine q_seti (y := (-2)) (by decide) ?_
    refine lv_icmp_gt (tgt := 709) hx hb dL_law_23 (by decide) (fun _ => ?_) (fun hno => absurd hno (by decide))
    refine lv_iconst (v := 1) hx hb dL_law_709 (by decide) ?_
    refine va_forget (fun q hq => hAq _ (hS.2.2 q hq)) ?_
    refine W.widen (k := 600000) (n := 7302249) (by decide) (by decide) ?_
    exact lw_ret hx hb hr hlocks dL_law_710
  · refine va_slen hx hb hX hbl hbA hS dL_law_20 ?_
    refine lv_iconst (v := 4) hx hb dL_law_21 (by decide) ?_
    refine lv_isub hx hb dL_law_22 ?_
    refine q_seti (y := (-1)) (by decide) ?_
    refine lv_icmp_gt (tgt := 709) hx hb dL_law_23 (by decide) (fun _ => ?_) (fun hno => absurd hno (by decide))
    refine lv_iconst (v := 1) hx hb dL_law_709 (by decide) ?_
    refine va_forget (fun q hq => hAq _ (hS.2.2 q hq)) ?_
    refine W.widen (k := 600000) (n := 7302249) (by decide) (by decide) ?_
    exact lw_ret hx hb hr hlocks dL_law_710
  · refine va_slen hx hb hX hbl hbA hS dL_law_20 ?_
    refine lv_iconst (v := 4) hx hb dL_law_21 (by decide) ?_
    refine lv_isub hx hb dL_law_22 ?_
    refine q_seti (y := 0) (by decide) ?_
    refine lv_icmp_gt (tgt := 709) hx hb dL_law_23 (by decide) (fun hno => absurd hno (by decide)) (fun _ => ?_)
    refine lv_aload_n hx hb dL_law_26 rfl (lv_at hl 3 rfl) ?_
    refine lv_iload_n hx hb dL_law_27 rfl (lv_at hl 0 rfl) ?_
    refine va_sld hx hb hX hbl hbA hS (by unfold vp_in; decide) dL_law_28 ?_
    refine q_seti (y := xs 0) (congrArg xs (by decide)) ?_
    refine lv_bipush (v := 31) hx hb dL_law_29 (by decide) ?_
    refine lv_iand hx hb dL_law_31 ?_
    obtain ⟨jv, hjv, ejv⟩ := pk_andE (xs 0) (m := 31) 5 (by decide)
    refine q_seti (y := nI jv) ejv ?_
    have hj : jv = 0 ∨ jv = 1 ∨ jv = 2 ∨ jv = 3 ∨ jv = 4 ∨ jv = 5 ∨ jv = 6 ∨ jv = 7 ∨ jv = 8 ∨ jv = 9 ∨ jv = 10 ∨ jv = 11 ∨ jv = 12 ∨ jv = 13 ∨ jv = 14 ∨ jv = 15 ∨ jv = 16 ∨ jv = 17 ∨ jv = 18 ∨ jv = 19 ∨ jv = 20 ∨ jv = 21 ∨ 22 ≤ jv := by omega
    rcases hj with rfl | rfl | rfl | rfl | rfl | rfl | rfl | rfl | rfl | rfl | rfl | rfl | rfl | rfl | rfl | rfl | rfl | rfl | rfl | rfl | rfl | rfl | hj
    · refine lv_tableIn (off := 104) (tgt := 136) hx hb dL_law_32 (by decide) (by decide) (by decide) (by decide) ?_
      exact lc_feed hf hr hlocks hX hbl hbA hA hAq hK hP hD hS hl
    · refine lv_tableIn (off := 167) (tgt := 199) hx hb dL_law_32 (by decide) (by decide) (by decide) (by decide) ?_
      exact lc_cut hf hr hlocks hX hbl hbA hA hAq hK hP hD hS hl
    · refine lv_tableIn (off := 190) (tgt := 222) hx hb dL_law_32 (by decide) (by decide) (by decide) (by decide) ?_
      exact lc_read hf hr hlocks hX hbl hbA hA hAq hK hP hD hS hl
    · refine lv_tableIn (off := 203) (tgt := 235) hx hb dL_law_32 (by decide) (by decide) (by decide) (by decide) ?_
      exact lc_length hf hr hlocks hX hbl hbA hA hAq hK hP hD hS hl
    · refine lv_tableIn (off := 226) (tgt := 258) hx hb dL_law_32 (by decide) (by decide) (by decide) (by decide) ?_
      exact lc_element hf hr hlocks hX hbl hbA hA hAq hK hP hD hS hl
    · refine lv_tableIn (off := 259) (tgt := 291) hx hb dL_law_32 (by decide) (by decide) (by decide) (by decide) ?_
      exact lc_rowByte hf hr hlocks hX hbl hbA hA hAq hK hP hD hS hl
    · refine lv_tableIn (off := 302) (tgt := 334) hx hb dL_law_32 (by decide) (by decide) (by decide) (by decide) ?_
      exact lc_pages hf hr hlocks hX hbl hbA hA hAq hK hP hD hS hl
    · refine lv_tableIn (off := 315) (tgt := 347) hx hb dL_law_32 (by decide) (by decide) (by decide) (by decide) ?_
      exact lc_cost hf hr hlocks hX hbl hbA hA hAq hK hP hD hS hl
    · refine lv_tableIn (off := 328) (tgt := 360) hx hb dL_law_32 (by decide) (by decide) (by decide) (by decide) ?_
      exact lc_page hf hr hlocks hX hbl hbA hA hAq hK hP hD hS hl
    · refine lv_tableIn (off := 361) (tgt := 393) hx hb dL_law_32 (by decide) (by decide) (by decide) (by decide) ?_
      exact lc_lock hf hr hlocks hX hbl hbA hA hAq hK hP hD hS hl
    · refine lv_tableIn (off := 374) (tgt := 406) hx hb dL_law_32 (by decide) (by decide) (by decide) (by decide) ?_
      exact lc_strike hf hr hlocks hX hbl hbA hA hAq hK hP hD hS hl
    · refine lv_tableIn (off := 397) (tgt := 429) hx hb dL_law_32 (by decide) (by decide) (by decide) (by decide) ?_
      exact lc_insert hf hr hlocks hX hbl hbA hA hAq hK hP hD hS hl
    · refine lv_tableIn (off := 430) (tgt := 462) hx hb dL_law_32 (by decide) (by decide) (by decide) (by decide) ?_
      exact lc_sheets hf hr hlocks hX hbl hbA hA hAq hK hP hD hS hl
    · refine lv_tableIn (off := 453) (tgt := 485) hx hb dL_law_32 (by decide) (by decide) (by decide) (by decide) ?_
      exact lc_sheet hf hr hlocks hX hbl hbA hA hAq hK hP hD hS hl
    · refine lv_tableIn (off := 496) (tgt := 528) hx hb dL_law_32 (by decide) (by decide) (by decide) (by decide) ?_
      exact lc_where hf hr hlocks hX hbl hbA hA hAq hK hP hD hS hl
    · refine lv_tableIn (off := 519) (tgt := 551) hx hb dL_law_32 (by decide) (by decide) (by decide) (by decide) ?_
      exact lc_merge hf hr hlocks hX hbl hbA hA hAq hK hP hD hS hl
    · refine lv_tableIn (off := 532) (tgt := 564) hx hb dL_law_32 (by decide) (by decide) (by decide) (by decide) ?_
      exact lc_scenes hf hr hlocks hX hbl hbA hA hAq hK hP hD hS hl
    · refine lv_tableIn (off := 545) (tgt := 577) hx hb dL_law_32 (by decide) (by decide) (by decide) (by decide) ?_
      exact lc_scene hf hr hlocks hX hbl hbA hA hAq hK hP hD hS hl
    · refine lv_tableIn (off := 578) (tgt := 610) hx hb dL_law_32 (by decide) (by decide) (by decide) (by decide) ?_
      exact lc_who hf hr hlocks hX hbl hbA hA hAq hK hP hD hS hl
    · refine lv_tableIn (off := 611) (tgt := 643) hx hb dL_law_32 (by decide) (by decide) (by decide) (by decide) ?_
      exact lc_parts hf hr hlocks hX hbl hbA hA hAq hK hP hD hS hl
    · refine lv_tableIn (off := 634) (tgt := 666) hx hb dL_law_32 (by decide) (by decide) (by decide) (by decide) ?_
      exact lc_count hf hr hlocks hX hbl hbA hA hAq hK hP hD hS hl
    · refine lv_tableIn (off := 657) (tgt := 689) hx hb dL_law_32 (by decide) (by decide) (by decide) (by decide) ?_
      exact lc_digest hf hr hlocks hX hbl hbA hA hAq hK hP hD hS hl
    · refine lv_tableOut (tgt := 703) hx hb dL_law_32 (Or.inr (by rw [nI_toInt (by omega)]; omega)) (by decide) ?_
      exact law_end hf hr hlocks hX hbl hAq hS (lv_sub hl [0, 3] rfl)
-- ===== YOUR PART ENDS =====
set_option maxHeartbeats 4000000 in
theorem lw_walk (l : Launch) (b : Addr) (xs : List Int32) : MetFree l x (headSpec (Jvm.Cond.code x code maxLocals ret :: tables_1) room_1) (lw_P b xs) (fun _ _ _ _ _ => True) lw_Q := by
  refine MetFree.of_bodyS (code := code) (maxLocals := maxLocals) (ret := ret) (by decide) ?_ ?_
  · intro args s m h hn
    obtain ⟨meth, c, h1, h2, h3, h4, h5, h6, -, -⟩ := Cond.code_spec hn (atoms_spec (ws := Jvm.Cond.code x code maxLocals ret :: tables_1) h _ List.mem_cons_self)
    exact ⟨meth, c, h1, h2, h3, h4, h5, h6⟩
  · intro p e s m args below meth c s₁ B hml0 hP _
    obtain ⟨rfl, hx, hbd, hgv⟩ := hP
    obtain ⟨scr, harrAt, hlist, hof, hsmall⟩ := hx
    obtain ⟨hcb, hkn, -, -⟩ := State.arrayAt?_spec harrAt
    have hown : s.vm.findClass R_law = some m.cls := findClass_of_methodNamed B.named
    have hts0 : ∀ c ∈ (Jvm.Cond.code x code maxLocals ret :: tables_1), c.before #[Value.ref b] s = true := atoms_spec (ws := Jvm.Cond.code x code maxLocals ret :: tables_1) B.pre
    have hts : ∀ w ∈ lw_tbl, w.before #[Value.ref b] s = true := k2_hts_sels lw_privs (fun w hw => hts0 w (List.mem_cons_of_mem _ hw)) lw_privs_ok
    have hml : c.maxLocals = 4 := B.maxLocals_eq (hts0 _ List.mem_cons_self)
    have X₀ : Stand p l e room_1 s m #[Value.ref b] below meth c s₁ [] 0 0 := Stand.of_body B
    have hh0 : s₁.heap = s.heap := by rw [B.state]; rfl
    have hsz : scr.slots.size = xs.length := by rw [← Array.length_toList, hlist, List.length_map]
    have hval : ∀ j : Nat, j < xs.length → scr.slots[j]? = some (.int (xs.getD j 0)) := fun j hj => by
      rw [← Array.getElem?_toList, hlist]
      simp [hj]
    have hbl : b < s.heap.size := (Array.getElem?_eq_some_iff.mp hcb).1
    have hX : va_X b xs.length (fun j => xs.getD j 0) s s.heap := ⟨scr, hcb, hof, hkn, hsz, hval⟩
    have K : W p l e room_1 s m #[Value.ref b] below meth c s₁.heap [] 0 0 (lw_Z below #[Value.ref b] s) (entryFrame m ([Value.ref b] : List Value).toArray 4) := by
      rw [hh0]
      exact whole_start l hbd ⟨B.exec, B.bytes, B.returns, hml, hown, hts, hX, hbl, B.notSynchronized, hgv⟩
    obtain ⟨t, a1, o, b1, b2, b3⟩ := K s₁ rfl X₀
    exact ⟨t, o, a1, b1, b2, b3⟩
theorem lw_pre_spec {args : Array Value} {s : State} (h : (Jvm.Cond.and given_1 narrow_1).before args s = true) (hr : rest_1_c.before args s = true) : ∃ (b : Addr) (xs : List Int32), lw_P b xs args s := by
  have hs := flat_of_before _ h
  have hq := flat_of_before _ hr
  have hc : (Cond.count 1).before args s = true := hs _ (by decide +kernel)
  have harr : (Cond.arrayOf (.arg 0) .int).before args s = true := hs _ (by decide +kernel)
  have hle : (Cond.le (.length (.arg 0)) (.int 4)).before args s = true := hs _ (by decide +kernel)
  have hlen : (Cond.isInt (.length (.arg 0))).before args s = true := hq _ (by decide +kernel)
  have hall : (Cond.all (.arg 0) (.isInt (.elem (.arg 0) (.index 0)))).before args s = true := hq _ (by decide +kernel)
  obtain ⟨b, xs, hb, hx⟩ := State.ints_of_pre rfl harr hlen hall
  have hsm : xs.length < 2 ^ 31 := hx.choose_spec.2.2.2
  have hev : (Term.length (.arg 0)).eval args s none [] s = some (.int xs.length.toInt32) := hx.length_eval hb
  have hv := Cond.le_ints hev (show (Term.int 4).eval args s none [] s = some (.int 4) from rfl)
  have hd : xs.length.toInt32 ≤ 4 := by
    simpa [Cond.before, Cond.holds, hv] using hle
  have hN : xs.length ≤ 4 := (Int32.ofNat_le_ofNat hsm (by decide)).mp (show Int32.ofNat xs.length ≤ Int32.ofNat 4 from hd)
  exact ⟨b, xs, Cond.one_arg hc (show args[0]? = some (.ref b) from hb), hx, hN, h⟩
theorem lw_comes (l : Launch) : Comes l x (Jvm.Cond.code x code maxLocals ret :: tables_1) room_1 (fun tb e args s => Calls_1 tb e args s ∧ rest_1 tb e args s ∧ Pre_1 tb e args s)
    (fun _ _ args s o t => lw_Q args s o t) := by
  intro p e ha hc hk s m args below hf hfit hheap happ hpre
  obtain ⟨b, xs, hP⟩ := lw_pre_spec hpre.2.2 hpre.2.1
  obtain ⟨k, o, h1, h2, h3, hQ⟩ := lw_walk l b xs p e ha hc hk s m args below hf ((Spec.applies_iff_loose hf).mp happ).1 hP trivial
  exact ⟨k, o, h1, h2, h3, hQ⟩
theorem lw_frame {s t : State} {o : Outcome} {args : Array Value} (h : Framed s o t [] 600000 7302249) :
    Framed s o t (fieldLocs frame_1_writes args s ++ arrayLocs frame_1_arrays args s ++ staticLocs frame_1_statics s) 600000 7302249 := h
theorem lw_limb (L : Cond) (hL : ∀ (args : Array Value) (s t : State), L.after args s (.returned (some (.int 1))) t = true) :
    ArmFor flags0 classFile x code maxLocals ret World_1 tables_1 room_1 Calls_1 rest_1 Pre_1
      (fun tb e a s o t => postC L tb e a s o t ∧ Framed s o t (fieldLocs frame_1_writes a s ++ arrayLocs frame_1_arrays a s ++ staticLocs frame_1_statics s) 600000 7302249) := by
  intro l _ _ _ p e ha hc hk s m args below hf hfit hheap happ hpre
  obtain ⟨k, o, h1, h2, h3, rfl, hF⟩ := lw_comes l p e ha hc hk s m args below hf hfit hheap happ hpre
  exact ⟨k, _, h1, h2, h3, hL args s _, lw_frame hF⟩
theorem i_vc : Claimed_1_1 ∧ Claimed_1_2 := ⟨lw_limb limb_1_1 (fun args s t => by simp [limb_1_1, Cond.after, Cond.holds, Cond.value]), lw_limb limb_1_2 (fun args s t => Cond.after_iff.mpr (by
  first | (rw [show limb_1_2 = Cond.eq .result (.int 1) from rfl, Cond.eq_ints (x := 1) (y := 1) rfl rfl]; simp; done) | (simp [limb_1_2, Cond.value, Term.eval]; done)))⟩
