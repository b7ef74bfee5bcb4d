noncomputable def dgA (h : Int64) (x : Int32) : Int64 := 31 * h + x.toInt64
noncomputable def dgN (f : Nat → Int32) : Nat → Int64 → Int64
  | 0, h => h
  | k + 1, h => dgA (dgN f k h) (f k)
noncomputable def dgB (x : E5) (r i : Nat) : Int32 := x.2.2.2.2.getD ((rwAt x r).1 + i) 0
noncomputable def dgR (x : E5) : Nat → Int64 → Int64
  | 0, h => h
  | r + 1, h => dgN (dgB x r) (rwAt x r).2 (dgR x r h)
noncomputable def dgX (x : E5) (h : Int64) : Int64 := dgR x (eRw x) (dgN (fun k => elV x (nI k)) 4 h)
noncomputable def dgE (Es : List E5) : Nat → Int64 → Int64
  | 0, h => h
  | e + 1, h => dgX (Es.getD e dE) (dgE Es e h)
noncomputable def stP (e : I3) : Int32 := if e.2.1 = -1 then 0 else e.2.2 - e.2.1 + 1
noncomputable def dgS (l : List I3) : Nat → Int64 → Int64
  | 0, h => h
  | s + 1, h => dgA (dgA (dgS l s h) (l.getD s (0, 0, 0)).1) (stP (l.getD s (0, 0, 0)))
noncomputable def dgK (l : List I3) (h : Int64) : Int64 := dgS l l.length (dgA h (nI l.length))
noncomputable def dgG (L : Nat → List I3) : Nat → Int64 → Int64
  | 0, h => h
  | g + 1, h => dgK (L g) (dgG L g h)
/-- digest: the answer -/
noncomputable def dgV (n ne : Nat) (Es : List E5) (lk mo gs : Nat) (pgs lst : Int32) (L : Nat → List I3) : Int64 := if lk = 0 then dgA (dgA (dgE Es ne (dgN (fun k => ctV n ne Es lk mo (nI k)) 6 101)) pgs) lst else dgG L gs (dgA (dgE Es ne (dgN (fun k => ctV n ne Es lk mo (nI k)) 6 101)) (nI gs))
theorem dgV_U {n ne : Nat} {Es : List E5} {lk mo gs : Nat} {pgs lst : Int32} {L : Nat → List I3} (h : lk = 0) : dgV n ne Es lk mo gs pgs lst L = dgA (dgA (dgE Es ne (dgN (fun k => ctV n ne Es lk mo (nI k)) 6 101)) pgs) lst := if_pos h
theorem dgV_L {n ne : Nat} {Es : List E5} {lk mo gs : Nat} {pgs lst : Int32} {L : Nat → List I3} (h : 0 < lk) : dgV n ne Es lk mo gs pgs lst L = dgG L gs (dgA (dgE Es ne (dgN (fun k => ctV n ne Es lk mo (nI k)) 6 101)) (nI gs)) := if_neg (by omega)
theorem nI_g0 {i : Nat} (h : i < 4) : ¬ nI i < 0 := fun h9 => absurd (q_lt (a := i) (b := 0) (by omega) (by decide) h9) (by omega)
theorem nI_l3 {i : Nat} (h : i < 4) : ¬ 3 < nI i := fun h9 => absurd (q_lt (a := 3) (b := i) (by decide) (by omega) h9) (by omega)
theorem dg_tx {F : Nat → Nat → Int32} {t a i : Nat} {X : List Int32} (h : ∀ u, u < X.length → F 10 (1200 * t + u) = X.getD u 0) (hi : a + i < X.length) : F 10 (1200 * t + a + i) = X.getD (a + i) 0 := by
  rw [Nat.add_assoc]; exact h _ hi
theorem stV_p0 {pe : Nat → Int32} {e : I3} : stV pe e 0 = e.1 := stV_0 rfl
theorem stV_p1 {pe : Nat → Int32} {e : I3} : stV pe e 1 = stP e := stV_1 rfl
theorem elC_val {ne : Nat} {Es : List E5} {x2 r : Int32} {j : Nat} (hn : ne ≤ 60) (hj : j < ne) (h : elC ne Es (nI j) x2 r) : r = elV (Es.getD j dE) x2 := by
  rcases h with ⟨h1, _⟩ | ⟨k, h1, h2, h3⟩
  · exact absurd ⟨j, hj, rfl⟩ h1
  · rw [h3, q_eqn (a := j) (b := k) (by omega) (by omega) h2]
theorem ck_rv_a2 {f1 f2 : Nat → Int32} : ∀ {Rv : List (Nat × Nat)}, ck_rv f1 f2 Rv → ∀ i, i < Rv.length → f1 i = nI (Rv.getD (Rv.length - 1 - i) (0, 0)).1 ∧ f2 i = nI ((Rv.getD (Rv.length - 1 - i) (0, 0)).1 + (Rv.getD (Rv.length - 1 - i) (0, 0)).2)
  | [], _, i, hi => absurd hi (Nat.not_lt_zero i)
  | x :: t, h, i, hi => by
    have hl : (x :: t).length = t.length + 1 := rfl
    by_cases c : i = t.length
    · rw [c, show (x :: t).length - 1 - t.length = 0 by omega]
      exact ⟨h.1, h.2.1⟩
    · rw [show (x :: t).length - 1 - i = (t.length - 1 - i) + 1 by omega]
      exact ck_rv_a2 h.2.2 i (by omega)
theorem elR.rw2 {cB cI_ : ClassId} {L : List Nat} {g : hG} {el w : Nat} {kd nm sk : Int32} {X : List Int32} (h : elR cB cI_ L g el kd nm sk w X) : ∃ (tx rf rt N0 M : Nat) (tf f1 f2 : Nat → Int32), ho L g el 9 (.inr (2, [.int kd, .int nm, .int sk, .ref tx, .int (nI X.length), .int (nI w), .ref rf, .ref rt, .int (nI (tx_rows kd X).length)])) ∧ ho L g tx 10 (.inl (cB, N0, .inl tf)) ∧ ho L g rf 11 (.inl (cI_, M, .inl f1)) ∧ ho L g rt 12 (.inl (cI_, M, .inl f2)) ∧ ((tx_rows kd X).length ≤ M ∧ M ≤ 200 ∧ N0 ≤ 1200 ∧ (tx_rows kd X).length ≤ 200) ∧ ∀ row, row < (tx_rows kd X).length → (f1 row = nI (rwAt (kd, nm, sk, w, X) row).1 ∧ f2 row = nI ((rwAt (kd, nm, sk, w, X) row).1 + (rwAt (kd, nm, sk, w, X) row).2)) ∧ (rwAt (kd, nm, sk, w, X) row).1 + (rwAt (kd, nm, sk, w, X) row).2 ≤ N0 ∧ ∀ i, i < (rwAt (kd, nm, sk, w, X) row).2 → tf ((rwAt (kd, nm, sk, w, X) row).1 + i) = dgB (kd, nm, sk, w, X) row i := by
  obtain ⟨tx, rf, rt, N0, M, tf, f1, f2, h1, h2, h3, h4, h5, h6, h7, h8⟩ := h
  refine ⟨tx, rf, rt, N0, M, tf, f1, f2, h1, h2, h3, h4, ⟨h7.2.2.1, h7.2.2.2.1, h7.2.1, by omega⟩, fun row hr => ?_⟩
  have hi := rwAt_in (x := (kd, nm, sk, w, X)) (i := row) hr
  have hi : (rwAt (kd, nm, sk, w, X) row).1 + (rwAt (kd, nm, sk, w, X) row).2 ≤ X.length := hi
  exact ⟨ck_rv_a2 h6 row hr, by omega, fun i hi2 => h5 _ (by omega)⟩

set_option maxHeartbeats 1000000 in
set_option maxRecDepth 100000 in
theorem ldg_a2 {p : Program} {l : Launch} {e : Env} {R : Room} {s : State} {m : MethodId} {args : Array Value} {below : List Frame} {meth : Method} {c : Code} {cells slots : Nat} {Q : State → Prop} {D : va_G} {A : Nat → Prop} {h0 : Nat} {q : Nat → Nat} {cB cI cZ : ClassId} {I : Nat → Int32} {F : Nat → Nat → Int32} {Es : List E5} {sl : Nat → Nat} {n mo lk : Nat} {hb0 : Int64} (hI3 : I 3 = nI Es.length) (hre : reR F Es sl) (hI1 : I 1 = nI n) (hI2 : I 2 = nI mo) (hI20 : I 20 = nI lk) (hlk : lk ≤ 1) (hRf : 1 ≤ R.frames) (hRl : 40 ≤ R.locals) (hRc : cells ≤ R.cells) (hRs : slots ≤ R.slots) (hA : ∀ q : Nat, s.heap.size ≤ q → A q) (hf : CallFix p m c cX10_digest 7 s args gT yX10_digest.cls) (hK : va_K D vcl (mT cB cI cZ) s) :
    ∀ (k : Nat) (i : Nat) (hh : Int64) (H : Heap) (locs : List Loc) (ls : Array Slot), i + k = 6 → hh = dgN (fun k => ctV n Es.length Es lk mo (nI k)) i hb0 →  va_P D vcl (mW h0 q cB cI cZ I F) H → va_D A (mW h0 q cB cI cZ I F) → va_S A s.heap H locs → lv_has ls 7 [(3, .int (nI i)), (1, .long hh), (0, .ref h0)] →
    (∀ (hh : Int64) (H : Heap) (locs : List Loc) (ls : Array Slot), hh = dgN (fun k => ctV n Es.length Es lk mo (nI k)) 6 hb0 → va_P D vcl (mW h0 q cB cI cZ I F) H → va_D A (mW h0 q cB cI cZ I F) → va_S A s.heap H locs → lv_has ls 7 [(1, .long hh), (0, .ref h0)] → W p l e R s m args below meth c H locs cells slots Q (F0 m 31 ls [])) →
    W p l e R s m args below meth c H locs cells slots Q (F0 m 6 ls []) := by
  obtain ⟨hx, hb, hml, hown, hts⟩ := id hf
  have hre1 := hre.1
  intro k
  induction k with
  | zero =>
    intro i hh H locs ls hik hv hP hD hS hl kk
    refine lv_iload_n hx hb dX10_digest_6 rfl (lv_at hl 0 rfl) ?_
    refine lv_bipush (v := 6) hx hb dX10_digest_7 (by decide) ?_
    refine lv_icmp_ge (tgt := 31) hx hb dX10_digest_9 (by decide) (fun c_1 => ?_) (fun c_1 => ?_)
    · have c_1 := q_le (a := 6) (b := i) (by omega) (by omega) c_1
      exact kk hh  H locs ls (by rw [hv, show i = 6 by omega]) hP hD hS (lv_sub hl (l' := [(1, .long hh), (0, .ref h0)]) [1, 2] rfl)
    · have c_1 := q_nle (a := 6) (b := i) (by omega) (by omega) c_1
      exact absurd hik (by omega)
  | succ k ih =>
    intro i hh H locs ls hik hv hP hD hS hl kk
    refine lv_iload_n hx hb dX10_digest_6 rfl (lv_at hl 0 rfl) ?_
    refine lv_bipush (v := 6) hx hb dX10_digest_7 (by decide) ?_
    refine lv_icmp_ge (tgt := 31) hx hb dX10_digest_9 (by decide) (fun c_1 => ?_) (fun c_1 => ?_)
    · have c_1 := q_le (a := 6) (b := i) (by omega) (by omega) c_1
      exact absurd hik (by omega)
    · have c_1 := q_nle (a := 6) (b := i) (by omega) (by omega) c_1
      refine lv_ldc2 (v := 31) hx hb hown (hts _ k_1534) dX10_digest_12 ?_
      refine lv_lload_n hx hb dX10_digest_15 rfl (lv_at hl 1 rfl) ?_
      refine lv_lmul hx hb dX10_digest_16 ?_
      refine lv_aload_n hx hb dX10_digest_17 rfl (lv_at hl 2 rfl) ?_
      refine lv_iload_n hx hb dX10_digest_18 rfl (lv_at hl 0 rfl) ?_
      refine q_ci (k := cells) (n := slots) hK hP hD hS hA (fun hPc hKc hDc => q_rV (As := [.int (nI i)]) (rest := [.long (31 * hh)]) hf (rm_count2 _ D h0 q cB cI cZ I F Es sl n mo lk (nI i) hI3 hre hI1 hI2 hI20 hlk _) k_1528 k_1535 k_1526 k_1527 k_98 (nA := 1) (by decide +kernel) ⟨Nat.le_trans (by decide) hRf, Nat.le_trans (by decide) hRl⟩ hK hP (ci := 11) (q0 := 0) rfl rfl rfl hPc hKc hDc (fun _ _ _ _ h => h) (fun _ _ _ => trivial) rfl hl.1 rfl (Nat.le_of_ble_eq_true rfl) dX10_digest_19 ⟨hRc, hRs⟩) (Nat.le_refl _) (Nat.le_refl _) (fun r u H locs hw hK hP hD hS => ?_)
      obtain ⟨rfl, rfl⟩ := hw
      have hP : va_P D vcl (mW h0 q cB cI cZ I F) H := hP
      have hD : va_D A (mW h0 q cB cI cZ I F) := hD
      refine lv_i2l (v := ((ctV n Es.length Es lk mo (nI i))).toInt64) hx hb dX10_digest_22 rfl ?_
      refine lv_ladd hx hb dX10_digest_23 ?_
      refine lv_lstore_n (lv' := [(1, .long ((31 * hh) + ((ctV n Es.length Es lk mo (nI i))).toInt64)), (3, .int (nI i)), (0, .ref h0)]) hx hb dX10_digest_24 rfl hl (by decide) rfl (fun ls hl => ?_)
      refine lv_iinc (v := (nI (i + 1))) (lv' := [(3, .int (nI (i + 1))), (1, .long ((31 * hh) + ((ctV n Es.length Es lk mo (nI i))).toInt64)), (0, .ref h0)]) hx hb dX10_digest_25 hl (k := 1) rfl (nI_add i 1) (by decide) rfl (fun ls hl => ?_)
      refine lv_goto (tgt := 6) hx hb dX10_digest_28 (by decide) ?_
      exact ih (i + 1) _  H locs ls (by omega) (by rw [hv]; rfl) hP hD hS (lv_sub hl (l' := [(3, .int (nI (i + 1))), (1, .long ((31 * hh) + ((ctV n Es.length Es lk mo (nI i))).toInt64)), (0, .ref h0)]) [0, 1, 2] rfl) kk
set_option maxHeartbeats 1000000 in
set_option maxRecDepth 100000 in
theorem ldg_c2 {p : Program} {l : Launch} {e : Env} {R : Room} {s : State} {m : MethodId} {args : Array Value} {below : List Frame} {meth : Method} {c : Code} {cells slots : Nat} {Q : State → Prop} {D : va_G} {A : Nat → Prop} {h0 : Nat} {q : Nat → Nat} {cB cI cZ : ClassId} {I : Nat → Int32} {F : Nat → Nat → Int32} {Es : List E5} {sl : Nat → Nat} {j : Nat} {hb0 : Int64} (hI3 : I 3 = nI Es.length) (hre : reR F Es sl) (hj : j < Es.length) (hRf : 1 ≤ R.frames) (hRl : 40 ≤ R.locals) (hRc : cells ≤ R.cells) (hRs : slots ≤ R.slots) (hA : ∀ q : Nat, s.heap.size ≤ q → A q) (hf : CallFix p m c cX10_digest 7 s args gT yX10_digest.cls) (hK : va_K D vcl (mT cB cI cZ) s) :
    ∀ (k : Nat) (i : Nat) (hh : Int64) (H : Heap) (locs : List Loc) (ls : Array Slot), i + k = 4 → hh = dgN (fun k => elV (Es.getD j dE) (nI k)) i hb0 →  va_P D vcl (mW h0 q cB cI cZ I F) H → va_D A (mW h0 q cB cI cZ I F) → va_S A s.heap H locs → lv_has ls 7 [(4, .int (nI i)), (3, .int (nI j)), (1, .long hh), (0, .ref h0)] →
    (∀ (hh : Int64) (H : Heap) (locs : List Loc) (ls : Array Slot), hh = dgN (fun k => elV (Es.getD j dE) (nI k)) 4 hb0 → va_P D vcl (mW h0 q cB cI cZ I F) H → va_D A (mW h0 q cB cI cZ I F) → va_S A s.heap H locs → lv_has ls 7 [(3, .int (nI j)), (1, .long hh), (0, .ref h0)] → W p l e R s m args below meth c H locs cells slots Q (F0 m 71 ls [])) →
    W p l e R s m args below meth c H locs cells slots Q (F0 m 44 ls []) := by
  obtain ⟨hx, hb, hml, hown, hts⟩ := id hf
  have hre1 := hre.1
  intro k
  induction k with
  | zero =>
    intro i hh H locs ls hik hv hP hD hS hl kk
    refine lv_iload hx hb dX10_digest_44 (lv_at hl 0 rfl) ?_
    refine lv_iconst (v := 4) hx hb dX10_digest_46 (by decide) ?_
    refine lv_icmp_ge (tgt := 71) hx hb dX10_digest_47 (by decide) (fun c_1 => ?_) (fun c_1 => ?_)
    · have c_1 := q_le (a := 4) (b := i) (by omega) (by omega) c_1
      exact kk hh  H locs ls (by rw [hv, show i = 4 by omega]) hP hD hS (lv_sub hl (l' := [(3, .int (nI j)), (1, .long hh), (0, .ref h0)]) [1, 2, 3] rfl)
    · have c_1 := q_nle (a := 4) (b := i) (by omega) (by omega) c_1
      exact absurd hik (by omega)
  | succ k ih =>
    intro i hh H locs ls hik hv hP hD hS hl kk
    refine lv_iload hx hb dX10_digest_44 (lv_at hl 0 rfl) ?_
    refine lv_iconst (v := 4) hx hb dX10_digest_46 (by decide) ?_
    refine lv_icmp_ge (tgt := 71) hx hb dX10_digest_47 (by decide) (fun c_1 => ?_) (fun c_1 => ?_)
    · have c_1 := q_le (a := 4) (b := i) (by omega) (by omega) c_1
      exact absurd hik (by omega)
    · have c_1 := q_nle (a := 4) (b := i) (by omega) (by omega) c_1
      refine lv_ldc2 (v := 31) hx hb hown (hts _ k_1534) dX10_digest_50 ?_
      refine lv_lload_n hx hb dX10_digest_53 rfl (lv_at hl 2 rfl) ?_
      refine lv_lmul hx hb dX10_digest_54 ?_
      refine lv_aload_n hx hb dX10_digest_55 rfl (lv_at hl 3 rfl) ?_
      refine lv_iload_n hx hb dX10_digest_56 rfl (lv_at hl 1 rfl) ?_
      refine lv_iload hx hb dX10_digest_57 (lv_at hl 0 rfl) ?_
      refine q_ci (k := cells) (n := slots) hK hP hD hS hA (fun hPc hKc hDc => q_rV (As := [.int (nI j), .int (nI i)]) (rest := [.long (31 * hh)]) hf (r_elementO2 _ D h0 q cB cI cZ I F Es sl j (nI i) hI3 hre (by omega) (nI_g0 (by omega)) (nI_l3 (by omega)) _) k_1375 k_1372 k_1374 k_60 k_98 (nA := 2) (by decide +kernel) ⟨Nat.le_trans (by decide) hRf, Nat.le_trans (by decide) hRl⟩ hK hP (ci := 11) (q0 := 0) rfl rfl rfl hPc hKc hDc (fun _ _ _ _ h => h) (fun _ _ _ => trivial) rfl hl.1 rfl (Nat.le_of_ble_eq_true rfl) dX10_digest_59 ⟨hRc, hRs⟩) (Nat.le_refl _) (Nat.le_refl _) (fun r u H locs hw hK hP hD hS => ?_)
      obtain ⟨rfl, rfl⟩ := hw
      have hP : va_P D vcl (mW h0 q cB cI cZ I F) H := hP
      have hD : va_D A (mW h0 q cB cI cZ I F) := hD
      refine lv_i2l (v := ((elV (Es.getD j dE) (nI i))).toInt64) hx hb dX10_digest_62 rfl ?_
      refine lv_ladd hx hb dX10_digest_63 ?_
      refine lv_lstore_n (lv' := [(1, .long ((31 * hh) + ((elV (Es.getD j dE) (nI i))).toInt64)), (4, .int (nI i)), (3, .int (nI j)), (0, .ref h0)]) hx hb dX10_digest_64 rfl hl (by decide) rfl (fun ls hl => ?_)
      refine lv_iinc (v := (nI (i + 1))) (lv' := [(4, .int (nI (i + 1))), (1, .long ((31 * hh) + ((elV (Es.getD j dE) (nI i))).toInt64)), (3, .int (nI j)), (0, .ref h0)]) hx hb dX10_digest_65 hl (k := 1) rfl (nI_add i 1) (by decide) rfl (fun ls hl => ?_)
      refine lv_goto (tgt := 44) hx hb dX10_digest_68 (by decide) ?_
      exact ih (i + 1) _  H locs ls (by omega) (by rw [hv]; rfl) hP hD hS (lv_sub hl (l' := [(4, .int (nI (i + 1))), (3, .int (nI j)), (1, .long ((31 * hh) + ((elV (Es.getD j dE) (nI i))).toInt64)), (0, .ref h0)]) [0, 2, 1, 3] rfl) kk
set_option maxHeartbeats 1000000 in
set_option maxRecDepth 100000 in
theorem ldg_e2 {p : Program} {l : Launch} {e : Env} {R : Room} {s : State} {m : MethodId} {args : Array Value} {below : List Frame} {meth : Method} {c : Code} {cells slots : Nat} {Q : State → Prop} {D : va_G} {A : Nat → Prop} {h0 : Nat} {q : Nat → Nat} {cB cI cZ : ClassId} {I : Nat → Int32} {F : Nat → Nat → Int32} {Es : List E5} {sl : Nat → Nat} {j r1 : Nat} {hb0 : Int64} (hI3 : I 3 = nI Es.length) (hre : reR F Es sl) (hj : j < Es.length) (hr1 : r1 < eRw (Es.getD j dE)) (hRf : 1 ≤ R.frames) (hRl : 40 ≤ R.locals) (hRc : cells ≤ R.cells) (hRs : slots ≤ R.slots) (hA : ∀ q : Nat, s.heap.size ≤ q → A q) (hf : CallFix p m c cX10_digest 7 s args gT yX10_digest.cls) (hK : va_K D vcl (mT cB cI cZ) s) :
    ∀ (k : Nat) (i : Nat) (hh : Int64) (H : Heap) (locs : List Loc) (ls : Array Slot), i + k = (rwAt (Es.getD j dE) r1).2 → hh = dgN (dgB (Es.getD j dE) r1) i hb0 →  va_P D vcl (mW h0 q cB cI cZ I F) H → va_D A (mW h0 q cB cI cZ I F) → va_S A s.heap H locs → lv_has ls 7 [(6, .int (nI i)), (5, .int (nI r1)), (4, .int (nI ((sl j)))), (3, .int (nI j)), (1, .long hh), (0, .ref h0)] →
    (∀ (hh : Int64) (H : Heap) (locs : List Loc) (ls : Array Slot), hh = dgN (dgB (Es.getD j dE) r1) (rwAt (Es.getD j dE) r1).2 hb0 → va_P D vcl (mW h0 q cB cI cZ I F) H → va_D A (mW h0 q cB cI cZ I F) → va_S A s.heap H locs → lv_has ls 7 [(5, .int (nI r1)), (4, .int (nI ((sl j)))), (3, .int (nI j)), (1, .long hh), (0, .ref h0)] → W p l e R s m args below meth c H locs cells slots Q (F0 m 159 ls [])) →
    W p l e R s m args below meth c H locs cells slots Q (F0 m 97 ls []) := by
  obtain ⟨hx, hb, hml, hown, hts⟩ := id hf
  have hre1 := hre.1
  have hslj := (hre.2.1 j hj).2.1
  have hrwj := elF_rw (hre.2.1 j hj).2.2
  have htl := (hre.2.1 j hj).2.2.2.2.2.2.2.1
  have hrin := rwAt_in (x := Es.getD j dE) hr1
  intro k
  induction k with
  | zero =>
    intro i hh H locs ls hik hv hP hD hS hl kk
    refine lv_iload hx hb dX10_digest_97 (lv_at hl 0 rfl) ?_
    refine lv_aload_n hx hb dX10_digest_99 rfl (lv_at hl 5 rfl) ?_
    refine va_get (D := D) (ci := 11) (v := .ref (q 13)) (C := RX10) (T := TX10) (N := 48) hx hb hts inX10 hown hK hP 0 rfl rfl 13 (by decide) (hts _ k_1157) (fun _ h9 => h9) rfl dX10_digest_100 ?_
    refine lv_sipush (v := 131) hx hb dX10_digest_103 (by decide) ?_
    refine lv_iload hx hb dX10_digest_106 (lv_at hl 2 rfl) ?_
    refine lv_imul hx hb dX10_digest_108 ?_
    refine q_seti (y := nI (131 * ((sl j)))) (pk_mul 131 ((sl j))) ?_
    refine lv_iload hx hb dX10_digest_109 (lv_at hl 1 rfl) ?_
    refine lv_iadd hx hb dX10_digest_111 ?_
    refine q_seti (y := nI ((131 * ((sl j))) + r1)) (nI_add (131 * ((sl j))) r1) ?_
    refine q_ild (X := (131 * ((sl j))) + r1) (f := (F 13)) hx hb hK hP 11 1 rfl rfl (by omega) (by decide) dX10_digest_112 ?_
    refine q_seti (y := (nI ((rwAt (Es.getD j dE) r1).2))) (tx_rv_at (hre.2.1 j hj).2.2.2.2.2.2.2.2.2.2.1 r1 hr1).2 ?_
    refine lv_icmp_ge (tgt := 159) hx hb dX10_digest_113 (by decide) (fun c_1 => ?_) (fun c_1 => ?_)
    · have c_1 := q_le (a := (rwAt (Es.getD j dE) r1).2) (b := i) (by omega) (by omega) c_1
      exact kk hh  H locs ls (by rw [hv, show i = (rwAt (Es.getD j dE) r1).2 by omega]) hP hD hS (lv_sub hl (l' := [(5, .int (nI r1)), (4, .int (nI ((sl j)))), (3, .int (nI j)), (1, .long hh), (0, .ref h0)]) [1, 2, 3, 4, 5] rfl)
    · have c_1 := q_nle (a := (rwAt (Es.getD j dE) r1).2) (b := i) (by omega) (by omega) c_1
      exact absurd hik (by omega)
  | succ k ih =>
    intro i hh H locs ls hik hv hP hD hS hl kk
    refine lv_iload hx hb dX10_digest_97 (lv_at hl 0 rfl) ?_
    refine lv_aload_n hx hb dX10_digest_99 rfl (lv_at hl 5 rfl) ?_
    refine va_get (D := D) (ci := 11) (v := .ref (q 13)) (C := RX10) (T := TX10) (N := 48) hx hb hts inX10 hown hK hP 0 rfl rfl 13 (by decide) (hts _ k_1157) (fun _ h9 => h9) rfl dX10_digest_100 ?_
    refine lv_sipush (v := 131) hx hb dX10_digest_103 (by decide) ?_
    refine lv_iload hx hb dX10_digest_106 (lv_at hl 2 rfl) ?_
    refine lv_imul hx hb dX10_digest_108 ?_
    refine q_seti (y := nI (131 * ((sl j)))) (pk_mul 131 ((sl j))) ?_
    refine lv_iload hx hb dX10_digest_109 (lv_at hl 1 rfl) ?_
    refine lv_iadd hx hb dX10_digest_111 ?_
    refine q_seti (y := nI ((131 * ((sl j))) + r1)) (nI_add (131 * ((sl j))) r1) ?_
    refine q_ild (X := (131 * ((sl j))) + r1) (f := (F 13)) hx hb hK hP 11 1 rfl rfl (by omega) (by decide) dX10_digest_112 ?_
    refine q_seti (y := (nI ((rwAt (Es.getD j dE) r1).2))) (tx_rv_at (hre.2.1 j hj).2.2.2.2.2.2.2.2.2.2.1 r1 hr1).2 ?_
    refine lv_icmp_ge (tgt := 159) hx hb dX10_digest_113 (by decide) (fun c_1 => ?_) (fun c_1 => ?_)
    · have c_1 := q_le (a := (rwAt (Es.getD j dE) r1).2) (b := i) (by omega) (by omega) c_1
      exact absurd hik (by omega)
    · have c_1 := q_nle (a := (rwAt (Es.getD j dE) r1).2) (b := i) (by omega) (by omega) c_1
      refine lv_ldc2 (v := 31) hx hb hown (hts _ k_1534) dX10_digest_116 ?_
      refine lv_lload_n hx hb dX10_digest_119 rfl (lv_at hl 4 rfl) ?_
      refine lv_lmul hx hb dX10_digest_120 ?_
      refine lv_aload_n hx hb dX10_digest_121 rfl (lv_at hl 5 rfl) ?_
      refine va_get (D := D) (ci := 11) (v := .ref (q 10)) (C := RX10) (T := TX10) (N := 48) hx hb hts inX10 hown hK hP 0 rfl rfl 10 (by decide) (hts _ k_1154) (fun _ h9 => h9) rfl dX10_digest_122 ?_
      refine lv_sipush (v := 1200) hx hb dX10_digest_125 (by decide) ?_
      refine lv_iload hx hb dX10_digest_128 (lv_at hl 2 rfl) ?_
      refine lv_imul hx hb dX10_digest_130 ?_
      refine q_seti (y := nI (1200 * ((sl j)))) (pk_mul 1200 ((sl j))) ?_
      refine lv_aload_n hx hb dX10_digest_131 rfl (lv_at hl 5 rfl) ?_
      refine va_get (D := D) (ci := 11) (v := .ref (q 12)) (C := RX10) (T := TX10) (N := 48) hx hb hts inX10 hown hK hP 0 rfl rfl 12 (by decide) (hts _ k_1156) (fun _ h9 => h9) rfl dX10_digest_132 ?_
      refine lv_sipush (v := 131) hx hb dX10_digest_135 (by decide) ?_
      refine lv_iload hx hb dX10_digest_138 (lv_at hl 2 rfl) ?_
      refine lv_imul hx hb dX10_digest_140 ?_
      refine q_seti (y := nI (131 * ((sl j)))) (pk_mul 131 ((sl j))) ?_
      refine lv_iload hx hb dX10_digest_141 (lv_at hl 1 rfl) ?_
      refine lv_iadd hx hb dX10_digest_143 ?_
      refine q_seti (y := nI ((131 * ((sl j))) + r1)) (nI_add (131 * ((sl j))) r1) ?_
      refine q_ild (X := (131 * ((sl j))) + r1) (f := (F 12)) hx hb hK hP 10 1 rfl rfl (by omega) (by decide) dX10_digest_144 ?_
      refine q_seti (y := (nI ((rwAt (Es.getD j dE) r1).1))) (tx_rv_at (hre.2.1 j hj).2.2.2.2.2.2.2.2.2.2.1 r1 hr1).1 ?_
      refine lv_iadd hx hb dX10_digest_145 ?_
      refine q_seti (y := nI ((1200 * ((sl j))) + ((rwAt (Es.getD j dE) r1).1))) (nI_add (1200 * ((sl j))) ((rwAt (Es.getD j dE) r1).1)) ?_
      refine lv_iload hx hb dX10_digest_146 (lv_at hl 0 rfl) ?_
      refine lv_iadd hx hb dX10_digest_148 ?_
      refine q_seti (y := nI (((1200 * ((sl j))) + ((rwAt (Es.getD j dE) r1).1)) + i)) (nI_add ((1200 * ((sl j))) + ((rwAt (Es.getD j dE) r1).1)) i) ?_
      refine q_bld (X := ((1200 * ((sl j))) + ((rwAt (Es.getD j dE) r1).1)) + i) (f := (F 10)) hx hb hK hP 8 0 rfl rfl (by omega) (by decide) dX10_digest_149 ?_
      refine q_seti (y := (dgB (Es.getD j dE) r1 i)) (dg_tx (hre.2.1 j hj).2.2.2.2.2.2.2.2.1 (by omega)) ?_
      refine lv_i2l (v := ((dgB (Es.getD j dE) r1 i)).toInt64) hx hb dX10_digest_150 rfl ?_
      refine lv_ladd hx hb dX10_digest_151 ?_
      refine lv_lstore_n (lv' := [(1, .long ((31 * hh) + ((dgB (Es.getD j dE) r1 i)).toInt64)), (6, .int (nI i)), (5, .int (nI r1)), (4, .int (nI ((sl j)))), (3, .int (nI j)), (0, .ref h0)]) hx hb dX10_digest_152 rfl hl (by decide) rfl (fun ls hl => ?_)
      refine lv_iinc (v := (nI (i + 1))) (lv' := [(6, .int (nI (i + 1))), (1, .long ((31 * hh) + ((dgB (Es.getD j dE) r1 i)).toInt64)), (5, .int (nI r1)), (4, .int (nI ((sl j)))), (3, .int (nI j)), (0, .ref h0)]) hx hb dX10_digest_153 hl (k := 1) rfl (nI_add i 1) (by decide) rfl (fun ls hl => ?_)
      refine lv_goto (tgt := 97) hx hb dX10_digest_156 (by decide) ?_
      exact ih (i + 1) _  H locs ls (by omega) (by rw [hv]; rfl) hP hD hS (lv_sub hl (l' := [(6, .int (nI (i + 1))), (5, .int (nI r1)), (4, .int (nI ((sl j)))), (3, .int (nI j)), (1, .long ((31 * hh) + ((dgB (Es.getD j dE) r1 i)).toInt64)), (0, .ref h0)]) [0, 2, 3, 4, 1, 5] rfl) kk
set_option maxHeartbeats 1000000 in
set_option maxRecDepth 100000 in
theorem ldg_d2 {p : Program} {l : Launch} {e : Env} {R : Room} {s : State} {m : MethodId} {args : Array Value} {below : List Frame} {meth : Method} {c : Code} {cells slots : Nat} {Q : State → Prop} {D : va_G} {A : Nat → Prop} {h0 : Nat} {q : Nat → Nat} {cB cI cZ : ClassId} {I : Nat → Int32} {F : Nat → Nat → Int32} {Es : List E5} {sl : Nat → Nat} {j : Nat} {hb0 : Int64} (hI3 : I 3 = nI Es.length) (hre : reR F Es sl) (hj : j < Es.length) (hRf : 1 ≤ R.frames) (hRl : 40 ≤ R.locals) (hRc : cells ≤ R.cells) (hRs : slots ≤ R.slots) (hA : ∀ q : Nat, s.heap.size ≤ q → A q) (hf : CallFix p m c cX10_digest 7 s args gT yX10_digest.cls) (hK : va_K D vcl (mT cB cI cZ) s) :
    ∀ (k : Nat) (r1 : Nat) (hh : Int64) (H : Heap) (locs : List Loc) (ls : Array Slot), r1 + k = eRw (Es.getD j dE) → hh = dgR (Es.getD j dE) r1 hb0 →  va_P D vcl (mW h0 q cB cI cZ I F) H → va_D A (mW h0 q cB cI cZ I F) → va_S A s.heap H locs → lv_has ls 7 [(5, .int (nI r1)), (4, .int (nI ((sl j)))), (3, .int (nI j)), (1, .long hh), (0, .ref h0)] →
    (∀ (hh : Int64) (H : Heap) (locs : List Loc) (ls : Array Slot), hh = dgR (Es.getD j dE) (eRw (Es.getD j dE)) hb0 → va_P D vcl (mW h0 q cB cI cZ I F) H → va_D A (mW h0 q cB cI cZ I F) → va_S A s.heap H locs → lv_has ls 7 [(3, .int (nI j)), (1, .long hh), (0, .ref h0)] → W p l e R s m args below meth c H locs cells slots Q (F0 m 165 ls [])) →
    W p l e R s m args below meth c H locs cells slots Q (F0 m 82 ls []) := by
  obtain ⟨hx, hb, hml, hown, hts⟩ := id hf
  have hre1 := hre.1
  have hslj := (hre.2.1 j hj).2.1
  have hrwj := elF_rw (hre.2.1 j hj).2.2
  have htl := (hre.2.1 j hj).2.2.2.2.2.2.2.1
  intro k
  induction k with
  | zero =>
    intro r1 hh H locs ls hik hv hP hD hS hl kk
    refine lv_iload hx hb dX10_digest_82 (lv_at hl 0 rfl) ?_
    refine lv_aload_n hx hb dX10_digest_84 rfl (lv_at hl 4 rfl) ?_
    refine va_get (D := D) (ci := 11) (v := .ref (q 11)) (C := RX10) (T := TX10) (N := 48) hx hb hts inX10 hown hK hP 0 rfl rfl 11 (by decide) (hts _ k_1155) (fun _ h9 => h9) rfl dX10_digest_85 ?_
    refine lv_iload hx hb dX10_digest_88 (lv_at hl 1 rfl) ?_
    refine q_ild (X := (sl j)) (f := (F 11)) hx hb hK hP 9 1 rfl rfl (by omega) (by decide) dX10_digest_90 ?_
    refine q_seti (y := (nI (eRw (Es.getD j dE)))) (hre.2.1 j (by omega)).2.2.2.2.2.2.2.2.2.1 ?_
    refine lv_icmp_ge (tgt := 165) hx hb dX10_digest_91 (by decide) (fun c_1 => ?_) (fun c_1 => ?_)
    · have c_1 := q_le (a := eRw (Es.getD j dE)) (b := r1) (by omega) (by omega) c_1
      exact kk hh  H locs ls (by rw [hv, show r1 = eRw (Es.getD j dE) by omega]) hP hD hS (lv_sub hl (l' := [(3, .int (nI j)), (1, .long hh), (0, .ref h0)]) [2, 3, 4] rfl)
    · have c_1 := q_nle (a := eRw (Es.getD j dE)) (b := r1) (by omega) (by omega) c_1
      exact absurd hik (by omega)
  | succ k ih =>
    intro r1 hh H locs ls hik hv hP hD hS hl kk
    refine lv_iload hx hb dX10_digest_82 (lv_at hl 0 rfl) ?_
    refine lv_aload_n hx hb dX10_digest_84 rfl (lv_at hl 4 rfl) ?_
    refine va_get (D := D) (ci := 11) (v := .ref (q 11)) (C := RX10) (T := TX10) (N := 48) hx hb hts inX10 hown hK hP 0 rfl rfl 11 (by decide) (hts _ k_1155) (fun _ h9 => h9) rfl dX10_digest_85 ?_
    refine lv_iload hx hb dX10_digest_88 (lv_at hl 1 rfl) ?_
    refine q_ild (X := (sl j)) (f := (F 11)) hx hb hK hP 9 1 rfl rfl (by omega) (by decide) dX10_digest_90 ?_
    refine q_seti (y := (nI (eRw (Es.getD j dE)))) (hre.2.1 j (by omega)).2.2.2.2.2.2.2.2.2.1 ?_
    refine lv_icmp_ge (tgt := 165) hx hb dX10_digest_91 (by decide) (fun c_1 => ?_) (fun c_1 => ?_)
    · have c_1 := q_le (a := eRw (Es.getD j dE)) (b := r1) (by omega) (by omega) c_1
      exact absurd hik (by omega)
    · have c_1 := q_nle (a := eRw (Es.getD j dE)) (b := r1) (by omega) (by omega) c_1
      refine lv_iconst (v := 0) hx hb dX10_digest_94 (by decide) ?_
      refine lv_istore (lv' := [(6, .int 0), (5, .int (nI r1)), (4, .int (nI ((sl j)))), (3, .int (nI j)), (1, .long hh), (0, .ref h0)]) hx hb dX10_digest_95 hl (by decide) rfl (fun ls hl => ?_)
      refine ldg_e2 (Es := Es) (sl := sl) (j := j) (r1 := r1) (hb0 := hh) hI3 hre hj (by omega) (Nat.le_trans (by decide) hRf) (Nat.le_trans (by decide) hRl) hRc hRs hA hf hK _ 0 _ _ _ ls (Nat.zero_add _) rfl hP hD hS (lv_sub hl (l' := [(6, .int 0), (5, .int (nI r1)), (4, .int (nI ((sl j)))), (3, .int (nI j)), (1, .long hh), (0, .ref h0)]) [0, 1, 2, 3, 4, 5] rfl) (fun hh2 H locs ls hv2 hP hD hS hl => ?_)
      refine lv_iinc (v := (nI (r1 + 1))) (lv' := [(5, .int (nI (r1 + 1))), (4, .int (nI ((sl j)))), (3, .int (nI j)), (1, .long hh2), (0, .ref h0)]) hx hb dX10_digest_159 hl (k := 0) rfl (nI_add r1 1) (by decide) rfl (fun ls hl => ?_)
      refine lv_goto (tgt := 82) hx hb dX10_digest_162 (by decide) ?_
      exact ih (r1 + 1) _  H locs ls (by omega) (by rw [hv2, hv]; rfl) hP hD hS (lv_sub hl (l' := [(5, .int (nI (r1 + 1))), (4, .int (nI ((sl j)))), (3, .int (nI j)), (1, .long hh2), (0, .ref h0)]) [0, 1, 2, 3, 4] rfl) kk
set_option maxHeartbeats 1000000 in
set_option maxRecDepth 100000 in
theorem ldg_b2 {p : Program} {l : Launch} {e : Env} {R : Room} {s : State} {m : MethodId} {args : Array Value} {below : List Frame} {meth : Method} {c : Code} {cells slots : Nat} {Q : State → Prop} {D : va_G} {A : Nat → Prop} {h0 : Nat} {q : Nat → Nat} {cB cI cZ : ClassId} {I : Nat → Int32} {F : Nat → Nat → Int32} {Es : List E5} {sl : Nat → Nat} {hb0 : Int64} (hI3 : I 3 = nI Es.length) (hre : reR F Es sl) (hRf : 1 ≤ R.frames) (hRl : 40 ≤ R.locals) (hRc : cells ≤ R.cells) (hRs : slots ≤ R.slots) (hA : ∀ q : Nat, s.heap.size ≤ q → A q) (hf : CallFix p m c cX10_digest 7 s args gT yX10_digest.cls) (hK : va_K D vcl (mT cB cI cZ) s) :
    ∀ (k : Nat) (j : Nat) (hh : Int64) (H : Heap) (locs : List Loc) (ls : Array Slot), j + k = Es.length → hh = dgE Es j hb0 →  va_P D vcl (mW h0 q cB cI cZ I F) H → va_D A (mW h0 q cB cI cZ I F) → va_S A s.heap H locs → lv_has ls 7 [(3, .int (nI j)), (1, .long hh), (0, .ref h0)] →
    (∀ (hh : Int64) (H : Heap) (locs : List Loc) (ls : Array Slot), hh = dgE Es Es.length hb0 → va_P D vcl (mW h0 q cB cI cZ I F) H → va_D A (mW h0 q cB cI cZ I F) → va_S A s.heap H locs → lv_has ls 7 [(1, .long hh), (0, .ref h0)] → W p l e R s m args below meth c H locs cells slots Q (F0 m 171 ls [])) →
    W p l e R s m args below meth c H locs cells slots Q (F0 m 33 ls []) := by
  obtain ⟨hx, hb, hml, hown, hts⟩ := id hf
  have hre1 := hre.1
  intro k
  induction k with
  | zero =>
    intro j hh H locs ls hik hv hP hD hS hl kk
    refine lv_iload_n hx hb dX10_digest_33 rfl (lv_at hl 0 rfl) ?_
    refine lv_aload_n hx hb dX10_digest_34 rfl (lv_at hl 2 rfl) ?_
    refine va_get (D := D) (ci := 11) (v := .int (I 3)) (C := RX10) (T := TX10) (N := 48) hx hb hts inX10 hown hK hP 0 rfl rfl 3 (by decide) (hts _ k_1147) (fun _ h9 => h9) rfl dX10_digest_35 ?_
    refine q_seti (y := (nI (Es.length))) hI3 ?_
    refine lv_icmp_ge (tgt := 171) hx hb dX10_digest_38 (by decide) (fun c_1 => ?_) (fun c_1 => ?_)
    · have c_1 := q_le (a := Es.length) (b := j) (by omega) (by omega) c_1
      exact kk hh  H locs ls (by rw [hv, show j = Es.length by omega]) hP hD hS (lv_sub hl (l' := [(1, .long hh), (0, .ref h0)]) [1, 2] rfl)
    · have c_1 := q_nle (a := Es.length) (b := j) (by omega) (by omega) c_1
      exact absurd hik (by omega)
  | succ k ih =>
    intro j hh H locs ls hik hv hP hD hS hl kk
    refine lv_iload_n hx hb dX10_digest_33 rfl (lv_at hl 0 rfl) ?_
    refine lv_aload_n hx hb dX10_digest_34 rfl (lv_at hl 2 rfl) ?_
    refine va_get (D := D) (ci := 11) (v := .int (I 3)) (C := RX10) (T := TX10) (N := 48) hx hb hts inX10 hown hK hP 0 rfl rfl 3 (by decide) (hts _ k_1147) (fun _ h9 => h9) rfl dX10_digest_35 ?_
    refine q_seti (y := (nI (Es.length))) hI3 ?_
    refine lv_icmp_ge (tgt := 171) hx hb dX10_digest_38 (by decide) (fun c_1 => ?_) (fun c_1 => ?_)
    · have c_1 := q_le (a := Es.length) (b := j) (by omega) (by omega) c_1
      exact absurd hik (by omega)
    · have c_1 := q_nle (a := Es.length) (b := j) (by omega) (by omega) c_1
      have hslj := (hre.2.1 j (by omega)).2.1
      refine lv_iconst (v := 0) hx hb dX10_digest_41 (by decide) ?_
      refine lv_istore (lv' := [(4, .int 0), (3, .int (nI j)), (1, .long hh), (0, .ref h0)]) hx hb dX10_digest_42 hl (by decide) rfl (fun ls hl => ?_)
      refine ldg_c2 (Es := Es) (sl := sl) (j := j) (hb0 := hh) hI3 hre (by omega) (Nat.le_trans (by decide) hRf) (Nat.le_trans (by decide) hRl) hRc hRs hA hf hK 4 0 _ _ _ ls (by omega) rfl hP hD hS (lv_sub hl (l' := [(4, .int 0), (3, .int (nI j)), (1, .long hh), (0, .ref h0)]) [0, 1, 2, 3] rfl) (fun hh2 H locs ls hv2 hP hD hS hl => ?_)
      refine lv_aload_n hx hb dX10_digest_71 rfl (lv_at hl 2 rfl) ?_
      refine va_get (D := D) (ci := 11) (v := .ref (q 4)) (C := RX10) (T := TX10) (N := 48) hx hb hts inX10 hown hK hP 0 rfl rfl 4 (by decide) (hts _ k_1148) (fun _ h9 => h9) rfl dX10_digest_72 ?_
      refine lv_iload_n hx hb dX10_digest_75 rfl (lv_at hl 0 rfl) ?_
      refine q_ild (X := j) (f := (F 4)) hx hb hK hP 2 1 rfl rfl (by omega) (by decide) dX10_digest_76 ?_
      refine q_seti (y := (nI ((sl j)))) (hre.2.1 j (by omega)).1 ?_
      refine lv_istore (lv' := [(4, .int (nI ((sl j)))), (3, .int (nI j)), (1, .long hh2), (0, .ref h0)]) hx hb dX10_digest_77 hl (by decide) rfl (fun ls hl => ?_)
      refine lv_iconst (v := 0) hx hb dX10_digest_79 (by decide) ?_
      refine lv_istore (lv' := [(5, .int 0), (4, .int (nI ((sl j)))), (3, .int (nI j)), (1, .long hh2), (0, .ref h0)]) hx hb dX10_digest_80 hl (by decide) rfl (fun ls hl => ?_)
      refine ldg_d2 (Es := Es) (sl := sl) (j := j) (hb0 := hh2) hI3 hre (by omega) (Nat.le_trans (by decide) hRf) (Nat.le_trans (by decide) hRl) hRc hRs hA hf hK _ 0 _ _ _ ls (Nat.zero_add _) rfl hP hD hS (lv_sub hl (l' := [(5, .int 0), (4, .int (nI ((sl j)))), (3, .int (nI j)), (1, .long hh2), (0, .ref h0)]) [0, 1, 2, 3, 4] rfl) (fun hh3 H locs ls hv3 hP hD hS hl => ?_)
      refine lv_iinc (v := (nI (j + 1))) (lv' := [(3, .int (nI (j + 1))), (1, .long hh3), (0, .ref h0)]) hx hb dX10_digest_165 hl (k := 0) rfl (nI_add j 1) (by decide) rfl (fun ls hl => ?_)
      refine lv_goto (tgt := 33) hx hb dX10_digest_168 (by decide) ?_
      exact ih (j + 1) _  H locs ls (by omega) (by rw [hv3, hv2, hv]; rfl) hP hD hS (lv_sub hl (l' := [(3, .int (nI (j + 1))), (1, .long hh3), (0, .ref h0)]) [0, 1, 2] rfl) kk
set_option maxHeartbeats 1000000 in
set_option maxRecDepth 100000 in
theorem ldg_h2 {p : Program} {l : Launch} {e : Env} {R : Room} {s : State} {m : MethodId} {args : Array Value} {below : List Frame} {meth : Method} {c : Code} {cells slots : Nat} {Q : State → Prop} {D : va_G} {A : Nat → Prop} {h0 : Nat} {q : Nat → Nat} {cB cI cZ : ClassId} {I : Nat → Int32} {F : Nat → Nat → Int32} {pn lk gs : Nat} {pe sl : Nat → Nat} {K : Nat → Int32} {Fm To Rr : Nat → Nat} {mo : Nat} {Gp : Nat → Nat} {g1 ns : Nat} {hb0 : Int64} (hpv : rp_ok F pn pe sl K Fm To Rr) (hI2 : I 2 = nI mo) (hI14 : I 14 = nI pn) (hI20 : I 20 = nI lk) (hI19 : 0 < lk → I 19 = nI gs) (hlk : lk ≤ 1) (hgs : gs ≤ 8000) (hmo1 : 10 ≤ mo) (hmo : mo ≤ 40) (hSS : rs_S Fm To pn ≤ 8000) (hG : ∀ p, p < pn → F 18 p = nI (Gp p) ∧ Gp p ≤ 8000) (hnc : ∀ g, rs_num K Fm To Rr Gp pn mo g ≤ 8000) (hlk0 : 0 < lk) (hg1 : g1 < gs) (hns : ns = rs_nm K Fm To Rr Gp pn mo g1) (hRf : 5 ≤ R.frames) (hRl : 170 ≤ R.locals) (hRc : cells ≤ R.cells) (hRs : slots ≤ R.slots) (hA : ∀ q : Nat, s.heap.size ≤ q → A q) (hf : CallFix p m c cX10_digest 7 s args gT yX10_digest.cls) (hK : va_K D vcl (mT cB cI cZ) s) :
    ∀ (k : Nat) (i : Nat) (hh : Int64) (v25 : Int32) (v26 : Int32) (v27 : Int32) (H : Heap) (locs : List Loc) (ls : Array Slot), i + k = ns → hh = dgS ((rs_L K Fm To Rr Gp pn mo) g1) i hb0 →  va_P D vcl (mW h0 q cB cI cZ (upd (upd (upd I 25 v25) 26 v26) 27 v27) F) H → va_D A (mW h0 q cB cI cZ (upd (upd (upd I 25 v25) 26 v26) 27 v27) F) → va_S A s.heap H locs → lv_has ls 7 [(5, .int (nI i)), (4, .int (nI ns)), (3, .int (nI g1)), (1, .long hh), (0, .ref h0)] →
    (∀ (hh : Int64) (v25 : Int32) (v26 : Int32) (v27 : Int32) (H : Heap) (locs : List Loc) (ls : Array Slot), hh = dgS ((rs_L K Fm To Rr Gp pn mo) g1) ns hb0 → va_P D vcl (mW h0 q cB cI cZ (upd (upd (upd I 25 v25) 26 v26) 27 v27) F) H → va_D A (mW h0 q cB cI cZ (upd (upd (upd I 25 v25) 26 v26) 27 v27) F) → va_S A s.heap H locs → lv_has ls 7 [(3, .int (nI g1)), (1, .long hh), (0, .ref h0)] → W p l e R s m args below meth c H locs cells slots Q (F0 m 275 ls [])) →
    W p l e R s m args below meth c H locs cells slots Q (F0 m 232 ls []) := by
  obtain ⟨hx, hb, hml, hown, hts⟩ := id hf
  have hpn8 := hpv.1
  have hns8 : ns ≤ 8000 := by
    have h9 := hnc g1
    rw [hns]; unfold rs_nm; split <;> omega
  intro k
  induction k with
  | zero =>
    intro i hh v25 v26 v27 H locs ls hik hv hP hD hS hl kk
    refine lv_iload hx hb dX10_digest_232 (lv_at hl 0 rfl) ?_
    refine lv_iload hx hb dX10_digest_234 (lv_at hl 1 rfl) ?_
    refine lv_icmp_ge (tgt := 275) hx hb dX10_digest_236 (by decide) (fun c_1 => ?_) (fun c_1 => ?_)
    · have c_1 := q_le (a := ns) (b := i) (by omega) (by omega) c_1
      exact kk hh v25 v26 v27 H locs ls (by rw [hv, show i = ns by omega]) hP hD hS (lv_sub hl (l' := [(3, .int (nI g1)), (1, .long hh), (0, .ref h0)]) [2, 3, 4] rfl)
    · have c_1 := q_nle (a := ns) (b := i) (by omega) (by omega) c_1
      exact absurd hik (by omega)
  | succ k ih =>
    intro i hh v25 v26 v27 H locs ls hik hv hP hD hS hl kk
    refine lv_iload hx hb dX10_digest_232 (lv_at hl 0 rfl) ?_
    refine lv_iload hx hb dX10_digest_234 (lv_at hl 1 rfl) ?_
    refine lv_icmp_ge (tgt := 275) hx hb dX10_digest_236 (by decide) (fun c_1 => ?_) (fun c_1 => ?_)
    · have c_1 := q_le (a := ns) (b := i) (by omega) (by omega) c_1
      exact absurd hik (by omega)
    · have c_1 := q_nle (a := ns) (b := i) (by omega) (by omega) c_1
      have hsn : i < rs_nm K Fm To Rr Gp pn mo g1 := by rw [← hns]; omega
      refine lv_ldc2 (v := 31) hx hb hown (hts _ k_1534) dX10_digest_239 ?_
      refine lv_ldc2 (v := 31) hx hb hown (hts _ k_1534) dX10_digest_242 ?_
      refine lv_lload_n hx hb dX10_digest_245 rfl (lv_at hl 3 rfl) ?_
      refine lv_lmul hx hb dX10_digest_246 ?_
      refine lv_aload_n hx hb dX10_digest_247 rfl (lv_at hl 4 rfl) ?_
      refine lv_iload_n hx hb dX10_digest_248 rfl (lv_at hl 2 rfl) ?_
      refine lv_iload hx hb dX10_digest_249 (lv_at hl 0 rfl) ?_
      refine lv_iconst (v := 0) hx hb dX10_digest_251 (by decide) ?_
      refine q_ci (k := cells) (n := slots) hK hP hD hS hA (fun hPc hKc hDc => q_rV (As := [.int (nI g1), .int (nI i), .int 0]) (rest := [.long (31 * hh), .long 31]) hf (r_sheetO2 _ D h0 q cB cI cZ (upd (upd (upd I 25 v25) 26 v26) 27 v27) F pn pe sl K Fm To Rr mo Gp g1 i 0 hpv hI2 hI14 hmo1 hmo hSS hG (by omega) hnc hsn (by decide) _) k_1471 k_1468 k_1470 k_75 k_98 (nA := 3) (by decide +kernel) ⟨Nat.le_trans (by decide) hRf, Nat.le_trans (by decide) hRl⟩ hK hP (ci := 11) (q0 := 0) rfl rfl rfl hPc hKc hDc (fun _ _ _ _ h => h) (fun _ _ _ => trivial) rfl hl.1 rfl (Nat.le_of_ble_eq_true rfl) dX10_digest_252 ⟨hRc, hRs⟩) (Nat.le_refl _) (Nat.le_refl _) (fun r u H locs hw hK hP hD hS => ?_)
      obtain ⟨u_2, u_3, u_4, hr8, rfl⟩ := hw
      rw [stV_p0] at hr8
      obtain rfl := hr8
      have hP : va_P D vcl (mW h0 q cB cI cZ (upd (upd (upd I 25 u_2) 26 u_3) 27 u_4) F) H := hP
      have hD : va_D A (mW h0 q cB cI cZ (upd (upd (upd I 25 u_2) 26 u_3) 27 u_4) F) := hD
      refine lv_i2l (v := (((rs_L K Fm To Rr Gp pn mo g1).getD i (0, 0, 0)).1).toInt64) hx hb dX10_digest_255 rfl ?_
      refine lv_ladd hx hb dX10_digest_256 ?_
      refine lv_lmul hx hb dX10_digest_257 ?_
      refine lv_aload_n hx hb dX10_digest_258 rfl (lv_at hl 4 rfl) ?_
      refine lv_iload_n hx hb dX10_digest_259 rfl (lv_at hl 2 rfl) ?_
      refine lv_iload hx hb dX10_digest_260 (lv_at hl 0 rfl) ?_
      refine lv_iconst (v := 1) hx hb dX10_digest_262 (by decide) ?_
      refine q_ci (k := cells) (n := slots) hK hP hD hS hA (fun hPc hKc hDc => q_rV (As := [.int (nI g1), .int (nI i), .int 1]) (rest := [.long (31 * ((31 * hh) + (((rs_L K Fm To Rr Gp pn mo g1).getD i (0, 0, 0)).1).toInt64))]) hf (r_sheetO2 _ D h0 q cB cI cZ (upd (upd (upd I 25 u_2) 26 u_3) 27 u_4) F pn pe sl K Fm To Rr mo Gp g1 i 1 hpv hI2 hI14 hmo1 hmo hSS hG (by omega) hnc hsn (by decide) _) k_1471 k_1468 k_1470 k_75 k_98 (nA := 3) (by decide +kernel) ⟨Nat.le_trans (by decide) hRf, Nat.le_trans (by decide) hRl⟩ hK hP (ci := 11) (q0 := 0) rfl rfl rfl hPc hKc hDc (fun _ _ _ _ h => h) (fun _ _ _ => trivial) rfl hl.1 rfl (Nat.le_of_ble_eq_true rfl) dX10_digest_263 ⟨hRc, hRs⟩) (Nat.le_refl _) (Nat.le_refl _) (fun r u H locs hw hK hP hD hS => ?_)
      obtain ⟨u_5, u_6, u_7, hr8, rfl⟩ := hw
      rw [stV_p1] at hr8
      obtain rfl := hr8
      have hP : va_P D vcl (mW h0 q cB cI cZ (upd (upd (upd I 25 u_5) 26 u_6) 27 u_7) F) H := hP
      have hD : va_D A (mW h0 q cB cI cZ (upd (upd (upd I 25 u_5) 26 u_6) 27 u_7) F) := hD
      refine lv_i2l (v := ((stP ((rs_L K Fm To Rr Gp pn mo g1).getD i (0, 0, 0)))).toInt64) hx hb dX10_digest_266 rfl ?_
      refine lv_ladd hx hb dX10_digest_267 ?_
      refine lv_lstore_n (lv' := [(1, .long ((31 * ((31 * hh) + (((rs_L K Fm To Rr Gp pn mo g1).getD i (0, 0, 0)).1).toInt64)) + ((stP ((rs_L K Fm To Rr Gp pn mo g1).getD i (0, 0, 0)))).toInt64)), (5, .int (nI i)), (4, .int (nI ns)), (3, .int (nI g1)), (0, .ref h0)]) hx hb dX10_digest_268 rfl hl (by decide) rfl (fun ls hl => ?_)
      refine lv_iinc (v := (nI (i + 1))) (lv' := [(5, .int (nI (i + 1))), (1, .long ((31 * ((31 * hh) + (((rs_L K Fm To Rr Gp pn mo g1).getD i (0, 0, 0)).1).toInt64)) + ((stP ((rs_L K Fm To Rr Gp pn mo g1).getD i (0, 0, 0)))).toInt64)), (4, .int (nI ns)), (3, .int (nI g1)), (0, .ref h0)]) hx hb dX10_digest_269 hl (k := 1) rfl (nI_add i 1) (by decide) rfl (fun ls hl => ?_)
      refine lv_goto (tgt := 232) hx hb dX10_digest_272 (by decide) ?_
      exact ih (i + 1) _ _ _ _ H locs ls (by omega) (by rw [hv]; rfl) hP hD hS (lv_sub hl (l' := [(5, .int (nI (i + 1))), (4, .int (nI ns)), (3, .int (nI g1)), (1, .long ((31 * ((31 * hh) + (((rs_L K Fm To Rr Gp pn mo g1).getD i (0, 0, 0)).1).toInt64)) + ((stP ((rs_L K Fm To Rr Gp pn mo g1).getD i (0, 0, 0)))).toInt64)), (0, .ref h0)]) [0, 2, 3, 1, 4] rfl) kk
set_option maxHeartbeats 1000000 in
set_option maxRecDepth 100000 in
theorem ldg_g2 {p : Program} {l : Launch} {e : Env} {R : Room} {s : State} {m : MethodId} {args : Array Value} {below : List Frame} {meth : Method} {c : Code} {cells slots : Nat} {Q : State → Prop} {D : va_G} {A : Nat → Prop} {h0 : Nat} {q : Nat → Nat} {cB cI cZ : ClassId} {I : Nat → Int32} {F : Nat → Nat → Int32} {pn lk gs : Nat} {pe sl : Nat → Nat} {K : Nat → Int32} {Fm To Rr : Nat → Nat} {mo : Nat} {Gp : Nat → Nat} {hb0 : Int64} (hpv : rp_ok F pn pe sl K Fm To Rr) (hI2 : I 2 = nI mo) (hI14 : I 14 = nI pn) (hI20 : I 20 = nI lk) (hI19 : 0 < lk → I 19 = nI gs) (hlk : lk ≤ 1) (hgs : gs ≤ 8000) (hmo1 : 10 ≤ mo) (hmo : mo ≤ 40) (hSS : rs_S Fm To pn ≤ 8000) (hG : ∀ p, p < pn → F 18 p = nI (Gp p) ∧ Gp p ≤ 8000) (hnc : ∀ g, rs_num K Fm To Rr Gp pn mo g ≤ 8000) (hlk0 : 0 < lk) (hRf : 5 ≤ R.frames) (hRl : 170 ≤ R.locals) (hRc : cells ≤ R.cells) (hRs : slots ≤ R.slots) (hA : ∀ q : Nat, s.heap.size ≤ q → A q) (hf : CallFix p m c cX10_digest 7 s args gT yX10_digest.cls) (hK : va_K D vcl (mT cB cI cZ) s) :
    ∀ (k : Nat) (g1 : Nat) (hh : Int64) (v25 : Int32) (v26 : Int32) (v27 : Int32) (H : Heap) (locs : List Loc) (ls : Array Slot), g1 + k = gs → hh = dgG (rs_L K Fm To Rr Gp pn mo) g1 hb0 →  va_P D vcl (mW h0 q cB cI cZ (upd (upd (upd I 25 v25) 26 v26) 27 v27) F) H → va_D A (mW h0 q cB cI cZ (upd (upd (upd I 25 v25) 26 v26) 27 v27) F) → va_S A s.heap H locs → lv_has ls 7 [(3, .int (nI g1)), (1, .long hh), (0, .ref h0)] →
    (∀ (hh : Int64) (v25 : Int32) (v26 : Int32) (v27 : Int32) (H : Heap) (locs : List Loc) (ls : Array Slot), hh = dgG (rs_L K Fm To Rr Gp pn mo) gs hb0 → va_P D vcl (mW h0 q cB cI cZ (upd (upd (upd I 25 v25) 26 v26) 27 v27) F) H → va_D A (mW h0 q cB cI cZ (upd (upd (upd I 25 v25) 26 v26) 27 v27) F) → va_S A s.heap H locs → lv_has ls 7 [(1, .long hh), (0, .ref h0)] → W p l e R s m args below meth c H locs cells slots Q (F0 m 281 ls [])) →
    W p l e R s m args below meth c H locs cells slots Q (F0 m 204 ls []) := by
  obtain ⟨hx, hb, hml, hown, hts⟩ := id hf
  have hpn8 := hpv.1
  intro k
  induction k with
  | zero =>
    intro g1 hh v25 v26 v27 H locs ls hik hv hP hD hS hl kk
    refine lv_iload_n hx hb dX10_digest_204 rfl (lv_at hl 0 rfl) ?_
    refine lv_aload_n hx hb dX10_digest_205 rfl (lv_at hl 2 rfl) ?_
    refine va_get (D := D) (ci := 11) (v := .int (I 19)) (C := RX10) (T := TX10) (N := 48) hx hb hts inX10 hown hK hP 0 rfl rfl 19 (by decide) (hts _ k_1163) (fun _ h9 => h9) rfl dX10_digest_206 ?_
    refine q_seti (y := (nI gs)) (hI19 hlk0) ?_
    refine lv_icmp_ge (tgt := 281) hx hb dX10_digest_209 (by decide) (fun c_1 => ?_) (fun c_1 => ?_)
    · have c_1 := q_le (a := gs) (b := g1) (by omega) (by omega) c_1
      exact kk hh v25 v26 v27 H locs ls (by rw [hv, show g1 = gs by omega]) hP hD hS (lv_sub hl (l' := [(1, .long hh), (0, .ref h0)]) [1, 2] rfl)
    · have c_1 := q_nle (a := gs) (b := g1) (by omega) (by omega) c_1
      exact absurd hik (by omega)
  | succ k ih =>
    intro g1 hh v25 v26 v27 H locs ls hik hv hP hD hS hl kk
    refine lv_iload_n hx hb dX10_digest_204 rfl (lv_at hl 0 rfl) ?_
    refine lv_aload_n hx hb dX10_digest_205 rfl (lv_at hl 2 rfl) ?_
    refine va_get (D := D) (ci := 11) (v := .int (I 19)) (C := RX10) (T := TX10) (N := 48) hx hb hts inX10 hown hK hP 0 rfl rfl 19 (by decide) (hts _ k_1163) (fun _ h9 => h9) rfl dX10_digest_206 ?_
    refine q_seti (y := (nI gs)) (hI19 hlk0) ?_
    refine lv_icmp_ge (tgt := 281) hx hb dX10_digest_209 (by decide) (fun c_1 => ?_) (fun c_1 => ?_)
    · have c_1 := q_le (a := gs) (b := g1) (by omega) (by omega) c_1
      exact absurd hik (by omega)
    · have c_1 := q_nle (a := gs) (b := g1) (by omega) (by omega) c_1
      refine lv_aload_n hx hb dX10_digest_212 rfl (lv_at hl 2 rfl) ?_
      refine lv_iload_n hx hb dX10_digest_213 rfl (lv_at hl 0 rfl) ?_
      refine q_ci (k := cells) (n := slots) hK hP hD hS hA (fun hPc hKc hDc => q_rV (As := [.int (nI g1)]) (rest := []) hf (r_sheetsOf _ D h0 q cB cI cZ (upd (upd (upd I 25 v25) 26 v26) 27 v27) F pn pe sl K Fm To Rr mo g1 Gp hpv hI2 hmo1 hmo hI14 hG (by omega) hSS (hnc _) _) k_1447 k_1444 k_1446 k_71 k_98 (nA := 1) (by decide +kernel) ⟨Nat.le_trans (by decide) hRf, Nat.le_trans (by decide) hRl⟩ hK hP (ci := 11) (q0 := 0) rfl rfl rfl hPc hKc hDc (fun _ _ _ _ h => h) (fun _ _ _ => trivial) rfl hl.1 rfl (Nat.le_of_ble_eq_true rfl) dX10_digest_214 ⟨hRc, hRs⟩) (Nat.le_refl _) (Nat.le_refl _) (fun r u H locs hw hK hP hD hS => ?_)
      obtain ⟨v1, v2, v3, hr9, rfl⟩ := hw
      obtain ⟨ns, hns, rfl⟩ : ∃ ns : Nat, ns = rs_nm K Fm To Rr Gp pn mo g1 ∧ r = nI ns := ⟨_, rfl, hr9⟩
      have hns8 : 1 ≤ ns ∧ ns ≤ 8000 := by
        have h9 := hnc g1
        rw [hns]; unfold rs_nm; split <;> omega
      have hP : va_P D vcl (mW h0 q cB cI cZ (upd (upd (upd I 25 v1) 26 v2) 27 v3) F) H := hP
      have hD : va_D A (mW h0 q cB cI cZ (upd (upd (upd I 25 v1) 26 v2) 27 v3) F) := hD
      refine lv_istore (lv' := [(4, .int (nI ns)), (3, .int (nI g1)), (1, .long hh), (0, .ref h0)]) hx hb dX10_digest_217 hl (by decide) rfl (fun ls hl => ?_)
      refine lv_ldc2 (v := 31) hx hb hown (hts _ k_1534) dX10_digest_219 ?_
      refine lv_lload_n hx hb dX10_digest_222 rfl (lv_at hl 2 rfl) ?_
      refine lv_lmul hx hb dX10_digest_223 ?_
      refine lv_iload hx hb dX10_digest_224 (lv_at hl 0 rfl) ?_
      refine lv_i2l (v := ((nI ns)).toInt64) hx hb dX10_digest_226 rfl ?_
      refine lv_ladd hx hb dX10_digest_227 ?_
      refine lv_lstore_n (lv' := [(1, .long ((31 * hh) + ((nI ns)).toInt64)), (4, .int (nI ns)), (3, .int (nI g1)), (0, .ref h0)]) hx hb dX10_digest_228 rfl hl (by decide) rfl (fun ls hl => ?_)
      refine lv_iconst (v := 0) hx hb dX10_digest_229 (by decide) ?_
      refine lv_istore (lv' := [(5, .int 0), (1, .long ((31 * hh) + ((nI ns)).toInt64)), (4, .int (nI ns)), (3, .int (nI g1)), (0, .ref h0)]) hx hb dX10_digest_230 hl (by decide) rfl (fun ls hl => ?_)
      refine ldg_h2 (I := I) (F := F) (pn := pn) (lk := lk) (gs := gs) (pe := pe) (sl := sl) (K := K) (Fm := Fm) (To := To) (Rr := Rr) (mo := mo) (Gp := Gp) (g1 := g1) (ns := ns) (hb0 := ((31 * hh) + ((nI ns)).toInt64)) hpv hI2 hI14 hI20 hI19 hlk hgs hmo1 hmo hSS hG hnc hlk0 (by omega) hns (Nat.le_trans (by decide) hRf) (Nat.le_trans (by decide) hRl) hRc hRs hA hf hK ns 0 _ _ _ _ _ _ ls (by omega) rfl hP hD hS (lv_sub hl (l' := [(5, .int 0), (4, .int (nI ns)), (3, .int (nI g1)), (1, .long ((31 * hh) + ((nI ns)).toInt64)), (0, .ref h0)]) [0, 2, 3, 1, 4] rfl) (fun hh2 v25 v26 v27 H locs ls hv2 hP hD hS hl => ?_)
      refine lv_iinc (v := (nI (g1 + 1))) (lv' := [(3, .int (nI (g1 + 1))), (1, .long hh2), (0, .ref h0)]) hx hb dX10_digest_275 hl (k := 0) rfl (nI_add g1 1) (by decide) rfl (fun ls hl => ?_)
      refine lv_goto (tgt := 204) hx hb dX10_digest_278 (by decide) ?_
      exact ih (g1 + 1) _ _ _ _ H locs ls (by omega) (by rw [hv2, hns, ← rsL_len, hv]; rfl) hP hD hS (lv_sub hl (l' := [(3, .int (nI (g1 + 1))), (1, .long hh2), (0, .ref h0)]) [0, 1, 2] rfl) kk
set_option maxHeartbeats 1000000 in
set_option maxRecDepth 100000 in
theorem r_digL2 (l : Launch) (D : va_G) (h0 : Nat) (q : Nat → Nat) (cB cI_ cZ : ClassId) (I : Nat → Int32) (F : Nat → Nat → Int32) (pgs lst : Int32) (n : Nat) (Es : List E5) (sl_ : Nat → Nat) (pn lk gs : Nat) (pe sl : Nat → Nat) (K : Nat → Int32) (Fm To Rr : Nat → Nat) (mo : Nat) (Gp : Nat → Nat) (hI1 : I 1 = nI n) (hI3 : I 3 = nI Es.length) (hre : reR F Es sl_) (hpv : rp_ok F pn pe sl K Fm To Rr) (hI2 : I 2 = nI mo) (hI14 : I 14 = nI pn) (hI20 : I 20 = nI lk) (hI19 : 0 < lk → I 19 = nI gs) (hlk : lk ≤ 1) (hgs : gs ≤ 8000) (hmo1 : 10 ≤ mo) (hmo : mo ≤ 40) (hSS : rs_S Fm To pn ≤ 8000) (hG : ∀ p, p < pn → F 18 p = nI (Gp p) ∧ Gp p ≤ 8000) (hnc : ∀ g, rs_num K Fm To Rr Gp pn mo g ≤ 8000) (hlk0 : 0 < lk) : cL l D yX10_digest cX10_digest 7 (some .long) 6 200 0 0 [.ref h0] zT (mW h0 q cB cI_ cZ I F) (mT cB cI_ cZ) (fun r u => r = dgV n Es.length Es lk mo gs pgs lst (rs_L K Fm To Rr Gp pn mo) ∧ (∃ (I2 : Nat → Int32) (F2 : Nat → Nat → Int32), sm I I2 F F2 ∧ u = (mW h0 q cB cI_ cZ I2 F2, mT cB cI_ cZ))) := by
  refine q_sl (by decide) (Nat.le_of_ble_eq_true rfl) ?_
  intro p e s m below meth c A ls hAe hf hr hlocks hin hK hP hD hS hA hZ hl
  obtain ⟨hx, hb, hml, hown, hts⟩ := id hf
  have hl : lv_has ls 7 [(0, .ref h0)] := hl
  have hpn8 := hpv.1
  refine lv_ldc2 (v := 101) hx hb hown (hts _ k_1533) dX10_digest_0 ?_
  refine lv_lstore_n (lv' := [(1, .long 101), (0, .ref h0)]) hx hb dX10_digest_3 rfl hl (by decide) rfl (fun ls hl => ?_)
  refine lv_iconst (v := 0) hx hb dX10_digest_4 (by decide) ?_
  refine lv_istore_n (lv' := [(3, .int 0), (1, .long 101), (0, .ref h0)]) hx hb dX10_digest_5 rfl hl (by decide) rfl (fun ls hl => ?_)
  refine ldg_a2 (Es := Es) (sl := sl_) (n := n) (mo := mo) (lk := lk) (hb0 := 101) hI3 hre hI1 hI2 hI20 hlk (Nat.le_of_ble_eq_true rfl) (Nat.le_of_ble_eq_true rfl) (Nat.le_of_ble_eq_true rfl) (Nat.le_of_ble_eq_true rfl) hA hf hK 6 0 _ _ _ ls (by omega) rfl hP hD hS (lv_sub hl (l' := [(3, .int 0), (1, .long 101), (0, .ref h0)]) [0, 1, 2] rfl) (fun hh H locs ls hv1 hP hD hS hl => ?_)
  refine lv_iconst (v := 0) hx hb dX10_digest_31 (by decide) ?_
  refine lv_istore_n (lv' := [(3, .int 0), (1, .long hh), (0, .ref h0)]) hx hb dX10_digest_32 rfl hl (by decide) rfl (fun ls hl => ?_)
  refine ldg_b2 (Es := Es) (sl := sl_) (hb0 := hh) hI3 hre (Nat.le_of_ble_eq_true rfl) (Nat.le_of_ble_eq_true rfl) (Nat.le_of_ble_eq_true rfl) (Nat.le_of_ble_eq_true rfl) hA hf hK _ 0 _ _ _ ls (Nat.zero_add _) rfl hP hD hS (lv_sub hl (l' := [(3, .int 0), (1, .long hh), (0, .ref h0)]) [0, 1, 2] rfl) (fun hh2 H locs ls hv2 hP hD hS hl => ?_)
  refine lv_ldc2 (v := 31) hx hb hown (hts _ k_1534) dX10_digest_171 ?_
  refine lv_lload_n hx hb dX10_digest_174 rfl (lv_at hl 0 rfl) ?_
  refine lv_lmul hx hb dX10_digest_175 ?_
  refine lv_aload_n hx hb dX10_digest_176 rfl (lv_at hl 1 rfl) ?_
  refine q_ci (k := 0) (n := 0) hK hP hD hS hA (fun hPc hKc hDc => q_rV (As := []) (rest := [.long (31 * hh2)]) hf (r_pages _ D h0 q cB cI_ cZ I F pn lk gs pe sl K Fm To Rr mo hpv hI2 hI14 hI20 hI19 hlk hmo hSS _) k_1383 k_1536 k_1381 k_1382 k_98 (nA := 0) (by decide +kernel) ⟨Nat.le_of_ble_eq_true rfl, Nat.le_of_ble_eq_true rfl⟩ hK hP (ci := 11) (q0 := 0) rfl rfl rfl hPc hKc hDc (fun _ _ _ _ h => h) (fun _ _ _ => trivial) rfl hl.1 rfl (Nat.le_of_ble_eq_true rfl) dX10_digest_177 ⟨Nat.le_of_ble_eq_true rfl, Nat.le_of_ble_eq_true rfl⟩) (by decide) (by decide) (fun r u H locs hw hK hP hD hS => ?_)
  obtain hw := hw
  obtain ⟨_, rfl, rfl⟩ := hw.resolve_right (fun z => by have h9 := z.1; omega)
  have hP : va_P D vcl (mW h0 q cB cI_ cZ I F) H := hP
  have hD : va_D A (mW h0 q cB cI_ cZ I F) := hD
  refine lv_i2l (v := ((nI gs)).toInt64) hx hb dX10_digest_180 rfl ?_
  refine lv_ladd hx hb dX10_digest_181 ?_
  refine lv_lstore_n (lv' := [(1, .long ((31 * hh2) + ((nI gs)).toInt64)), (0, .ref h0)]) hx hb dX10_digest_182 rfl hl (by decide) rfl (fun ls hl => ?_)
  refine lv_aload_n hx hb dX10_digest_183 rfl (lv_at hl 1 rfl) ?_
  refine va_get (D := D) (ci := 11) (v := .int (I 20)) (C := RX10) (T := TX10) (N := 48) hx hb hts inX10 hown hK hP 0 rfl rfl 20 (by decide) (hts _ k_1164) (fun _ h9 => h9) rfl dX10_digest_184 ?_
  refine q_seti (y := (nI lk)) hI20 ?_
  refine lv_if_ne (tgt := 202) hx hb dX10_digest_187 (by decide) (fun c_1 => ?_) (fun c_1 => ?_)
  · have c_1 := q_nen (a := lk) (b := 0) (by omega) (by omega) c_1
    refine lv_iconst (v := 0) hx hb dX10_digest_202 (by decide) ?_
    refine lv_istore_n (lv' := [(3, .int 0), (1, .long ((31 * hh2) + ((nI gs)).toInt64)), (0, .ref h0)]) hx hb dX10_digest_203 rfl hl (by decide) rfl (fun ls hl => ?_)
    have hy9 : I = upd (upd (upd I 25 (I 25)) 26 (I 26)) 27 (I 27) := by rw [upd_id9, upd_id9, upd_id9]
    obtain ⟨hP, hD⟩ := q_set5 hy9 hP hD
    refine ldg_g2 (I := I) (F := F) (pn := pn) (lk := lk) (gs := gs) (pe := pe) (sl := sl) (K := K) (Fm := Fm) (To := To) (Rr := Rr) (mo := mo) (Gp := Gp) (hb0 := ((31 * hh2) + ((nI gs)).toInt64)) hpv hI2 hI14 hI20 hI19 hlk hgs hmo1 hmo hSS hG hnc hlk0 (Nat.le_of_ble_eq_true rfl) (Nat.le_of_ble_eq_true rfl) (Nat.le_of_ble_eq_true rfl) (Nat.le_of_ble_eq_true rfl) hA hf hK gs 0 _ (I 25) (I 26) (I 27) _ _ ls (by omega) rfl hP hD hS (lv_sub hl (l' := [(3, .int 0), (1, .long ((31 * hh2) + ((nI gs)).toInt64)), (0, .ref h0)]) [0, 1, 2] rfl) (fun hh3 v25 v26 v27 H locs ls hv3 hP hD hS hl => ?_)
    have hP : va_P D vcl (mW h0 q cB cI_ cZ (upd (upd (upd I 25 v25) 26 v26) 27 v27) F) H := hP
    have hD : va_D A (mW h0 q cB cI_ cZ (upd (upd (upd I 25 v25) 26 v26) 27 v27) F) := hD
    refine lv_lload_n hx hb dX10_digest_281 rfl (lv_at hl 0 rfl) ?_
    exact q_zl hf hr hlocks hK hP hD hS (Nat.le_of_ble_eq_true rfl) (Nat.le_of_ble_eq_true rfl) ⟨by rw [dgV_L hlk0, hv3, hv2, hv1]; rfl, ⟨(upd (upd (upd I 25 v25) 26 v26) 27 v27), F, ⟨⟨rfl, rfl, rfl⟩, ⟨rfl, rfl, rfl⟩, ⟨rfl, rfl, rfl, rfl, rfl, rfl, rfl, rfl, rfl, rfl, rfl⟩, rfl, rfl, rfl, rfl⟩, rfl⟩⟩ dX10_digest_282
  · have c_1 := q_eqn (a := lk) (b := 0) (by omega) (by omega) c_1
    refine lv_ldc2 (v := 31) hx hb hown (hts _ k_1534) dX10_digest_190 ?_
    refine lv_lload_n hx hb dX10_digest_193 rfl (lv_at hl 0 rfl) ?_
    refine lv_lmul hx hb dX10_digest_194 ?_
    refine lv_aload_n hx hb dX10_digest_195 rfl (lv_at hl 1 rfl) ?_
    refine va_get (D := D) (ci := 11) (v := .int (I 29)) (C := RX10) (T := TX10) (N := 48) hx hb hts inX10 hown hK hP 0 rfl rfl 29 (by decide) (hts _ k_1173) (fun _ h9 => h9) rfl dX10_digest_196 ?_
    refine lv_i2l (v := ((I 29)).toInt64) hx hb dX10_digest_199 rfl ?_
    refine lv_ladd hx hb dX10_digest_200 ?_
    exact q_zl hf hr hlocks hK hP hD hS (Nat.le_of_ble_eq_true rfl) (Nat.le_of_ble_eq_true rfl) (False.elim (by omega)) dX10_digest_201
set_option maxHeartbeats 1000000 in
set_option maxRecDepth 100000 in
theorem r_pages3 (l : Launch) (D : va_G) (h0 : Nat) (q : Nat → Nat) (cB cI_ cZ : ClassId) (I : Nat → Int32) (F : Nat → Nat → Int32) (pn lk gs : Nat) (pe sl : Nat → Nat) (K : Nat → Int32) (Fm To Rr : Nat → Nat) (mo : Nat) (hpv : rp_ok F pn pe sl K Fm To Rr) (hI2 : I 2 = nI mo) (hI14 : I 14 = nI pn) (hI20 : I 20 = nI lk) (hI19 : 0 < lk → I 19 = nI gs) (hlk : lk ≤ 1) (hmo : mo ≤ 40) (hSS : rs_S Fm To pn ≤ 8000) : cI l D yX10_pages cX10_pages 1 (some .int) 5 150 0 0 [.ref h0] zT (mW h0 q cB cI_ cZ I F) (mT cB cI_ cZ) (fun r u => (0 < lk ∧ r = nI gs ∧ u = (mW h0 q cB cI_ cZ I F, mT cB cI_ cZ)) ∨ (lk = 0 ∧ r = nI (bk_pg Fm To pn (bk_all K Fm To Rr pn mo pn (fun _ => none)) 8000 0 0).length ∧ (∃ (I2 : Nat → Int32) (F2 : Nat → Nat → Int32), sm I I2 F F2 ∧ I2 29 = (bk_least pn (bk_all K Fm To Rr pn mo pn (fun _ => none))) ∧ u = (mW h0 q cB cI_ cZ I2 F2, mT cB cI_ cZ)))) := by
  refine q_si (by decide) (Nat.le_of_ble_eq_true rfl) ?_
  intro p e s m below meth c A ls hAe hf hr hlocks hin hK hP hD hS hA hZ hl
  obtain ⟨hx, hb, hml, hown, hts⟩ := id hf
  have hl : lv_has ls 1 [(0, .ref h0)] := hl
  refine lv_aload_n hx hb dX10_pages_0 rfl (lv_at hl 0 rfl) ?_
  refine va_get (D := D) (ci := 11) (v := .int (I 20)) (C := RX10) (T := TX10) (N := 48) hx hb hts inX10 hown hK hP 0 rfl rfl 20 (by decide) (hts _ k_1164) (fun _ h9 => h9) rfl dX10_pages_1 ?_
  refine q_seti (y := (nI lk)) hI20 ?_
  refine lv_if_eq (tgt := 12) hx hb dX10_pages_4 (by decide) (fun c_1 => ?_) (fun c_1 => ?_)
  · have c_1 := q_eqn (a := lk) (b := 0) (by omega) (by omega) c_1
    refine lv_aload_n hx hb dX10_pages_12 rfl (lv_at hl 0 rfl) ?_
    refine q_cv (k := 0) (n := 0) hK hP hD hS hA (fun hPc hKc hDc => q_rV (As := []) (rest := []) hf (r_breaks _ D h0 q cB cI_ cZ I F pn pe sl K Fm To Rr mo hpv hI2 hI14 hmo hSS _) k_1387 k_1384 k_1386 k_61 k_98 (nA := 0) (by decide +kernel) ⟨Nat.le_of_ble_eq_true rfl, Nat.le_of_ble_eq_true rfl⟩ hK hP (ci := 11) (q0 := 0) rfl rfl rfl hPc hKc hDc (fun _ _ _ _ h => h) (fun _ _ _ => trivial) rfl hl.1 rfl (Nat.le_of_ble_eq_true rfl) dX10_pages_13 ⟨Nat.le_of_ble_eq_true rfl, Nat.le_of_ble_eq_true rfl⟩) (by decide) (by decide) (fun u H locs hw hK hP hD hS => ?_)
    obtain ⟨C, Pg, g30, w1, w2, w3, w4, g35, g36, g37, eC, ePg, htab, hcl, hpgis, hpge, rfl⟩ := hw
    have hP : va_P D vcl (mW h0 q cB cI_ cZ (upd (upd I 28 (nI (Pg.length))) 29 (bk_least pn C)) (va_up (va_up (va_up (va_up (va_up (va_up (va_up (va_up F 30 g30) 31 w1) 32 w2) 33 w3) 34 w4) 35 g35) 36 g36) 37 g37)) H := hP
    have hD : va_D A (mW h0 q cB cI_ cZ (upd (upd I 28 (nI (Pg.length))) 29 (bk_least pn C)) (va_up (va_up (va_up (va_up (va_up (va_up (va_up (va_up F 30 g30) 31 w1) 32 w2) 33 w3) 34 w4) 35 g35) 36 g36) 37 g37)) := hD
    have hpgl : Pg.length ≤ 8000 := by rw [ePg]; exact bk_pg_le _ _ _
    refine lv_aload_n hx hb dX10_pages_16 rfl (lv_at hl 0 rfl) ?_
    refine va_get (D := D) (ci := 11) (v := .int (nI (Pg.length))) (C := RX10) (T := TX10) (N := 48) hx hb hts inX10 hown hK hP 0 rfl rfl 28 (by decide) (hts _ k_1172) (fun _ h9 => h9) rfl dX10_pages_17 ?_
    have ePg2 : Pg = (bk_pg Fm To pn (bk_all K Fm To Rr pn mo pn (fun _ => none)) 8000 0 0) := by rw [ePg, eC]
    exact q_zi hf hr rfl hlocks hK hP hD hS (Nat.le_of_ble_eq_true rfl) (Nat.le_of_ble_eq_true rfl) (Or.inr ⟨by omega, by rw [← ePg2], ⟨(upd (upd I 28 (nI (Pg.length))) 29 (bk_least pn C)), (va_up (va_up (va_up (va_up (va_up (va_up (va_up (va_up F 30 g30) 31 w1) 32 w2) 33 w3) 34 w4) 35 g35) 36 g36) 37 g37), ⟨⟨rfl, rfl, rfl⟩, ⟨rfl, rfl, rfl⟩, ⟨rfl, rfl, rfl, rfl, rfl, rfl, rfl, rfl, rfl, rfl, rfl⟩, rfl, rfl, rfl, rfl⟩, (by show bk_least pn C = _; rw [eC]), rfl⟩⟩) dX10_pages_20
  · have c_1 := q_nen (a := lk) (b := 0) (by omega) (by omega) c_1
    refine lv_aload_n hx hb dX10_pages_7 rfl (lv_at hl 0 rfl) ?_
    refine va_get (D := D) (ci := 11) (v := .int (I 19)) (C := RX10) (T := TX10) (N := 48) hx hb hts inX10 hown hK hP 0 rfl rfl 19 (by decide) (hts _ k_1163) (fun _ h9 => h9) rfl dX10_pages_8 ?_
    refine q_seti (y := (nI gs)) (hI19 (by omega)) ?_
    exact q_zi hf hr rfl hlocks hK hP hD hS (Nat.le_of_ble_eq_true rfl) (Nat.le_of_ble_eq_true rfl) (Or.inl ⟨by omega, rfl, rfl⟩) dX10_pages_11
set_option maxHeartbeats 1000000 in
set_option maxRecDepth 100000 in
theorem r_digU2 (l : Launch) (D : va_G) (h0 : Nat) (q : Nat → Nat) (cB cI_ cZ : ClassId) (I : Nat → Int32) (F : Nat → Nat → Int32) (n gs : Nat) (L : Nat → List I3) (Es : List E5) (sl_ : Nat → Nat) (pn lk : Nat) (pe sl : Nat → Nat) (K : Nat → Int32) (Fm To Rr : Nat → Nat) (mo : Nat) (hI1 : I 1 = nI n) (hI3 : I 3 = nI Es.length) (hre : reR F Es sl_) (hpv : rp_ok F pn pe sl K Fm To Rr) (hI2 : I 2 = nI mo) (hI14 : I 14 = nI pn) (hI20 : I 20 = nI lk) (hlk : lk ≤ 1) (hmo : mo ≤ 40) (hSS : rs_S Fm To pn ≤ 8000) (hlk0 : lk = 0) : cL l D yX10_digest cX10_digest 7 (some .long) 6 200 0 0 [.ref h0] zT (mW h0 q cB cI_ cZ I F) (mT cB cI_ cZ) (fun r u => r = dgV n Es.length Es lk mo gs (nI (bk_pg Fm To pn (bk_all K Fm To Rr pn mo pn (fun _ => none)) 8000 0 0).length) (bk_least pn (bk_all K Fm To Rr pn mo pn (fun _ => none))) L ∧ (∃ (I2 : Nat → Int32) (F2 : Nat → Nat → Int32), sm I I2 F F2 ∧ u = (mW h0 q cB cI_ cZ I2 F2, mT cB cI_ cZ))) := by
  refine q_sl (by decide) (Nat.le_of_ble_eq_true rfl) ?_
  intro p e s m below meth c A ls hAe hf hr hlocks hin hK hP hD hS hA hZ hl
  obtain ⟨hx, hb, hml, hown, hts⟩ := id hf
  have hl : lv_has ls 7 [(0, .ref h0)] := hl
  have hpn8 := hpv.1
  refine lv_ldc2 (v := 101) hx hb hown (hts _ k_1533) dX10_digest_0 ?_
  refine lv_lstore_n (lv' := [(1, .long 101), (0, .ref h0)]) hx hb dX10_digest_3 rfl hl (by decide) rfl (fun ls hl => ?_)
  refine lv_iconst (v := 0) hx hb dX10_digest_4 (by decide) ?_
  refine lv_istore_n (lv' := [(3, .int 0), (1, .long 101), (0, .ref h0)]) hx hb dX10_digest_5 rfl hl (by decide) rfl (fun ls hl => ?_)
  refine ldg_a2 (Es := Es) (sl := sl_) (n := n) (mo := mo) (lk := lk) (hb0 := 101) hI3 hre hI1 hI2 hI20 hlk (Nat.le_of_ble_eq_true rfl) (Nat.le_of_ble_eq_true rfl) (Nat.le_of_ble_eq_true rfl) (Nat.le_of_ble_eq_true rfl) hA hf hK 6 0 _ _ _ ls (by omega) rfl hP hD hS (lv_sub hl (l' := [(3, .int 0), (1, .long 101), (0, .ref h0)]) [0, 1, 2] rfl) (fun hh H locs ls hv1 hP hD hS hl => ?_)
  refine lv_iconst (v := 0) hx hb dX10_digest_31 (by decide) ?_
  refine lv_istore_n (lv' := [(3, .int 0), (1, .long hh), (0, .ref h0)]) hx hb dX10_digest_32 rfl hl (by decide) rfl (fun ls hl => ?_)
  refine ldg_b2 (Es := Es) (sl := sl_) (hb0 := hh) hI3 hre (Nat.le_of_ble_eq_true rfl) (Nat.le_of_ble_eq_true rfl) (Nat.le_of_ble_eq_true rfl) (Nat.le_of_ble_eq_true rfl) hA hf hK _ 0 _ _ _ ls (Nat.zero_add _) rfl hP hD hS (lv_sub hl (l' := [(3, .int 0), (1, .long hh), (0, .ref h0)]) [0, 1, 2] rfl) (fun hh2 H locs ls hv2 hP hD hS hl => ?_)
  refine lv_ldc2 (v := 31) hx hb hown (hts _ k_1534) dX10_digest_171 ?_
  refine lv_lload_n hx hb dX10_digest_174 rfl (lv_at hl 0 rfl) ?_
  refine lv_lmul hx hb dX10_digest_175 ?_
  refine lv_aload_n hx hb dX10_digest_176 rfl (lv_at hl 1 rfl) ?_
  refine q_ci (k := 0) (n := 0) hK hP hD hS hA (fun hPc hKc hDc => q_rV (As := []) (rest := [.long (31 * hh2)]) hf (r_pages3 _ D h0 q cB cI_ cZ I F pn lk 0 pe sl K Fm To Rr mo hpv hI2 hI14 hI20 (fun h9 => absurd h9 (by omega)) hlk hmo hSS _) k_1383 k_1536 k_1381 k_1382 k_98 (nA := 0) (by decide +kernel) ⟨Nat.le_of_ble_eq_true rfl, Nat.le_of_ble_eq_true rfl⟩ hK hP (ci := 11) (q0 := 0) rfl rfl rfl hPc hKc hDc (fun _ _ _ _ h => h) (fun _ _ _ => trivial) rfl hl.1 rfl (Nat.le_of_ble_eq_true rfl) dX10_digest_177 ⟨Nat.le_of_ble_eq_true rfl, Nat.le_of_ble_eq_true rfl⟩) (by decide) (by decide) (fun r u H locs hw hK hP hD hS => ?_)
  obtain hw := hw
  obtain ⟨_, rfl, I2, F2, hsm, hl29, rfl⟩ := hw.resolve_left (fun z => by have h9 := z.1; omega)
  have hP : va_P D vcl (mW h0 q cB cI_ cZ I2 F2) H := hP
  have hD : va_D A (mW h0 q cB cI_ cZ I2 F2) := hD
  refine lv_i2l (v := ((nI (((bk_pg Fm To pn (bk_all K Fm To Rr pn mo pn (fun _ => none)) 8000 0 0).length)))).toInt64) hx hb dX10_digest_180 rfl ?_
  refine lv_ladd hx hb dX10_digest_181 ?_
  refine lv_lstore_n (lv' := [(1, .long ((31 * hh2) + ((nI (((bk_pg Fm To pn (bk_all K Fm To Rr pn mo pn (fun _ => none)) 8000 0 0).length)))).toInt64)), (0, .ref h0)]) hx hb dX10_digest_182 rfl hl (by decide) rfl (fun ls hl => ?_)
  refine lv_aload_n hx hb dX10_digest_183 rfl (lv_at hl 1 rfl) ?_
  refine va_get (D := D) (ci := 11) (v := .int (I2 20)) (C := RX10) (T := TX10) (N := 48) hx hb hts inX10 hown hK hP 0 rfl rfl 20 (by decide) (hts _ k_1164) (fun _ h9 => h9) rfl dX10_digest_184 ?_
  refine q_seti (y := (nI lk)) (hsm.2.1.2.2.trans hI20) ?_
  refine lv_if_ne (tgt := 202) hx hb dX10_digest_187 (by decide) (fun c_1 => ?_) (fun c_1 => ?_)
  · have c_1 := q_nen (a := lk) (b := 0) (by omega) (by omega) c_1
    exact False.elim (by omega)
  · have c_1 := q_eqn (a := lk) (b := 0) (by omega) (by omega) c_1
    refine lv_ldc2 (v := 31) hx hb hown (hts _ k_1534) dX10_digest_190 ?_
    refine lv_lload_n hx hb dX10_digest_193 rfl (lv_at hl 0 rfl) ?_
    refine lv_lmul hx hb dX10_digest_194 ?_
    refine lv_aload_n hx hb dX10_digest_195 rfl (lv_at hl 1 rfl) ?_
    refine va_get (D := D) (ci := 11) (v := .int (I2 29)) (C := RX10) (T := TX10) (N := 48) hx hb hts inX10 hown hK hP 0 rfl rfl 29 (by decide) (hts _ k_1173) (fun _ h9 => h9) rfl dX10_digest_196 ?_
    refine q_seti (y := (bk_least pn (bk_all K Fm To Rr pn mo pn (fun _ => none)))) hl29 ?_
    refine lv_i2l (v := ((bk_least pn (bk_all K Fm To Rr pn mo pn (fun _ => none)))).toInt64) hx hb dX10_digest_199 rfl ?_
    refine lv_ladd hx hb dX10_digest_200 ?_
    exact q_zl hf hr hlocks hK hP hD hS (Nat.le_of_ble_eq_true rfl) (Nat.le_of_ble_eq_true rfl) ⟨by rw [dgV_U hlk0, hv2, hv1]; rfl, I2, F2, hsm, rfl⟩ dX10_digest_201
