/-- the words of element e are among the first j told -/
def paB (Es : List E5) (g : Nat → Int32) (Y : List Int32) (j : Nat) (b : Int32) : Prop := (b = 1 ∧ ∃ u e, u < j ∧ e < Es.length ∧ g u = nI e ∧ (Es.getD e dE).2.2.2.2 = Y) ∨ (b = 0 ∧ ∀ u e, u < j → e < Es.length → g u = nI e → ¬ (Es.getD e dE).2.2.2.2 = Y)
theorem paB_k {Es : List E5} {g : Nat → Int32} {Y : List Int32} {j : Nat} {b : Int32} (h : paB Es g Y j b) (hb : ¬ b = 0) : paB Es g Y (j + 1) 1 := by
  rcases h with ⟨_, u, e, a1, a2⟩ | ⟨h1, _⟩
  · exact Or.inl ⟨rfl, u, e, by omega, a2⟩
  · exact absurd h1 hb
theorem paB_y {Es : List E5} {g : Nat → Int32} {Y : List Int32} {j e1 : Nat} (he : e1 < Es.length) (hg : g j = nI e1) (c : (Es.getD e1 dE).2.2.2.2 = Y) : paB Es g Y (j + 1) 1 := Or.inl ⟨rfl, j, e1, by omega, he, hg, c⟩
theorem paB_n {Es : List E5} {g : Nat → Int32} {Y : List Int32} {j e1 : Nat} {b : Int32} (hE : Es.length ≤ 60) (h : paB Es g Y j b) (hb : b = 0) (he : e1 < Es.length) (hg : g j = nI e1) (c : ¬ (Es.getD e1 dE).2.2.2.2 = Y) : paB Es g Y (j + 1) 0 := by
  rcases h with ⟨h1, _⟩ | ⟨_, h2⟩
  · rw [h1] at hb; exact absurd hb (by decide)
  · refine Or.inr ⟨rfl, fun u e hu he2 hg2 => ?_⟩
    by_cases c2 : u = j
    · rw [c2, hg] at hg2
      rw [← nI_un (by omega) (by omega) hg2]
      exact c
    · exact h2 u e (by omega) he2 hg2
theorem paB_in {Es : List E5} {Rw : Nat → Nat} {mr s wn y z : Nat} {g : Nat → Int32} {Y : List Int32} {b : Int32} (h : paB Es g Y wn b) (hq : whQ Es Rw wn g y z) (h1 : sfR Es Rw mr s y) (h2 : sfR Es Rw mr (s + 1) z) : (¬ b = 0 → inS Es Rw mr Y s) ∧ (b = 0 → ¬ inS Es Rw mr Y s) := by
  rcases h with ⟨e1, h3⟩ | ⟨e1, h3⟩
  · exact ⟨fun _ => ⟨y, z, h1, h2, (hq Y).mp h3⟩, fun h4 => absurd (e1.symm.trans h4) (by decide)⟩
  · refine ⟨fun h4 => absurd e1 h4, fun _ => ?_⟩
    rintro ⟨y2, z2, a1, a2, a3⟩
    rw [sfR_un a1 h1, sfR_un a2 h2] at a3
    obtain ⟨u, e, b1, b2, b3, b4⟩ := (hq Y).mpr a3
    exact h3 u e b1 b2 b3 b4
/-- parts: the answer -/
def paC (ne : Nat) (Es : List E5) (Rw : Nat → Nat) (mr : Nat) (x1 r : Int32) : Prop := (¬ (∃ j : Nat, j < ne ∧ x1 = nI j) ∧ r = (-2)) ∨ (∃ j : Nat, j < ne ∧ x1 = nI j ∧ (¬ (Es.getD j dE).1 = 2 ∨ ¬ (Es.getD j dE).2.2.1 = 0) ∧ r = (-3)) ∨ (∃ j : Nat, j < ne ∧ x1 = nI j ∧ ((Es.getD j dE).1 = 2 ∧ (Es.getD j dE).2.2.1 = 0) ∧ r = nI (pcnt (inS Es Rw mr (Es.getD j dE).2.2.2.2) (hdC Es Rw mr)))
theorem paC_det {ne : Nat} {Es : List E5} {Rw : Nat → Nat} {mr : Nat} {x1 r1 r2 : Int32} (hn : ne ≤ 60) (h1 : paC ne Es Rw mr x1 r1) (h2 : paC ne Es Rw mr x1 r2) : r1 = r2 := by
  have key : ∀ {j k : Nat}, j < ne → k < ne → x1 = nI j → x1 = nI k → j = k := fun {j k} a b c d => q_eqn (a := j) (b := k) (by omega) (by omega) (c.symm.trans d)
  rcases h1 with ⟨a1, a2⟩ | ⟨j, a1, a2, a3, a4⟩ | ⟨j, a1, a2, a3, a4⟩
  · rcases h2 with ⟨b1, b2⟩ | ⟨k, b1, b2, b3, b4⟩ | ⟨k, b1, b2, b3, b4⟩
    · rw [a2, b2]
    · exact absurd ⟨k, b1, b2⟩ a1
    · exact absurd ⟨k, b1, b2⟩ a1
  · rcases h2 with ⟨b1, b2⟩ | ⟨k, b1, b2, b3, b4⟩ | ⟨k, b1, b2, b3, b4⟩
    · exact absurd ⟨j, a1, a2⟩ b1
    · rw [a4, b4]
    · rw [key a1 b1 a2 b2] at a3
      exact (a3.elim (fun z9 => z9 b3.1) (fun z9 => z9 b3.2)).elim
  · rcases h2 with ⟨b1, b2⟩ | ⟨k, b1, b2, b3, b4⟩ | ⟨k, b1, b2, b3, b4⟩
    · exact absurd ⟨j, a1, a2⟩ b1
    · rw [key a1 b1 a2 b2] at a3
      exact (b3.elim (fun z9 => z9 a3.1) (fun z9 => z9 a3.2)).elim
    · rw [a4, b4, key a1 b1 a2 b2]
def paS (EE : Nat → E5) (P : List Q4) (n : Nat) (Y : List Int32) (s : Nat) : Prop := ∃ a b, bgs EE P n s a ∧ bgs EE P n (s + 1) b ∧ hpq EE P Y a b
theorem bgs_un {EE : Nat → E5} {P : List Q4} {n s a b : Nat} (h1 : bgs EE P n s a) (h2 : bgs EE P n s b) : a = b := by
  have key : ∀ {a b : Nat}, bgs EE P n s a → bgs EE P n s b → ¬ a < b := fun {a b} h1 h2 h => by
    rcases h1 with ⟨a1, a2, a3⟩ | ⟨a1, a2⟩
    · rcases h2 with ⟨b1, b2, b3⟩ | ⟨b1, b2⟩
      · have h3 := pcnt_mo (bgq EE P 0) (show a + 1 ≤ b by omega)
        rw [pcnt_1 a2] at h3
        omega
      · exact b2 a a1 a2 a3
    · have := bgR_le h2
      omega
  have x := key h1 h2
  have y := key h2 h1
  omega
theorem paS_y {EE : Nat → E5} {P : List Q4} {n s a b : Nat} {Y : List Int32} (h1 : bgs EE P n s a) (h2 : bgs EE P n (s + 1) b) (h : hpq EE P Y a b) : paS EE P n Y s := ⟨a, b, h1, h2, h⟩
theorem paS_n {EE : Nat → E5} {P : List Q4} {n s a b : Nat} {Y : List Int32} (h1 : bgs EE P n s a) (h2 : bgs EE P n (s + 1) b) (h : ¬ hpq EE P Y a b) : ¬ paS EE P n Y s := fun ⟨c, d, h3, h4, h5⟩ => h (by rw [bgs_un h1 h3, bgs_un h2 h4]; exact h5)
theorem bgs_upl {lk : Nat} {EE : Nat → E5} {P : List Q4} {n s t : Nat} : bgs EE (upl lk P) n s t ↔ bgs EE P n s t := by
  unfold bgs
  rw [bgq_upl]
theorem hpq_upl {lk : Nat} {EE : Nat → E5} {P : List Q4} {Y : List Int32} {a b : Nat} : hpq EE (upl lk P) Y a b ↔ hpq EE P Y a b := by
  unfold hpq
  rw [bgq_upl]
  constructor
  · rintro ⟨i, h1, h2, h3, h4⟩
    rw [(upl_1 lk P i).1] at h4
    exact ⟨i, h1, h2, h3, h4⟩
  · rintro ⟨i, h1, h2, h3, h4⟩
    exact ⟨i, h1, h2, h3, by rw [(upl_1 lk P i).1]; exact h4⟩
theorem pa_eq (lk : Nat) (Es : List E5) (P : List Q4) (n : Nat) (Y : List Int32) (k : Nat) : pcnt (paS (fun e => Es.getD e dE) (upl lk P) n Y) k = pcnt (inS Es (fun j => (mgI P n).getD j 0) (mgI P n).length Y) k := by
  refine pcnt_c k (fun s _ => ⟨?_, fun h => ?_⟩)
  · rintro ⟨a, b, h1, h2, h3⟩
    exact (hp_inS (bgs_upl.mp h1) (bgs_upl.mp h2)).mp (hpq_upl.mp h3)
  · obtain ⟨a, ha⟩ := bgR_ex (fun e => Es.getD e dE) P n s
    obtain ⟨b, hb⟩ := bgR_ex (fun e => Es.getD e dE) P n (s + 1)
    exact ⟨a, b, bgs_upl.mpr ha, bgs_upl.mpr hb, hpq_upl.mpr ((hp_inS ha hb).mpr h)⟩

set_option maxHeartbeats 1000000 in
set_option maxRecDepth 100000 in
theorem lpi2_ {p : Program} {l : Launch} {e : Env} {R : Room} {s : State} {m : MethodId} {args : Array Value} {below : List Frame} {meth : Method} {c : Code} {cells slots : Nat} {Q : State → Prop} {D : va_G} {A : Nat → Prop} {h0 : Nat} {q : Nat → Nat} {cB cI cZ : ClassId} {I : Nat → Int32} {F : Nat → Nat → Int32} {Es : List E5} {sl : Nat → Nat} {wn i e2 c9 v : Nat} (hre : reR F Es sl) (hI46 : I 46 = nI wn) (hwn : wn ≤ 60) (hwho : whI Es.length wn (F 47)) (he2 : e2 < Es.length) (hRf : 1 ≤ R.frames) (hRl : 30 ≤ R.locals) (hRc : cells ≤ R.cells) (hRs : slots ≤ R.slots) (hA : ∀ q : Nat, s.heap.size ≤ q → A q) (hf : CallFix p m c cX10_parts 7 s args gT yX10_parts.cls) (hK : va_K D vcl (mT cB cI cZ) s) :
    ∀ (k : Nat) (j : Nat) (b : Int32) (H : Heap) (locs : List Loc) (ls : Array Slot), j + k = wn → paB Es (F 47) (Es.getD e2 dE).2.2.2.2 j b →  va_P D vcl (mW h0 q cB cI cZ I F) H → va_D A (mW h0 q cB cI cZ I F) → va_S A s.heap H locs → lv_has ls 7 [(6, .int (nI j)), (5, .int b), (4, .int (nI i)), (3, .int (nI v)), (2, .int (nI c9)), (1, .int (nI e2)), (0, .ref h0)] →
    (∀ (b : Int32) (H : Heap) (locs : List Loc) (ls : Array Slot), paB Es (F 47) (Es.getD e2 dE).2.2.2.2 wn b → va_P D vcl (mW h0 q cB cI cZ I F) H → va_D A (mW h0 q cB cI cZ I F) → va_S A s.heap H locs → lv_has ls 7 [(5, .int b), (4, .int (nI i)), (3, .int (nI v)), (2, .int (nI c9)), (1, .int (nI e2)), (0, .ref h0)] → W p l e R s m args below meth c H locs cells slots Q (F0 m 113 ls [])) →
    W p l e R s m args below meth c H locs cells slots Q (F0 m 71 ls []) := by
  obtain ⟨hx, hb, hml, hown, hts⟩ := id hf
  have hre1 := hre.1
  intro k
  induction k with
  | zero =>
    intro j b H locs ls hik hbb hP hD hS hl kk
    refine lv_iload hx hb dX10_parts_71 (lv_at hl 0 rfl) ?_
    refine lv_aload_n hx hb dX10_parts_73 rfl (lv_at hl 6 rfl) ?_
    refine va_get (D := D) (ci := 11) (v := .int (I 46)) (C := RX10) (T := TX10) (N := 48) hx hb hts inX10 hown hK hP 0 rfl rfl 46 (by decide) (hts _ k_1190) (fun _ h9 => h9) rfl dX10_parts_74 ?_
    refine q_seti (y := (nI wn)) hI46 ?_
    refine lv_icmp_ge (tgt := 113) hx hb dX10_parts_77 (by decide) (fun c_1 => ?_) (fun c_1 => ?_)
    · have c_1 := q_le (a := wn) (b := j) (by omega) (by omega) c_1
      obtain rfl : j = wn := by omega
      exact kk b H locs ls hbb hP hD hS (lv_sub hl (l' := [(5, .int b), (4, .int (nI i)), (3, .int (nI v)), (2, .int (nI c9)), (1, .int (nI e2)), (0, .ref h0)]) [1, 2, 3, 4, 5, 6] rfl)
    · have c_1 := q_nle (a := wn) (b := j) (by omega) (by omega) c_1
      exact absurd hik (by omega)
  | succ k ih =>
    intro j b H locs ls hik hbb hP hD hS hl kk
    refine lv_iload hx hb dX10_parts_71 (lv_at hl 0 rfl) ?_
    refine lv_aload_n hx hb dX10_parts_73 rfl (lv_at hl 6 rfl) ?_
    refine va_get (D := D) (ci := 11) (v := .int (I 46)) (C := RX10) (T := TX10) (N := 48) hx hb hts inX10 hown hK hP 0 rfl rfl 46 (by decide) (hts _ k_1190) (fun _ h9 => h9) rfl dX10_parts_74 ?_
    refine q_seti (y := (nI wn)) hI46 ?_
    refine lv_icmp_ge (tgt := 113) hx hb dX10_parts_77 (by decide) (fun c_1 => ?_) (fun c_1 => ?_)
    · have c_1 := q_le (a := wn) (b := j) (by omega) (by omega) c_1
      exact absurd hik (by omega)
    · have c_1 := q_nle (a := wn) (b := j) (by omega) (by omega) c_1
      refine lv_iload hx hb dX10_parts_80 (lv_at hl 1 rfl) ?_
      refine lv_if_ne (tgt := 100) hx hb dX10_parts_82 (by decide) (fun c_2 => ?_) (fun c_2 => ?_)
      · refine lv_iconst (v := 1) hx hb dX10_parts_100 (by decide) ?_
        refine lv_goto (tgt := 105) hx hb dX10_parts_101 (by decide) ?_
        refine lv_istore (lv' := [(5, .int 1), (6, .int (nI j)), (4, .int (nI i)), (3, .int (nI v)), (2, .int (nI c9)), (1, .int (nI e2)), (0, .ref h0)]) hx hb dX10_parts_105 hl (by decide) rfl (fun ls hl => ?_)
        refine lv_iinc (v := (nI (j + 1))) (lv' := [(6, .int (nI (j + 1))), (5, .int 1), (4, .int (nI i)), (3, .int (nI v)), (2, .int (nI c9)), (1, .int (nI e2)), (0, .ref h0)]) hx hb dX10_parts_107 hl (k := 1) rfl (nI_add j 1) (by decide) rfl (fun ls hl => ?_)
        refine lv_goto (tgt := 71) hx hb dX10_parts_110 (by decide) ?_
        exact ih (j + 1) _ H locs ls (by omega) (paB_k hbb c_2) hP hD hS (lv_sub hl (l' := [(6, .int (nI (j + 1))), (5, .int 1), (4, .int (nI i)), (3, .int (nI v)), (2, .int (nI c9)), (1, .int (nI e2)), (0, .ref h0)]) [0, 1, 2, 3, 4, 5, 6] rfl) kk
      · obtain ⟨e1, he1, hw1⟩ := hwho j (by omega)
        refine lv_aload_n hx hb dX10_parts_85 rfl (lv_at hl 6 rfl) ?_
        refine lv_aload_n hx hb dX10_parts_86 rfl (lv_at hl 6 rfl) ?_
        refine va_get (D := D) (ci := 11) (v := .ref (q 47)) (C := RX10) (T := TX10) (N := 48) hx hb hts inX10 hown hK hP 0 rfl rfl 47 (by decide) (hts _ k_1191) (fun _ h9 => h9) rfl dX10_parts_87 ?_
        refine lv_iload hx hb dX10_parts_90 (lv_at hl 0 rfl) ?_
        refine q_ild (X := j) (f := (F 47)) hx hb hK hP 34 1 rfl rfl (by omega) (by decide) dX10_parts_92 ?_
        refine q_seti (y := (nI e1)) hw1 ?_
        refine lv_iload_n hx hb dX10_parts_93 rfl (lv_at hl 5 rfl) ?_
        refine q_ci (k := cells) (n := slots) hK hP hD hS hA (fun hPc hKc hDc => q_rV (As := [.int (nI e1), .int (nI e2)]) (rest := []) hf (r_areLike2 _ D h0 q cB cI cZ I F Es sl e1 e2 hre (by omega) (by omega) _) k_1508 k_1505 k_1507 k_80 k_98 (nA := 2) (by decide +kernel) ⟨Nat.le_trans (by decide) hRf, Nat.le_trans (by decide) hRl⟩ hK hP (ci := 11) (q0 := 0) rfl rfl rfl hPc hKc hDc (fun _ _ _ _ h => h) (fun _ _ _ => trivial) rfl hl.1 rfl (Nat.le_of_ble_eq_true rfl) dX10_parts_94 ⟨hRc, hRs⟩) (Nat.le_refl _) (Nat.le_refl _) (fun r u H locs hw hK hP hD hS => ?_)
        rcases hw with ⟨⟨c_3, rfl⟩ | ⟨c_3, rfl⟩, rfl⟩
        · have hP : va_P D vcl (mW h0 q cB cI cZ I F) H := hP
          have hD : va_D A (mW h0 q cB cI cZ I F) := hD
          refine lv_if_eq (tgt := 104) hx hb dX10_parts_97 (by decide) (fun hno => absurd hno (by decide)) (fun _ => ?_)
          refine lv_iconst (v := 1) hx hb dX10_parts_100 (by decide) ?_
          refine lv_goto (tgt := 105) hx hb dX10_parts_101 (by decide) ?_
          refine lv_istore (lv' := [(5, .int 1), (6, .int (nI j)), (4, .int (nI i)), (3, .int (nI v)), (2, .int (nI c9)), (1, .int (nI e2)), (0, .ref h0)]) hx hb dX10_parts_105 hl (by decide) rfl (fun ls hl => ?_)
          refine lv_iinc (v := (nI (j + 1))) (lv' := [(6, .int (nI (j + 1))), (5, .int 1), (4, .int (nI i)), (3, .int (nI v)), (2, .int (nI c9)), (1, .int (nI e2)), (0, .ref h0)]) hx hb dX10_parts_107 hl (k := 1) rfl (nI_add j 1) (by decide) rfl (fun ls hl => ?_)
          refine lv_goto (tgt := 71) hx hb dX10_parts_110 (by decide) ?_
          exact ih (j + 1) _ H locs ls (by omega) (paB_y he1 hw1 c_3) hP hD hS (lv_sub hl (l' := [(6, .int (nI (j + 1))), (5, .int 1), (4, .int (nI i)), (3, .int (nI v)), (2, .int (nI c9)), (1, .int (nI e2)), (0, .ref h0)]) [0, 1, 2, 3, 4, 5, 6] rfl) kk
        · have hP : va_P D vcl (mW h0 q cB cI cZ I F) H := hP
          have hD : va_D A (mW h0 q cB cI cZ I F) := hD
          refine lv_if_eq (tgt := 104) hx hb dX10_parts_97 (by decide) (fun _ => ?_) (fun hno => absurd hno (by decide))
          refine lv_iconst (v := 0) hx hb dX10_parts_104 (by decide) ?_
          refine lv_istore (lv' := [(5, .int 0), (6, .int (nI j)), (4, .int (nI i)), (3, .int (nI v)), (2, .int (nI c9)), (1, .int (nI e2)), (0, .ref h0)]) hx hb dX10_parts_105 hl (by decide) rfl (fun ls hl => ?_)
          refine lv_iinc (v := (nI (j + 1))) (lv' := [(6, .int (nI (j + 1))), (5, .int 0), (4, .int (nI i)), (3, .int (nI v)), (2, .int (nI c9)), (1, .int (nI e2)), (0, .ref h0)]) hx hb dX10_parts_107 hl (k := 1) rfl (nI_add j 1) (by decide) rfl (fun ls hl => ?_)
          refine lv_goto (tgt := 71) hx hb dX10_parts_110 (by decide) ?_
          exact ih (j + 1) _ H locs ls (by omega) (paB_n hre1 hbb c_2 he1 hw1 c_3) hP hD hS (lv_sub hl (l' := [(6, .int (nI (j + 1))), (5, .int 0), (4, .int (nI i)), (3, .int (nI v)), (2, .int (nI c9)), (1, .int (nI e2)), (0, .ref h0)]) [0, 1, 2, 3, 4, 5, 6] rfl) kk
set_option maxHeartbeats 1000000 in
set_option maxRecDepth 100000 in
theorem lpo2_ {p : Program} {l : Launch} {e : Env} {R : Room} {s : State} {m : MethodId} {args : Array Value} {below : List Frame} {meth : Method} {c : Code} {cells slots : Nat} {Q : State → Prop} {D : va_G} {A : Nat → Prop} {h0 : Nat} {q : Nat → Nat} {cB cI cZ : ClassId} {I : Nat → Int32} {F : Nat → Nat → Int32} {Es : List E5} {sl : Nat → Nat} {mr : Nat} {Rw : Nat → Nat} {c9 e2 : Nat} (hc9 : c9 ≤ 60) (he2 : e2 < Es.length) (hre : reR F Es sl) (hI44 : I 44 = nI mr) (hm : mr ≤ 60) (hrow : ∀ j, j < mr → F 45 j = nI (Rw j) ∧ Rw j < Es.length) (hRf : 3 ≤ R.frames) (hRl : 90 ≤ R.locals) (hRc : cells ≤ R.cells) (hRs : slots ≤ R.slots) (hA : ∀ q : Nat, s.heap.size ≤ q → A q) (hf : CallFix p m c cX10_parts 7 s args gT yX10_parts.cls) (hK : va_K D vcl (mT cB cI cZ) s) :
    ∀ (k : Nat) (i : Nat) (v : Nat) (u46 : Int32) (u47 : Nat → Int32) (H : Heap) (locs : List Loc) (ls : Array Slot), i + k = c9 → v = pcnt (inS Es Rw mr (Es.getD e2 dE).2.2.2.2) i →  va_P D vcl (mW h0 q cB cI cZ (upd I 46 u46) (va_up F 47 u47)) H → va_D A (mW h0 q cB cI cZ (upd I 46 u46) (va_up F 47 u47)) → va_S A s.heap H locs → lv_has ls 7 [(4, .int (nI i)), (3, .int (nI v)), (2, .int (nI c9)), (1, .int (nI e2)), (0, .ref h0)] →
    (∀ (v : Nat) (u46 : Int32) (u47 : Nat → Int32) (H : Heap) (locs : List Loc) (ls : Array Slot), v = pcnt (inS Es Rw mr (Es.getD e2 dE).2.2.2.2) c9 → va_P D vcl (mW h0 q cB cI cZ (upd I 46 u46) (va_up F 47 u47)) H → va_D A (mW h0 q cB cI cZ (upd I 46 u46) (va_up F 47 u47)) → va_S A s.heap H locs → lv_has ls 7 [(3, .int (nI v)), (0, .ref h0)] → W p l e R s m args below meth c H locs cells slots Q (F0 m 132 ls [])) →
    W p l e R s m args below meth c H locs cells slots Q (F0 m 53 ls []) := by
  obtain ⟨hx, hb, hml, hown, hts⟩ := id hf
  have hre1 := hre.1
  intro k
  induction k with
  | zero =>
    intro i v u46 u47 H locs ls hik hv hP hD hS hl kk
    refine lv_iload hx hb dX10_parts_53 (lv_at hl 0 rfl) ?_
    refine lv_iload_n hx hb dX10_parts_55 rfl (lv_at hl 2 rfl) ?_
    refine lv_icmp_ge (tgt := 132) hx hb dX10_parts_56 (by decide) (fun c_1 => ?_) (fun c_1 => ?_)
    · have c_1 := q_le (a := c9) (b := i) (by omega) (by omega) c_1
      obtain rfl : i = c9 := by omega
      exact kk v u46 u47 H locs ls hv hP hD hS (lv_sub hl (l' := [(3, .int (nI v)), (0, .ref h0)]) [1, 4] rfl)
    · have c_1 := q_nle (a := c9) (b := i) (by omega) (by omega) c_1
      exact absurd hik (by omega)
  | succ k ih =>
    intro i v u46 u47 H locs ls hik hv hP hD hS hl kk
    refine lv_iload hx hb dX10_parts_53 (lv_at hl 0 rfl) ?_
    refine lv_iload_n hx hb dX10_parts_55 rfl (lv_at hl 2 rfl) ?_
    refine lv_icmp_ge (tgt := 132) hx hb dX10_parts_56 (by decide) (fun c_1 => ?_) (fun c_1 => ?_)
    · have c_1 := q_le (a := c9) (b := i) (by omega) (by omega) c_1
      exact absurd hik (by omega)
    · have c_1 := q_nle (a := c9) (b := i) (by omega) (by omega) c_1
      refine lv_aload_n hx hb dX10_parts_59 rfl (lv_at hl 4 rfl) ?_
      refine lv_iload hx hb dX10_parts_60 (lv_at hl 0 rfl) ?_
      refine q_cv (k := cells) (n := slots) hK hP hD hS hA (fun hPc hKc hDc => q_rV (As := [.int (nI i)]) (rest := []) hf (r_findWho2 _ D h0 q cB cI cZ (upd I 46 u46) (va_up F 47 u47) Es sl mr Rw i (by omega) hre hI44 hm hrow _) k_1500 k_1497 k_1499 k_78 k_98 (nA := 1) (by decide +kernel) ⟨Nat.le_trans (by decide) hRf, Nat.le_trans (by decide) hRl⟩ hK hP (ci := 11) (q0 := 0) rfl rfl rfl hPc hKc hDc (fun _ _ _ _ h => h) (fun _ _ _ => trivial) rfl hl.1 rfl (Nat.le_of_ble_eq_true rfl) dX10_parts_62 ⟨hRc, hRs⟩) (Nat.le_refl _) (Nat.le_refl _) (fun u H locs hw hK hP hD hS => ?_)
      obtain ⟨wn, g47, z1, z2, hwn, hwho, hwa, hwb, hwq, hwc, rfl⟩ := hw
      have hP : va_P D vcl (mW h0 q cB cI cZ (upd I 46 (nI wn)) (va_up F 47 g47)) H := hP
      have hD : va_D A (mW h0 q cB cI cZ (upd I 46 (nI wn)) (va_up F 47 g47)) := hD
      refine lv_iconst (v := 0) hx hb dX10_parts_65 (by decide) ?_
      refine lv_istore (lv' := [(5, .int 0), (4, .int (nI i)), (3, .int (nI v)), (2, .int (nI c9)), (1, .int (nI e2)), (0, .ref h0)]) hx hb dX10_parts_66 hl (by decide) rfl (fun ls hl => ?_)
      refine lv_iconst (v := 0) hx hb dX10_parts_68 (by decide) ?_
      refine lv_istore (lv' := [(6, .int 0), (5, .int 0), (4, .int (nI i)), (3, .int (nI v)), (2, .int (nI c9)), (1, .int (nI e2)), (0, .ref h0)]) hx hb dX10_parts_69 hl (by decide) rfl (fun ls hl => ?_)
      refine lpi2_ (I := (upd I 46 (nI wn))) (F := (va_up F 47 g47)) (Es := Es) (sl := sl) (wn := wn) (i := i) (e2 := e2) (c9 := c9) (v := v) hre rfl hwn hwho he2 (Nat.le_trans (by decide) hRf) (Nat.le_trans (by decide) hRl) hRc hRs hA hf hK wn 0 _ _ _ ls (by omega) (Or.inr ⟨rfl, fun u e hu => absurd hu (Nat.not_lt_zero u)⟩) hP hD hS (lv_sub hl (l' := [(6, .int 0), (5, .int 0), (4, .int (nI i)), (3, .int (nI v)), (2, .int (nI c9)), (1, .int (nI e2)), (0, .ref h0)]) [0, 1, 2, 3, 4, 5, 6] rfl) (fun b H locs ls hbb hP hD hS hl => ?_)
      have hbb : paB Es g47 (Es.getD e2 dE).2.2.2.2 wn b := hbb
      refine lv_iload_n hx hb dX10_parts_113 rfl (lv_at hl 2 rfl) ?_
      refine lv_iload hx hb dX10_parts_114 (lv_at hl 0 rfl) ?_
      refine lv_if_eq (tgt := 123) hx hb dX10_parts_116 (by decide) (fun c_2 => ?_) (fun c_2 => ?_)
      · refine lv_iconst (v := 0) hx hb dX10_parts_123 (by decide) ?_
        refine lv_iadd hx hb dX10_parts_124 ?_
        refine q_seti (y := nI (v + 0)) (nI_add v 0) ?_
        refine q_seti (y := nI v) (congrArg nI (show v + 0 = v by omega)) ?_
        refine lv_istore_n (lv' := [(3, .int (nI v)), (5, .int b), (4, .int (nI i)), (2, .int (nI c9)), (1, .int (nI e2)), (0, .ref h0)]) hx hb dX10_parts_125 rfl hl (by decide) rfl (fun ls hl => ?_)
        refine lv_iinc (v := (nI (i + 1))) (lv' := [(4, .int (nI (i + 1))), (3, .int (nI v)), (5, .int b), (2, .int (nI c9)), (1, .int (nI e2)), (0, .ref h0)]) hx hb dX10_parts_126 hl (k := 2) rfl (nI_add i 1) (by decide) rfl (fun ls hl => ?_)
        refine lv_goto (tgt := 53) hx hb dX10_parts_129 (by decide) ?_
        have hq9 := paB_in hbb hwq hwa hwb
        have hc9a := pcnt_0 (hq9.2 c_2)
        exact ih (i + 1) v _ _ H locs ls (by omega) (by omega) hP hD hS (lv_sub hl (l' := [(4, .int (nI (i + 1))), (3, .int (nI v)), (2, .int (nI c9)), (1, .int (nI e2)), (0, .ref h0)]) [0, 1, 3, 4, 5] rfl) kk
      · refine lv_iconst (v := 1) hx hb dX10_parts_119 (by decide) ?_
        refine lv_goto (tgt := 124) hx hb dX10_parts_120 (by decide) ?_
        refine lv_iadd hx hb dX10_parts_124 ?_
        refine q_seti (y := nI (v + 1)) (nI_add v 1) ?_
        refine lv_istore_n (lv' := [(3, .int (nI (v + 1))), (5, .int b), (4, .int (nI i)), (2, .int (nI c9)), (1, .int (nI e2)), (0, .ref h0)]) hx hb dX10_parts_125 rfl hl (by decide) rfl (fun ls hl => ?_)
        refine lv_iinc (v := (nI (i + 1))) (lv' := [(4, .int (nI (i + 1))), (3, .int (nI (v + 1))), (5, .int b), (2, .int (nI c9)), (1, .int (nI e2)), (0, .ref h0)]) hx hb dX10_parts_126 hl (k := 2) rfl (nI_add i 1) (by decide) rfl (fun ls hl => ?_)
        refine lv_goto (tgt := 53) hx hb dX10_parts_129 (by decide) ?_
        have hq9 := paB_in hbb hwq hwa hwb
        have hc9a := pcnt_1 (hq9.1 c_2)
        exact ih (i + 1) (v + 1) _ _ H locs ls (by omega) (by omega) hP hD hS (lv_sub hl (l' := [(4, .int (nI (i + 1))), (3, .int (nI (v + 1))), (2, .int (nI c9)), (1, .int (nI e2)), (0, .ref h0)]) [0, 1, 3, 4, 5] rfl) kk
set_option maxHeartbeats 1000000 in
set_option maxRecDepth 100000 in
theorem r_parts2 (l : Launch) (D : va_G) (h0 : Nat) (q : Nat → Nat) (cB cI_ cZ : ClassId) (I : Nat → Int32) (F : Nat → Nat → Int32) (Es : List E5) (sl : Nat → Nat) (P : List Q4) (x1 : Int32) (hI3 : I 3 = nI Es.length) (hre : reR F Es sl) (hI14 : I 14 = nI P.length) (hpn : P.length ≤ 7000) (hpcF : pc_is P (F 15) (F 16) (F 17) (F 18)) (hQ : pq_ok Es.length (fun e => Es.getD e dE) P) (hmg : (mgI P P.length).length ≤ 60) : cI l D yX10_parts cX10_parts 7 (some .int) 4 120 0 0 [.ref h0, .int x1] zT (mW h0 q cB cI_ cZ I F) (mT cB cI_ cZ) (fun r u => paC Es.length Es (fun j => (mgI P P.length).getD j 0) (mgI P P.length).length x1 r ∧ (∃ (I2 : Nat → Int32) (F2 : Nat → Nat → Int32), sm I I2 F F2 ∧ u = (mW h0 q cB cI_ cZ I2 F2, mT cB cI_ cZ))) := by
  refine q_si (by decide) (Nat.le_of_ble_eq_true rfl) ?_
  intro p e s m below meth c A ls hAe hf hr hlocks hin hK hP hD hS hA hZ hl
  obtain ⟨hx, hb, hml, hown, hts⟩ := id hf
  have hl : lv_has ls 7 [(0, .ref h0), (1, .int x1)] := hl
  have hre1 := hre.1
  refine lv_aload_n hx hb dX10_parts_0 rfl (lv_at hl 0 rfl) ?_
  refine lv_iload_n hx hb dX10_parts_1 rfl (lv_at hl 1 rfl) ?_
  refine q_ci (k := 0) (n := 0) hK hP hD hS hA (fun hPc hKc hDc => q_rV (As := [.int x1]) (rest := []) hf (r_isElement _ D h0 q cB cI_ cZ I F Es.length x1 hI3 hre.1 _) k_1371 k_1368 k_1370 k_59 k_98 (nA := 1) (by decide +kernel) ⟨Nat.le_of_ble_eq_true rfl, Nat.le_of_ble_eq_true rfl⟩ hK hP (ci := 11) (q0 := 0) rfl rfl rfl hPc hKc hDc (fun _ _ _ _ h => h) (fun _ _ _ => trivial) rfl hl.1 rfl (Nat.le_of_ble_eq_true rfl) dX10_parts_2 ⟨Nat.le_of_ble_eq_true rfl, Nat.le_of_ble_eq_true rfl⟩) (by decide) (by decide) (fun r u H locs hw hK hP hD hS => ?_)
  rcases hw with ⟨⟨c_1, rfl⟩ | ⟨c_1, rfl⟩, rfl⟩
  · have hP : va_P D vcl (mW h0 q cB cI_ cZ I F) H := hP
    have hD : va_D A (mW h0 q cB cI_ cZ I F) := hD
    refine lv_if_ne (tgt := 11) hx hb dX10_parts_5 (by decide) (fun _ => ?_) (fun hno => absurd hno (by decide))
    obtain ⟨j, hj, rfl⟩ := c_1
    have hslj := (hre.2.1 j hj).2.1
    have hrwj := elF_rw (hre.2.1 j hj).2.2
    have hl : lv_has ls 7 [(0, .ref h0), (1, .int (nI j))] := hl
    refine lv_aload_n hx hb dX10_parts_11 rfl (lv_at hl 0 rfl) ?_
    refine va_get (D := D) (ci := 11) (v := .ref (q 6)) (C := RX10) (T := TX10) (N := 48) hx hb hts inX10 hown hK hP 0 rfl rfl 6 (by decide) (hts _ k_1150) (fun _ h9 => h9) rfl dX10_parts_12 ?_
    refine lv_aload_n hx hb dX10_parts_15 rfl (lv_at hl 0 rfl) ?_
    refine va_get (D := D) (ci := 11) (v := .ref (q 4)) (C := RX10) (T := TX10) (N := 48) hx hb hts inX10 hown hK hP 0 rfl rfl 4 (by decide) (hts _ k_1148) (fun _ h9 => h9) rfl dX10_parts_16 ?_
    refine lv_iload_n hx hb dX10_parts_19 rfl (lv_at hl 1 rfl) ?_
    refine q_ild (X := j) (f := (F 4)) hx hb hK hP 2 1 rfl rfl (by omega) (by decide) dX10_parts_20 ?_
    refine q_seti (y := (nI ((sl j)))) (hre.2.1 j (by omega)).1 ?_
    refine q_ild (X := (sl j)) (f := (F 6)) hx hb hK hP 4 1 rfl rfl (by omega) (by decide) dX10_parts_21 ?_
    refine q_seti (y := (Es.getD j dE).1) (hre.2.1 j (by omega)).2.2.2.1 ?_
    refine lv_iconst (v := 2) hx hb dX10_parts_22 (by decide) ?_
    refine lv_icmp_ne (tgt := 40) hx hb dX10_parts_23 (by decide) (fun c_2 => ?_) (fun c_2 => ?_)
    · refine lv_bipush (v := (-3)) hx hb dX10_parts_40 (by decide) ?_
      exact q_zi hf hr rfl hlocks hK hP hD hS (Nat.le_of_ble_eq_true rfl) (Nat.le_of_ble_eq_true rfl) ⟨Or.inr (Or.inl ⟨j, hj, rfl, Or.inl c_2, rfl⟩), ⟨I, F, ⟨⟨rfl, rfl, rfl⟩, ⟨rfl, rfl, rfl⟩, ⟨rfl, rfl, rfl, rfl, rfl, rfl, rfl, rfl, rfl, rfl, rfl⟩, rfl, rfl, rfl, rfl⟩, rfl⟩⟩ dX10_parts_42
    · refine lv_aload_n hx hb dX10_parts_26 rfl (lv_at hl 0 rfl) ?_
      refine va_get (D := D) (ci := 11) (v := .ref (q 7)) (C := RX10) (T := TX10) (N := 48) hx hb hts inX10 hown hK hP 0 rfl rfl 7 (by decide) (hts _ k_1151) (fun _ h9 => h9) rfl dX10_parts_27 ?_
      refine lv_aload_n hx hb dX10_parts_30 rfl (lv_at hl 0 rfl) ?_
      refine va_get (D := D) (ci := 11) (v := .ref (q 4)) (C := RX10) (T := TX10) (N := 48) hx hb hts inX10 hown hK hP 0 rfl rfl 4 (by decide) (hts _ k_1148) (fun _ h9 => h9) rfl dX10_parts_31 ?_
      refine lv_iload_n hx hb dX10_parts_34 rfl (lv_at hl 1 rfl) ?_
      refine q_ild (X := j) (f := (F 4)) hx hb hK hP 2 1 rfl rfl (by omega) (by decide) dX10_parts_35 ?_
      refine q_seti (y := (nI ((sl j)))) (hre.2.1 j (by omega)).1 ?_
      refine q_zld (X := (sl j)) (f := (F 7)) hx hb hK hP 5 2 rfl rfl (by omega) (by decide) dX10_parts_36 ?_
      refine q_seti (y := (Es.getD j dE).2.2.1) (hre.2.1 j (by omega)).2.2.2.2.1 ?_
      refine lv_if_eq (tgt := 43) hx hb dX10_parts_37 (by decide) (fun c_3 => ?_) (fun c_3 => ?_)
      · refine lv_aload_n hx hb dX10_parts_43 rfl (lv_at hl 0 rfl) ?_
        refine q_ci (k := 0) (n := 0) hK hP hD hS hA (fun hPc hKc hDc => q_rV (As := []) (rest := []) hf (r_scenes _ D h0 q cB cI_ cZ I F Es sl P hre hI14 hpn hpcF hQ hmg _) k_1483 k_1496 k_1481 k_1482 k_98 (nA := 0) (by decide +kernel) ⟨Nat.le_of_ble_eq_true rfl, Nat.le_of_ble_eq_true rfl⟩ hK hP (ci := 11) (q0 := 0) rfl rfl rfl hPc hKc hDc (fun _ _ _ _ h => h) (fun _ _ _ => trivial) rfl hl.1 rfl (Nat.le_of_ble_eq_true rfl) dX10_parts_44 ⟨Nat.le_of_ble_eq_true rfl, Nat.le_of_ble_eq_true rfl⟩) (by decide) (by decide) (fun r u H locs hw hK hP hD hS => ?_)
        obtain ⟨g45, hr9, hrwI, rfl⟩ := hw
        obtain ⟨c9, hc9, rfl⟩ : ∃ c9 : Nat, c9 = hdC Es (fun j => (mgI P P.length).getD j 0) (mgI P P.length).length ∧ r = nI c9 := ⟨_, rfl, hr9⟩
        have hc8 := hdC_le Es (fun j => (mgI P P.length).getD j 0) (mgI P P.length).length
        have hrow : ∀ j, j < (mgI P P.length).length → g45 j = nI ((fun j => (mgI P P.length).getD j 0) j) ∧ (fun j => (mgI P P.length).getD j 0) j < Es.length := fun j hj => ⟨hrwI j hj, mgI_in (fun i hi => (hQ i hi).1) _ (Nat.le_refl _) j hj⟩
        have hP : va_P D vcl (mW h0 q cB cI_ cZ (upd I 44 (nI ((mgI P P.length).length))) (va_up F 45 g45)) H := hP
        have hD : va_D A (mW h0 q cB cI_ cZ (upd I 44 (nI ((mgI P P.length).length))) (va_up F 45 g45)) := hD
        refine lv_istore_n (lv' := [(2, .int (nI c9)), (0, .ref h0), (1, .int (nI j))]) hx hb dX10_parts_47 rfl hl (by decide) rfl (fun ls hl => ?_)
        refine lv_iconst (v := 0) hx hb dX10_parts_48 (by decide) ?_
        refine lv_istore_n (lv' := [(3, .int 0), (2, .int (nI c9)), (0, .ref h0), (1, .int (nI j))]) hx hb dX10_parts_49 rfl hl (by decide) rfl (fun ls hl => ?_)
        refine lv_iconst (v := 0) hx hb dX10_parts_50 (by decide) ?_
        refine lv_istore (lv' := [(4, .int 0), (3, .int 0), (2, .int (nI c9)), (0, .ref h0), (1, .int (nI j))]) hx hb dX10_parts_51 hl (by decide) rfl (fun ls hl => ?_)
        have hz9 : (va_up F 45 g45) = va_up (va_up F 45 g45) 47 (F 47) := (va_up_id9 (va_up F 45 g45) 47).symm
        obtain ⟨hP, hD⟩ := q_set4 hz9 hP hD
        have hy9 : (upd I 44 (nI ((mgI P P.length).length))) = upd (upd I 44 (nI ((mgI P P.length).length))) 46 (I 46) := (upd_id9 (upd I 44 (nI ((mgI P P.length).length))) 46).symm
        obtain ⟨hP, hD⟩ := q_set5 hy9 hP hD
        refine lpo2_ (I := (upd I 44 (nI ((mgI P P.length).length)))) (F := (va_up F 45 g45)) (Es := Es) (sl := sl) (mr := (mgI P P.length).length) (Rw := (fun j => (mgI P P.length).getD j 0)) (c9 := c9) (e2 := j) (by omega) hj hre rfl hmg hrow (Nat.le_of_ble_eq_true rfl) (Nat.le_of_ble_eq_true rfl) (Nat.le_of_ble_eq_true rfl) (Nat.le_of_ble_eq_true rfl) hA hf hK c9 0 0 (I 46) (F 47) _ _ ls (by omega) rfl hP hD hS (lv_sub hl (l' := [(4, .int 0), (3, .int 0), (2, .int (nI c9)), (1, .int (nI j)), (0, .ref h0)]) [0, 1, 2, 4, 3] rfl) (fun v u46 u47 H locs ls hv hP hD hS hl => ?_)
        have hP : va_P D vcl (mW h0 q cB cI_ cZ (upd (upd I 44 (nI ((mgI P P.length).length))) 46 u46) (va_up (va_up F 45 g45) 47 u47)) H := hP
        have hD : va_D A (mW h0 q cB cI_ cZ (upd (upd I 44 (nI ((mgI P P.length).length))) 46 u46) (va_up (va_up F 45 g45) 47 u47)) := hD
        refine lv_iload_n hx hb dX10_parts_132 rfl (lv_at hl 0 rfl) ?_
        exact q_zi hf hr rfl hlocks hK hP hD hS (Nat.le_of_ble_eq_true rfl) (Nat.le_of_ble_eq_true rfl) ⟨Or.inr (Or.inr ⟨j, hj, rfl, ⟨c_2, c_3⟩, by rw [hv, hc9]⟩), ⟨(upd (upd I 44 (nI ((mgI P P.length).length))) 46 u46), (va_up (va_up F 45 g45) 47 u47), ⟨⟨rfl, rfl, rfl⟩, ⟨rfl, rfl, rfl⟩, ⟨rfl, rfl, rfl, rfl, rfl, rfl, rfl, rfl, rfl, rfl, rfl⟩, rfl, rfl, rfl, rfl⟩, rfl⟩⟩ dX10_parts_133
      · refine lv_bipush (v := (-3)) hx hb dX10_parts_40 (by decide) ?_
        exact q_zi hf hr rfl hlocks hK hP hD hS (Nat.le_of_ble_eq_true rfl) (Nat.le_of_ble_eq_true rfl) ⟨Or.inr (Or.inl ⟨j, hj, rfl, Or.inr c_3, rfl⟩), ⟨I, F, ⟨⟨rfl, rfl, rfl⟩, ⟨rfl, rfl, rfl⟩, ⟨rfl, rfl, rfl, rfl, rfl, rfl, rfl, rfl, rfl, rfl, rfl⟩, rfl, rfl, rfl, rfl⟩, rfl⟩⟩ dX10_parts_42
  · have hP : va_P D vcl (mW h0 q cB cI_ cZ I F) H := hP
    have hD : va_D A (mW h0 q cB cI_ cZ I F) := hD
    refine lv_if_ne (tgt := 11) hx hb dX10_parts_5 (by decide) (fun hno => absurd hno (by decide)) (fun _ => ?_)
    refine lv_bipush (v := (-2)) hx hb dX10_parts_8 (by decide) ?_
    exact q_zi hf hr rfl hlocks hK hP hD hS (Nat.le_of_ble_eq_true rfl) (Nat.le_of_ble_eq_true rfl) ⟨Or.inl ⟨c_1, rfl⟩, ⟨I, F, ⟨⟨rfl, rfl, rfl⟩, ⟨rfl, rfl, rfl⟩, ⟨rfl, rfl, rfl, rfl, rfl, rfl, rfl, rfl, rfl, rfl, rfl⟩, rfl, rfl, rfl, rfl⟩, rfl⟩⟩ dX10_parts_10
set_option maxHeartbeats 1000000 in
set_option maxRecDepth 100000 in
theorem pt2_loop {p : Program} {l : Launch} {e : Env} {R : Room} {s : State} {m : MethodId} {args : Array Value} {below : List Frame} {meth : Method} {c : Code} {Q : State → Prop} {D : va_G} {A : Nat → Prop} {z : Nat → Nat} {cB cI_ cO : ClassId} {L0 : List Nat} {g0 : hG} {cells slots : Nat} {dk tp rd els reo nob bk gl mo : Nat} {pr pcs spr nwh cp : Nat} {pa : List Nat} {ea : Nat → Nat} {P : List Q4} {ne : Nat} {EE : Nat → E5} {sl : Nat} {v10 v11 : Int32} {el2 tx2 rf2 rt2 rn2 w2 N2 : Nat} {kd2 nm2 sk2 : Int32} {Y : List Int32} {tg : Nat → Int32} (h_dk : ho L0 g0 dk 1 (.inr (10, [.ref tp, .ref rd, .ref els, .ref reo, .ref nob, .ref pr, .ref bk, .ref gl, .ref sl, .int (nI mo), .int v10, .int v11]))) (h_pr : ho L0 g0 pr 13 (.inr (7, [.ref pcs, .ref spr, .ref nwh]))) (h_pcs : alR cO (z 0) 14 15 L0 g0 pcs cp pa) (h_pc : pcR L0 g0 ea pa P) (h_es : esR cB cI_ L0 g0 ea ne EE) (h_sl : ho L0 g0 sl 29 (.inr (8, [.ref pr]))) (h_em : ho L0 g0 el2 9 (.inr (2, [.int kd2, .int nm2, .int sk2, .ref tx2, .int (nI (Y.length)), .int (nI w2), .ref rf2, .ref rt2, .int (nI rn2)]))) (h_ty : ho L0 g0 tx2 10 (.inl (cB, N2, .inl tg))) (hpa : pa.length ≤ 20000) (hQ : pq_ok ne EE P) (hY : tx_is Y tg) (hN2 : Y.length ≤ N2) (hN3 : N2 ≤ 1200) (hRf : 9 ≤ R.frames) (hRl : 230 ≤ R.locals) (hRc : cells ≤ R.cells) (hRs : slots ≤ R.slots) (hA : ∀ q : Nat, s.heap.size ≤ q → A q) (hf : CallFix p m c cX9_parts 6 s args gT yX9_parts.cls) (hK : va_K D vcl (dT cB cI_ cO) s) (hZ : zA z A s s.heap) (hN : zB z s) :
    ∀ (k : Nat) (i : Nat) (c9 : Nat) (H : Heap) (locs : List Loc) (ls : Array Slot), i + k = pcnt (bgq EE P 0) pa.length → c9 ≤ i → c9 = pcnt (paS EE P pa.length Y) i → va_P D vcl (dW L0 g0) H → va_D A (dW L0 g0) → va_S A s.heap H locs → lv_has ls 6 [(5, .int (nI i)), (3, .int (nI c9)), (0, .ref dk), (2, .ref el2), (4, .int (nI ((pcnt (bgq EE P 0) pa.length))))] →
    (∀ (c9 : Nat) (hcv : c9 = pcnt (paS EE P pa.length Y) (pcnt (bgq EE P 0) pa.length)) (H : Heap) (locs : List Loc) (ls : Array Slot), va_P D vcl (dW L0 g0) H → va_D A (dW L0 g0) → va_S A s.heap H locs → lv_has ls 6 [(3, .int (nI c9)), (0, .ref dk)] → W p l e R s m args below meth c H locs cells slots Q (F0 m 96 ls [])) →
    W p l e R s m args below meth c H locs cells slots Q (F0 m 49 ls []) := by
  obtain ⟨hx, hb, hml, hown, hts⟩ := id hf
  have hpl9 := pcnt_le (bgq EE P 0) pa.length
  intro k
  induction k with
  | zero =>
    intro i c9 H locs ls hik hc9 hcv hP hD hS hl kk
    refine lv_iload hx hb dX9_parts_49 (lv_at hl 0 rfl) ?_
    refine lv_iload hx hb dX9_parts_51 (lv_at hl 4 rfl) ?_
    refine lv_icmp_ge (tgt := 96) hx hb dX9_parts_53 (by decide) (fun c_1 => ?_) (fun c_1 => ?_)
    · have c_1 := q_le (a := (pcnt (bgq EE P 0) pa.length)) (b := i) (by omega) (by omega) c_1
      obtain rfl : i = pcnt (bgq EE P 0) pa.length := by omega
      exact kk c9 hcv H locs ls hP hD hS (lv_sub hl (l' := [(3, .int (nI c9)), (0, .ref dk)]) [1, 2] rfl)
    · have c_1 := q_nle (a := (pcnt (bgq EE P 0) pa.length)) (b := i) (by omega) (by omega) c_1
      exact False.elim (by omega)
  | succ k ih =>
    intro i c9 H locs ls hik hc9 hcv hP hD hS hl kk
    refine lv_iload hx hb dX9_parts_49 (lv_at hl 0 rfl) ?_
    refine lv_iload hx hb dX9_parts_51 (lv_at hl 4 rfl) ?_
    refine lv_icmp_ge (tgt := 96) hx hb dX9_parts_53 (by decide) (fun c_1 => ?_) (fun c_1 => ?_)
    · have c_1 := q_le (a := (pcnt (bgq EE P 0) pa.length)) (b := i) (by omega) (by omega) c_1
      exact False.elim (by omega)
    · have c_1 := q_nle (a := (pcnt (bgq EE P 0) pa.length)) (b := i) (by omega) (by omega) c_1
      have hpl9 := pcnt_le (bgq EE P 0) pa.length
      refine lv_aload_n hx hb dX9_parts_56 rfl (lv_at hl 2 rfl) ?_
      refine o_get (D := D) (ci := 10) (v := .ref sl) (C := RX9) (T := TX9) (N := 12) hx hb hts inX9 hown hK hP h_dk rfl 8 (by decide) (hts _ k_437) (fun _ h9 => h9) rfl dX9_parts_57 ?_
      refine lv_aload_n hx hb dX9_parts_60 rfl (lv_at hl 2 rfl) ?_
      refine o_get (D := D) (ci := 10) (v := .ref sl) (C := RX9) (T := TX9) (N := 12) hx hb hts inX9 hown hK hP h_dk rfl 8 (by decide) (hts _ k_437) (fun _ h9 => h9) rfl dX9_parts_61 ?_
      refine lv_iload hx hb dX9_parts_64 (lv_at hl 0 rfl) ?_
      refine o_cis (k := cells) (n := slots) hK hP hD hS hA (o_rV (As := [.int (nI i)]) (rest := [.ref sl]) hf (sl_begin2 _ _ _ _ _ _ _ _ pr pcs spr nwh cp pa ea P ne EE sl i h_pr h_pcs h_pc h_es h_sl hpa hQ (by omega) _) k_1060 k_1057 k_1058 k_1059 k_97 (nA := 1) (by decide +kernel) ⟨Nat.le_trans (by decide) hRf, Nat.le_trans (by decide) hRl⟩ hK hP hD hS hA hZ hN h_sl rfl rfl rfl hl.1 rfl (Nat.le_of_ble_eq_true rfl) dX9_parts_66 ⟨(show cells + 0 ≤ R.cells by omega), (show slots + 0 ≤ R.slots by omega)⟩) (Nat.le_refl _) (Nat.le_refl _) (fun r H locs hw hP hD hS => ?_)
      obtain ⟨t2, rfl, ht2⟩ := hw
      have hlt2 := bgs_le ht2
      have hk1 := bgs_in ht2 (show i < pcnt (bgq EE P 0) pa.length by omega)
      refine lv_aload_n hx hb dX9_parts_69 rfl (lv_at hl 2 rfl) ?_
      refine o_get (D := D) (ci := 10) (v := .ref sl) (C := RX9) (T := TX9) (N := 12) hx hb hts inX9 hown hK hP h_dk rfl 8 (by decide) (hts _ k_437) (fun _ h9 => h9) rfl dX9_parts_70 ?_
      refine lv_iload hx hb dX9_parts_73 (lv_at hl 0 rfl) ?_
      refine lv_iconst (v := 1) hx hb dX9_parts_75 (by decide) ?_
      refine lv_iadd hx hb dX9_parts_76 ?_
      refine q_seti (y := nI (i + 1)) (nI_addE (a := i) (b := 1) (by omega)) ?_
      refine o_cis (k := cells) (n := slots) hK hP hD hS hA (o_rV (As := [.int (nI (i + 1))]) (rest := [.int (nI t2), .ref sl]) hf (sl_begin2 _ _ _ _ _ _ _ _ pr pcs spr nwh cp pa ea P ne EE sl (i + 1) h_pr h_pcs h_pc h_es h_sl hpa hQ (by omega) _) k_1060 k_1057 k_1058 k_1059 k_97 (nA := 1) (by decide +kernel) ⟨Nat.le_trans (by decide) hRf, Nat.le_trans (by decide) hRl⟩ hK hP hD hS hA hZ hN h_sl rfl rfl rfl hl.1 rfl (Nat.le_of_ble_eq_true rfl) dX9_parts_77 ⟨(show cells + 0 ≤ R.cells by omega), (show slots + 0 ≤ R.slots by omega)⟩) (Nat.le_refl _) (Nat.le_refl _) (fun r H locs hw hP hD hS => ?_)
      obtain ⟨t3, rfl, ht3⟩ := hw
      have hlt3 := bgs_le ht3
      have hk2 := bgs_mo ht2 ht3 (show i < i + 1 by omega) hk1
      refine lv_aload_n hx hb dX9_parts_80 rfl (lv_at hl 3 rfl) ?_
      refine o_cis (k := cells) (n := slots) hK hP hD hS hA (o_rV (As := [.int (nI t2), .int (nI t3), .ref el2]) (rest := []) hf (sl_has _ _ _ _ _ _ _ _ pr pcs spr nwh cp pa ea P ne EE sl t2 t3 el2 tx2 rf2 rt2 rn2 w2 N2 kd2 nm2 sk2 Y tg h_pr h_pcs h_pc h_es h_sl h_em h_ty hpa hQ (by omega) (by omega) hY hN2 hN3 _) k_1072 k_1106 k_1070 k_1071 k_97 (nA := 3) (by decide +kernel) ⟨Nat.le_trans (by decide) hRf, Nat.le_trans (by decide) hRl⟩ hK hP hD hS hA hZ hN h_sl rfl rfl rfl hl.1 rfl (Nat.le_of_ble_eq_true rfl) dX9_parts_81 ⟨(show cells + 0 ≤ R.cells by omega), (show slots + 0 ≤ R.slots by omega)⟩) (Nat.le_refl _) (Nat.le_refl _) (fun r H locs hw hP hD hS => ?_)
      rcases hw with ⟨c_4, rfl⟩ | ⟨c_4, rfl⟩
      · have hP := hP
        refine lv_if_eq (tgt := 90) hx hb dX9_parts_84 (by decide) (fun hno => absurd hno (by decide)) (fun _ => ?_)
        refine lv_iinc (v := nI (c9 + 1)) (lv' := [(3, .int (nI (c9 + 1))), (5, .int (nI i)), (0, .ref dk), (2, .ref el2), (4, .int (nI ((pcnt (bgq EE P 0) pa.length))))]) hx hb dX9_parts_87 hl (k := 1) rfl (nI_addE (a := c9) (b := 1) (by omega)) (by decide) rfl (fun ls hl => ?_)
        refine lv_iinc (v := nI (i + 1)) (lv' := [(5, .int (nI (i + 1))), (3, .int (nI (c9 + 1))), (0, .ref dk), (2, .ref el2), (4, .int (nI ((pcnt (bgq EE P 0) pa.length))))]) hx hb dX9_parts_90 hl (k := 1) rfl (nI_addE (a := i) (b := 1) (by omega)) (by decide) rfl (fun ls hl => ?_)
        refine lv_goto (tgt := 49) hx hb dX9_parts_93 (by decide) ?_
        have hcc9 := pcnt_1 (paS_y ht2 ht3 c_4)
        exact ih (i + 1) (c9 + 1) H locs ls (by omega) (by omega) (by omega) hP hD hS (lv_sub hl (l' := [(5, .int (nI (i + 1))), (3, .int (nI (c9 + 1))), (0, .ref dk), (2, .ref el2), (4, .int (nI ((pcnt (bgq EE P 0) pa.length))))]) [0, 1, 2, 3, 4] rfl) kk
      · have hP := hP
        refine lv_if_eq (tgt := 90) hx hb dX9_parts_84 (by decide) (fun _ => ?_) (fun hno => absurd hno (by decide))
        refine lv_iinc (v := nI (i + 1)) (lv' := [(5, .int (nI (i + 1))), (3, .int (nI c9)), (0, .ref dk), (2, .ref el2), (4, .int (nI ((pcnt (bgq EE P 0) pa.length))))]) hx hb dX9_parts_90 hl (k := 0) rfl (nI_addE (a := i) (b := 1) (by omega)) (by decide) rfl (fun ls hl => ?_)
        refine lv_goto (tgt := 49) hx hb dX9_parts_93 (by decide) ?_
        have hcc9 := pcnt_0 (paS_n ht2 ht3 c_4)
        exact ih (i + 1) c9 H locs ls (by omega) (by omega) (by omega) hP hD hS (lv_sub hl (l' := [(5, .int (nI (i + 1))), (3, .int (nI c9)), (0, .ref dk), (2, .ref el2), (4, .int (nI ((pcnt (bgq EE P 0) pa.length))))]) [0, 1, 2, 3, 4] rfl) kk
set_option maxHeartbeats 1000000 in
set_option maxRecDepth 100000 in
theorem d_parts2 (l : Launch) (D : va_G) (z : Nat → Nat) (cB cI_ cO : ClassId) (L0 : List Nat) (g0 : hG) (dk tp rd els reo nob bk gl mo : Nat) (pr pcs spr nwh cp : Nat) (pa : List Nat) (ea : Nat → Nat) (P : List Q4) (ne : Nat) (EE : Nat → E5) (sl : Nat) (v10 v11 : Int32) (cap : Nat) (xs : List Nat) (Es : List E5) (x1 : Int32) (h_dk : ho L0 g0 dk 1 (.inr (10, [.ref tp, .ref rd, .ref els, .ref reo, .ref nob, .ref pr, .ref bk, .ref gl, .ref sl, .int (nI mo), .int v10, .int v11]))) (h_pr : ho L0 g0 pr 13 (.inr (7, [.ref pcs, .ref spr, .ref nwh]))) (h_pcs : alR cO (z 0) 14 15 L0 g0 pcs cp pa) (h_pc : pcR L0 g0 ea pa P) (h_es : esR cB cI_ L0 g0 ea ne EE) (h_sl : ho L0 g0 sl 29 (.inr (8, [.ref pr]))) (h_els : alR cO (z 0) 5 6 L0 g0 els cap xs) (hpa : pa.length ≤ 20000) (hQ : pq_ok ne EE P) (hxl : xs.length ≤ 60) (h_els9 : elsR cB cI_ L0 g0 xs Es) : eIs l D yX9_parts cX9_parts 6 (some .int) 9 230 0 0 [.ref dk, .int x1] z cB cI_ cO L0 g0 (fun r => ((¬ (∃ j : Nat, j < xs.length ∧ x1 = nI j) ∧ r = (-2)) ∨ (∃ j : Nat, j < xs.length ∧ x1 = nI j ∧ (¬ (Es.getD j dE).1 = 2 ∨ ¬ (Es.getD j dE).2.2.1 = 0) ∧ r = (-3)) ∨ (∃ j : Nat, j < xs.length ∧ x1 = nI j ∧ ((Es.getD j dE).1 = 2 ∧ (Es.getD j dE).2.2.1 = 0) ∧ r = nI (pcnt (paS EE P pa.length (Es.getD j dE).2.2.2.2) (pcnt (bgq EE P 0) pa.length))))) := by
  refine o_si (by decide) (Nat.le_of_ble_eq_true rfl) ?_
  intro p e s m below meth c A ls hf hr hlocks hin hK hP hD hS hA hZ hN hl
  obtain ⟨hx, hb, hml, hown, hts⟩ := id hf
  have hl : lv_has ls 6 [(0, .ref dk), (1, .int x1)] := hl
  refine lv_aload_n hx hb dX9_parts_0 rfl (lv_at hl 0 rfl) ?_
  refine lv_iload_n hx hb dX9_parts_1 rfl (lv_at hl 1 rfl) ?_
  refine o_cis (k := 0) (n := 0) hK hP hD hS hA (o_rV (As := [.int x1]) (rest := []) hf (d_isE _ _ _ _ _ _ _ _ dk tp rd els reo nob pr bk gl sl mo v10 v11 cap xs Es x1 h_dk h_els h_els9 hxl _) k_736 k_733 k_735 k_22 k_84 (nA := 1) (by decide +kernel) ⟨Nat.le_of_ble_eq_true rfl, Nat.le_of_ble_eq_true rfl⟩ hK hP hD hS hA hZ hN h_dk rfl rfl rfl hl.1 rfl (Nat.le_of_ble_eq_true rfl) dX9_parts_2 ⟨(show 0 + 0 ≤ 0 by omega), (show 0 + 0 ≤ 0 by omega)⟩) (Nat.le_refl _) (Nat.le_refl _) (fun r H locs hw hP hD hS => ?_)
  rcases hw with ⟨c_1, rfl⟩ | ⟨c_1, rfl⟩
  · have hP := hP
    refine lv_if_ne (tgt := 11) hx hb dX9_parts_5 (by decide) (fun _ => ?_) (fun hno => absurd hno (by decide))
    obtain ⟨j, hj, rfl⟩ := c_1
    have hl : lv_has ls 6 [(0, .ref dk), (1, .int (nI j))] := hl
    refine lv_aload_n hx hb dX9_parts_11 rfl (lv_at hl 0 rfl) ?_
    refine lv_iload_n hx hb dX9_parts_12 rfl (lv_at hl 1 rfl) ?_
    refine o_crs (k := 0) (n := 0) hK hP hD hS hA (o_rV (As := [.int (nI j)]) (rest := []) hf (d_elAt _ _ _ _ _ _ _ _ dk tp rd els reo nob pr bk gl sl mo v10 v11 cap xs Es j h_dk h_els h_els9 hxl hj _) k_740 k_737 k_739 k_23 k_84 (nA := 1) (by decide +kernel) ⟨Nat.le_of_ble_eq_true rfl, Nat.le_of_ble_eq_true rfl⟩ hK hP hD hS hA hZ hN h_dk rfl rfl rfl hl.1 rfl (Nat.le_of_ble_eq_true rfl) dX9_parts_13 ⟨(show 0 + 0 ≤ 0 by omega), (show 0 + 0 ≤ 0 by omega)⟩) (Nat.le_refl _) (Nat.le_refl _) (fun r H locs hw hP hD hS => ?_)
    obtain rfl := hw
    obtain ⟨tx2, rf2, rt2, N2, M2, tg, f12, f22, h_em, h_ty, _, _, hY, _, hYb, _⟩ := h_els9.2.2 j hj
    have hN2 := hYb.1
    have hN3 := hYb.2.1
    refine lv_astore_n (lv' := [(2, .ref (xs.getD j 0)), (0, .ref dk), (1, .int (nI j))]) hx hb dX9_parts_16 rfl hl (by decide) rfl (fun ls hl => ?_)
    refine lv_aload_n hx hb dX9_parts_17 rfl (lv_at hl 0 rfl) ?_
    refine o_get (D := D) (ci := 2) (v := .int ((Es.getD j dE).1)) (C := RX1) (T := TX1) (N := 9) hx hb hts inX1 hown hK hP h_em rfl 0 (by decide) (hts _ k_228) (fun _ h9 => h9) rfl dX9_parts_18 ?_
    refine lv_iconst (v := 2) hx hb dX9_parts_21 (by decide) ?_
    refine lv_icmp_ne (tgt := 32) hx hb dX9_parts_22 (by decide) (fun c_2 => ?_) (fun c_2 => ?_)
    · refine lv_bipush (v := (-3)) hx hb dX9_parts_32 (by decide) ?_
      exact o_ri hf hr rfl hlocks hK hP hD hS (show 0 ≤ 0 by omega) (show 0 ≤ 0 by omega) ⟨Or.inr (Or.inl ⟨j, hj, rfl, Or.inl c_2, rfl⟩), rfl, rfl⟩ dX9_parts_34
    · refine lv_aload_n hx hb dX9_parts_25 rfl (lv_at hl 0 rfl) ?_
      refine o_get (D := D) (ci := 2) (v := .int ((Es.getD j dE).2.2.1)) (C := RX1) (T := TX1) (N := 9) hx hb hts inX1 hown hK hP h_em rfl 2 (by decide) (hts _ k_235) (fun _ h9 => h9) rfl dX9_parts_26 ?_
      refine lv_if_eq (tgt := 35) hx hb dX9_parts_29 (by decide) (fun c_3 => ?_) (fun c_3 => ?_)
      · refine lv_iconst (v := 0) hx hb dX9_parts_35 (by decide) ?_
        refine lv_istore_n (lv' := [(3, .int 0), (2, .ref (xs.getD j 0)), (0, .ref dk), (1, .int (nI j))]) hx hb dX9_parts_36 rfl hl (by decide) rfl (fun ls hl => ?_)
        refine lv_aload_n hx hb dX9_parts_37 rfl (lv_at hl 2 rfl) ?_
        refine o_get (D := D) (ci := 10) (v := .ref sl) (C := RX9) (T := TX9) (N := 12) hx hb hts inX9 hown hK hP h_dk rfl 8 (by decide) (hts _ k_437) (fun _ h9 => h9) rfl dX9_parts_38 ?_
        refine o_cis (k := 0) (n := 0) hK hP hD hS hA (o_rV (As := []) (rest := []) hf (sl_count _ _ _ _ _ _ _ _ pr pcs spr nwh cp pa ea P ne EE sl h_pr h_pcs h_pc h_es h_sl hpa hQ _) k_1045 k_1042 k_1043 k_1044 k_97 (nA := 0) (by decide +kernel) ⟨Nat.le_of_ble_eq_true rfl, Nat.le_of_ble_eq_true rfl⟩ hK hP hD hS hA hZ hN h_sl rfl rfl rfl hl.1 rfl (Nat.le_of_ble_eq_true rfl) dX9_parts_41 ⟨(show 0 + 0 ≤ 0 by omega), (show 0 + 0 ≤ 0 by omega)⟩) (Nat.le_refl _) (Nat.le_refl _) (fun r H locs hw hP hD hS => ?_)
        obtain rfl := hw
        refine lv_istore (lv' := [(4, .int (nI ((pcnt (bgq EE P 0) pa.length)))), (3, .int 0), (2, .ref (xs.getD j 0)), (0, .ref dk), (1, .int (nI j))]) hx hb dX9_parts_44 hl (by decide) rfl (fun ls hl => ?_)
        refine lv_iconst (v := 0) hx hb dX9_parts_46 (by decide) ?_
        refine lv_istore (lv' := [(5, .int 0), (4, .int (nI ((pcnt (bgq EE P 0) pa.length)))), (3, .int 0), (2, .ref (xs.getD j 0)), (0, .ref dk), (1, .int (nI j))]) hx hb dX9_parts_47 hl (by decide) rfl (fun ls hl => ?_)
        refine pt2_loop (Y := (Es.getD j dE).2.2.2.2) h_dk h_pr h_pcs h_pc h_es h_sl h_em h_ty hpa hQ hY hN2 hN3 (Nat.le_of_ble_eq_true rfl) (Nat.le_of_ble_eq_true rfl) (show 0 ≤ 0 by omega) (show 0 ≤ 0 by omega) hA hf hK hZ hN (pcnt (bgq EE P 0) pa.length) 0 0 _ _ ls (by omega) (by omega) rfl hP hD hS (lv_sub hl (l' := [(5, .int 0), (3, .int 0), (0, .ref dk), (2, .ref (xs.getD j 0)), (4, .int (nI ((pcnt (bgq EE P 0) pa.length))))]) [0, 2, 4, 3, 1] rfl) ?_
        · intro c9 hcv H locs ls hP hD hS hl
          refine lv_iload_n hx hb dX9_parts_96 rfl (lv_at hl 0 rfl) ?_
          exact o_ri hf hr rfl hlocks hK hP hD hS (show 0 ≤ 0 by omega) (show 0 ≤ 0 by omega) ⟨Or.inr (Or.inr ⟨j, hj, rfl, ⟨c_2, c_3⟩, congrArg nI hcv⟩), rfl, rfl⟩ dX9_parts_97
      · refine lv_bipush (v := (-3)) hx hb dX9_parts_32 (by decide) ?_
        exact o_ri hf hr rfl hlocks hK hP hD hS (show 0 ≤ 0 by omega) (show 0 ≤ 0 by omega) ⟨Or.inr (Or.inl ⟨j, hj, rfl, Or.inr c_3, rfl⟩), rfl, rfl⟩ dX9_parts_34
  · have hP := hP
    refine lv_if_ne (tgt := 11) hx hb dX9_parts_5 (by decide) (fun hno => absurd hno (by decide)) (fun _ => ?_)
    refine lv_bipush (v := (-2)) hx hb dX9_parts_8 (by decide) ?_
    exact o_ri hf hr rfl hlocks hK hP hD hS (show 0 ≤ 0 by omega) (show 0 ≤ 0 by omega) ⟨Or.inl ⟨c_1, rfl⟩, rfl, rfl⟩ dX9_parts_10
