abbrev cX10_breaks : ByteArray := prog_12_method_34_code
def yX10_breaks : MethodName := ⟨RX10, "breaks", "()V"⟩
theorem k_63 : (Cond.selects RX10 yX10_bestEnd yX10_bestEnd) ∈ gT := gT_i 63 (by decide +kernel) rfl
theorem k_1392 : (Cond.methodLink RX10 224 yX10_bestEnd) ∈ gT := gT_i 1392 (by decide +kernel) rfl
theorem k_1394 : (Cond.instanceMethod yX10_bestEnd) ∈ gT := gT_i 1394 (by decide +kernel) rfl
theorem k_1395 : (Cond.code yX10_bestEnd cX10_bestEnd 13 none) ∈ gT := gT_i 1395 (by decide +kernel) rfl
theorem dX10_breaks_9 : decode cX10_breaks 9 = .ok (.iload_n 1, 1) := by decide +kernel
theorem dX10_breaks_10 : decode cX10_breaks 10 = .ok (.aload_n 0, 1) := by decide +kernel
theorem dX10_breaks_11 : decode cX10_breaks 11 = .ok (.getfield 158, 3) := by decide +kernel
theorem dX10_breaks_14 : decode cX10_breaks 14 = .ok (.if_icmp .ge 29, 3) := by decide +kernel
theorem dX10_breaks_17 : decode cX10_breaks 17 = .ok (.aload_n 0, 1) := by decide +kernel
theorem dX10_breaks_18 : decode cX10_breaks 18 = .ok (.getfield 71, 3) := by decide +kernel
theorem dX10_breaks_21 : decode cX10_breaks 21 = .ok (.iload_n 1, 1) := by decide +kernel
theorem dX10_breaks_22 : decode cX10_breaks 22 = .ok (.iconst 1, 1) := by decide +kernel
theorem dX10_breaks_23 : decode cX10_breaks 23 = .ok (.iadd, 1) := by decide +kernel
theorem dX10_breaks_24 : decode cX10_breaks 24 = .ok (.aload_n 0, 1) := by decide +kernel
theorem dX10_breaks_25 : decode cX10_breaks 25 = .ok (.getfield 71, 3) := by decide +kernel
theorem dX10_breaks_28 : decode cX10_breaks 28 = .ok (.iload_n 1, 1) := by decide +kernel
theorem dX10_breaks_29 : decode cX10_breaks 29 = .ok (.iaload, 1) := by decide +kernel
theorem dX10_breaks_30 : decode cX10_breaks 30 = .ok (.aload_n 0, 1) := by decide +kernel
theorem dX10_breaks_31 : decode cX10_breaks 31 = .ok (.iload_n 1, 1) := by decide +kernel
theorem dX10_breaks_32 : decode cX10_breaks 32 = .ok (.invokevirtual 198, 3) := by decide +kernel
theorem dX10_breaks_35 : decode cX10_breaks 35 = .ok (.iadd, 1) := by decide +kernel
theorem dX10_breaks_36 : decode cX10_breaks 36 = .ok (.iastore, 1) := by decide +kernel
theorem dX10_breaks_37 : decode cX10_breaks 37 = .ok (.iinc 1 1, 3) := by decide +kernel
theorem dX10_breaks_40 : decode cX10_breaks 40 = .ok (.goto (-31), 3) := by decide +kernel
theorem dX10_breaks_62 : decode cX10_breaks 62 = .ok (.iload_n 2, 1) := by decide +kernel
theorem dX10_breaks_63 : decode cX10_breaks 63 = .ok (.ifCond .lt 15, 3) := by decide +kernel
theorem dX10_breaks_66 : decode cX10_breaks 66 = .ok (.aload_n 0, 1) := by decide +kernel
theorem dX10_breaks_67 : decode cX10_breaks 67 = .ok (.iload_n 1, 1) := by decide +kernel
theorem dX10_breaks_68 : decode cX10_breaks 68 = .ok (.iload_n 2, 1) := by decide +kernel
theorem dX10_breaks_69 : decode cX10_breaks 69 = .ok (.invokevirtual 224, 3) := by decide +kernel
theorem dX10_breaks_72 : decode cX10_breaks 72 = .ok (.iinc 2 (-1), 3) := by decide +kernel
theorem dX10_breaks_75 : decode cX10_breaks 75 = .ok (.goto (-13), 3) := by decide +kernel
theorem dX10_breaks_50 : decode cX10_breaks 50 = .ok (.iload_n 1, 1) := by decide +kernel
theorem dX10_breaks_51 : decode cX10_breaks 51 = .ok (.ifCond .lt 33, 3) := by decide +kernel
theorem dX10_breaks_54 : decode cX10_breaks 54 = .ok (.aload_n 0, 1) := by decide +kernel
theorem dX10_breaks_55 : decode cX10_breaks 55 = .ok (.iload_n 1, 1) := by decide +kernel
theorem dX10_breaks_56 : decode cX10_breaks 56 = .ok (.invokevirtual 198, 3) := by decide +kernel
theorem dX10_breaks_59 : decode cX10_breaks 59 = .ok (.iconst 1, 1) := by decide +kernel
theorem dX10_breaks_60 : decode cX10_breaks 60 = .ok (.isub, 1) := by decide +kernel
theorem dX10_breaks_61 : decode cX10_breaks 61 = .ok (.istore_n 2, 1) := by decide +kernel
theorem dX10_breaks_78 : decode cX10_breaks 78 = .ok (.iinc 1 (-1), 3) := by decide +kernel
theorem dX10_breaks_81 : decode cX10_breaks 81 = .ok (.goto (-31), 3) := by decide +kernel
theorem q_dec (a : Int32) : a + (-1) = a - 1 := (Int32.sub_eq_add_neg a 1).symm
noncomputable def bk_row (K : Nat → Int32) (Fm To Rr : Nat → Nat) (pn mo p : Nat) : Nat → (Nat → Option Q4) → (Nat → Option Q4)
  | 0, C => C
  | r + 1, C => bk_row K Fm To Rr pn mo p r (va_up C (rs_S Fm To p + r) (bk_lay C K Fm To Rr p r pn mo 41 p r (pb (rp_ra (K p) (Fm p) p r 0)) none))
noncomputable def bk_all (K : Nat → Int32) (Fm To Rr : Nat → Nat) (pn mo : Nat) : Nat → (Nat → Option Q4) → (Nat → Option Q4)
  | 0, C => C
  | p + 1, C => bk_all K Fm To Rr pn mo p (bk_row K Fm To Rr pn mo p (To p - Fm p) C)
def bk_on (Fm To : Nat → Nat) (pn : Nat) (C : Nat → Option Q4) (y : Q4) : Prop := rs_S Fm To y.2.1 + y.2.2.1 = rs_S Fm To pn ∨ ∃ x, C (rs_S Fm To y.2.1 + y.2.2.1) = some x
def bk_cl (Fm To : Nat → Nat) (pn : Nat) (C : Nat → Option Q4) (lo : Nat) : Prop := ∀ j y, lo ≤ j → j < rs_S Fm To pn → C j = some y → bk_on Fm To pn C y
theorem bk_lay_cl {C : Nat → Option Q4} {K : Nat → Int32} {Fm To Rr : Nat → Nat} {p0 r0 pn mo : Nat} (hz : ∀ p, p < pn → 0 < To p - Fm p) : ∀ f p i rows b, (∀ y, b = some y → bk_on Fm To pn C y) → (p < pn → i < To p - Fm p) → ∀ y, bk_lay C K Fm To Rr p0 r0 pn mo f p i rows b = some y → bk_on Fm To pn C y := by
  intro f
  induction f with
  | zero => intro p i rows b h _; exact h
  | succ f ih =>
    intro p i rows b h hi y hy
    obtain ⟨dd, edd⟩ : ∃ x, x = pb (p0 < p ∧ i = 0 ∧ rp_he (K p) (Fm p)) := ⟨_, rfl⟩
    by_cases hc : p < pn ∧ rows + dd + 1 ≤ mo
    · have hi1 := hi hc.1
      rw [← bk_in (mb := pb (rp_me (K p) (To p - Fm p) p0 r0 p (i + 1) pn)) hc.1 hc.2 edd rfl (fun _ => rfl) rfl rfl rfl] at hy
      have hs := rs_S_1 (Fm := Fm) (To := To) hi1
      refine ih _ _ _ _ ?_ ?_ y hy
      · have ht : ∀ co tt (b2 : Option Q4), (∀ y, b2 = some y → bk_on Fm To pn C y) → (rs_S Fm To p + (i + 1) = rs_S Fm To pn ∨ ∃ x, C (rs_S Fm To p + (i + 1)) = some x) → ∀ y, bk_try b2 co (if i + 1 = To p - Fm p then p + 1 else p) (if i + 1 = To p - Fm p then 0 else i + 1) tt = some y → bk_on Fm To pn C y := by
          intro co tt b2 h2 h3 y ey
          have h4 : bk_on Fm To pn C (co, (if i + 1 = To p - Fm p then p + 1 else p), (if i + 1 = To p - Fm p then 0 else i + 1), tt) := by
            unfold bk_on
            show rs_S Fm To (if i + 1 = To p - Fm p then p + 1 else p) + (if i + 1 = To p - Fm p then 0 else i + 1) = _ ∨ ∃ x, C (rs_S Fm To (if i + 1 = To p - Fm p then p + 1 else p) + (if i + 1 = To p - Fm p then 0 else i + 1)) = some x
            rw [hs]
            exact h3
          cases b2 with
          | none => cases ey; exact h4
          | some w =>
            by_cases hq : co ≤ w.1
            · rw [bk_try_p hq] at ey; cases ey; exact h4
            · rw [bk_try_g hq] at ey; exact h2 y ey
        intro y ey
        by_cases hm : rows + dd + 1 + pb (rp_rb (K p) (Fm p) (To p) (Rr p) p (i + 1) pn) ≤ mo ∧ ¬ pb (rp_me (K p) (To p - Fm p) p0 r0 p (i + 1) pn) = 0
        · rw [if_pos hm] at ey
          by_cases hl : rs_S Fm To p + (i + 1) = rs_S Fm To pn
          · rw [bk_new_l hl] at ey
            exact ht _ _ b h (Or.inl hl) y ey
          · rcases hx : C (rs_S Fm To p + (i + 1)) with _ | x
            · rw [bk_new_n hl hx] at ey
              exact h y ey
            · rw [bk_new_s hl hx rfl] at ey
              exact ht _ _ b h (Or.inr ⟨x, hx⟩) y ey
        · rw [if_neg hm] at ey
          exact h y ey
      · intro h9
        by_cases hZ : i + 1 = To p - Fm p
        · rw [if_pos hZ] at h9 ⊢
          rw [if_pos hZ]
          exact hz _ h9
        · rw [if_neg hZ, if_neg hZ]
          omega
    · have e : bk_lay C K Fm To Rr p0 r0 pn mo (f + 1) p i rows b = b := by
        rw [edd] at hc
        exact pif_n hc
      rw [e] at hy
      exact h y hy
theorem bk_cl_s {Fm To : Nat → Nat} {pn lo : Nat} {C : Nat → Option Q4} {b : Option Q4} (h : bk_cl Fm To pn C (lo + 1)) (hb : ∀ y, b = some y → bk_on Fm To pn C y) (hok : ∀ j, lo ≤ j → j < rs_S Fm To pn → bk_ok Fm To pn j (va_up C lo b j)) : bk_cl Fm To pn (va_up C lo b) lo := by
  have hu : ∀ j y, lo ≤ j → j < rs_S Fm To pn → va_up C lo b j = some y → bk_on Fm To pn C y → bk_on Fm To pn (va_up C lo b) y := by
    intro j y h1 h2 h3 h4
    have h5 := (hok j h1 h2 y h3).2.2.2.2.2
    rcases h4 with h4 | ⟨x, h4⟩
    · exact Or.inl h4
    · exact Or.inr ⟨x, by rw [va_up_ne _ _ (by omega)]; exact h4⟩
  intro j y h1 h2 h3
  by_cases e : j = lo
  · refine hu j y h1 h2 h3 ?_
    rw [e, va_up_self] at h3
    exact hb y h3
  · refine hu j y h1 h2 h3 ?_
    rw [va_up_ne _ _ e] at h3
    exact h j y (by omega) h2 h3
/-- the pages: where each begins, its rows -/
def bk_pg (Fm To : Nat → Nat) (pn : Nat) (C : Nat → Option Q4) : Nat → Nat → Nat → List (Nat × Nat × Nat)
  | 0, _, _ => []
  | f + 1, p, r => if p < pn then match C (rs_S Fm To p + r) with
      | none => []
      | some y => (p, r, y.2.2.2) :: bk_pg Fm To pn C f y.2.1 y.2.2.1
    else []
theorem bk_pg_out {Fm To : Nat → Nat} {pn : Nat} {C : Nat → Option Q4} {f p r : Nat} (h : ¬ p < pn) : bk_pg Fm To pn C f p r = [] := by
  cases f with
  | zero => rfl
  | succ f => exact if_neg h
theorem bk_pg_n {Fm To : Nat → Nat} {pn : Nat} {C : Nat → Option Q4} {f p r : Nat} (h : C (rs_S Fm To p + r) = none) : bk_pg Fm To pn C f p r = [] := by
  cases f with
  | zero => rfl
  | succ f =>
    unfold bk_pg
    rw [h]
    by_cases hp : p < pn
    · rw [if_pos hp]
    · rw [if_neg hp]
theorem bk_pg_in {Fm To : Nat → Nat} {pn : Nat} {C : Nat → Option Q4} {f p r : Nat} {y : Q4} (h : p < pn) (hy : C (rs_S Fm To p + r) = some y) : bk_pg Fm To pn C (f + 1) p r = (p, r, y.2.2.2) :: bk_pg Fm To pn C f y.2.1 y.2.2.1 := by
  conv => lhs; unfold bk_pg
  rw [if_pos h, hy]
def pg_is (A : List (Nat × Nat × Nat)) (f35 f36 f37 : Nat → Int32) : Prop := ∀ j, j < A.length → f35 j = nI (A.getD j (0, 0, 0)).1 ∧ f36 j = nI (A.getD j (0, 0, 0)).2.1 ∧ f37 j = nI (A.getD j (0, 0, 0)).2.2
theorem pg_is_s {A : List (Nat × Nat × Nat)} {f35 f36 f37 : Nat → Int32} {a b c : Nat} {v w : Int32} (h : pg_is A f35 f36 f37) : pg_is (A ++ [(a, b, c)]) (upd (upd f35 A.length (nI a)) (A.length + 1) v) (upd (upd f36 A.length (nI b)) (A.length + 1) w) (upd f37 A.length (nI c)) := by
  intro j hj
  rw [List.length_append] at hj
  have hj : j < A.length + 1 := hj
  have n1 : j ≠ A.length + 1 := by omega
  rw [pk_un n1, pk_un n1]
  by_cases e : j = A.length
  · rw [e, pk_us, pk_us, pk_us]
    simp
  · rw [pk_un e, pk_un e, pk_un e]
    have e2 : (A ++ [(a, b, c)]).getD j (0, 0, 0) = A.getD j (0, 0, 0) := by
      simp only [List.getD_eq_getElem?_getD]
      rw [List.getElem?_append_left (by omega)]
    rw [e2]
    exact h j (by omega)
theorem bk_st {Fm To : Nat → Nat} {j : Nat} {f : Nat → Int32} (h : ∀ i, i ≤ j → f i = nI (rs_S Fm To i)) : ∀ i, i ≤ j + 1 → upd f (j + 1) (nI (rs_S Fm To j + (To j - Fm j))) i = nI (rs_S Fm To i) := by
  intro i hi
  by_cases e : i = j + 1
  · rw [e, pk_us]; rfl
  · rw [pk_un e]; exact h i (by omega)
set_option maxHeartbeats 1000000 in
set_option maxRecDepth 100000 in
theorem lk_st {p : Program} {l : Launch} {e : Env} {R : Room} {s : State} {m : MethodId} {args : Array Value} {below : List Frame} {meth : Method} {c : Code} {cells slots : Nat} {Q : State → Prop} {D : va_G} {A : Nat → Prop} {h0 : Nat} {q : Nat → Nat} {cB cI cZ : ClassId} {I : Nat → Int32} {F : Nat → Nat → Int32} {pn : Nat} {pe sl : Nat → Nat} {K : Nat → Int32} {Fm To Rr : Nat → Nat} {mo : Nat} (hpv : rp_ok F pn pe sl K Fm To Rr) (hI2 : I 2 = nI mo) (hI14 : I 14 = nI pn) (hmo : mo ≤ 40) (hSS : rs_S Fm To pn ≤ 8000) (hRf : 1 ≤ R.frames) (hRl : 25 ≤ R.locals) (hRc : cells ≤ R.cells) (hRs : slots ≤ R.slots) (hA : ∀ q : Nat, s.heap.size ≤ q → A q) (hf : CallFix p m c cX10_breaks 4 s args gT yX10_breaks.cls) (hK : va_K D vcl (mT cB cI cZ) s) :
    ∀ (k : Nat) (j : Nat) (f30 : Nat → Int32) (H : Heap) (locs : List Loc) (ls : Array Slot), j + k = pn → (∀ i, i ≤ j → f30 i = nI (rs_S Fm To i)) →  va_P D vcl (mW h0 q cB cI cZ I (va_up F 30 f30)) H → va_D A (mW h0 q cB cI cZ I (va_up F 30 f30)) → va_S A s.heap H locs → lv_has ls 4 [(1, .int (nI j)), (0, .ref h0)] →
    (∀ (g30 : Nat → Int32) (H : Heap) (locs : List Loc) (ls : Array Slot), (∀ i, i ≤ pn → g30 i = nI (rs_S Fm To i)) → va_P D vcl (mW h0 q cB cI cZ I (va_up F 30 g30)) H → va_D A (mW h0 q cB cI cZ I (va_up F 30 g30)) → va_S A s.heap H locs → lv_has ls 4 [(0, .ref h0)] → W p l e R s m args below meth c H locs cells slots Q (F0 m 43 ls [])) →
    W p l e R s m args below meth c H locs cells slots Q (F0 m 9 ls []) := by
  obtain ⟨hx, hb, hml, hown, hts⟩ := id hf
  have hpn8 := hpv.1
  intro k
  induction k with
  | zero =>
    intro j f30 H locs ls hik hst hP hD hS hl kk
    refine lv_iload_n hx hb dX10_breaks_9 rfl (lv_at hl 0 rfl) ?_
    refine lv_aload_n hx hb dX10_breaks_10 rfl (lv_at hl 1 rfl) ?_
    refine va_get (D := D) (ci := 11) (v := .int (I 14)) (C := RX10) (T := TX10) (N := 48) hx hb hts inX10 hown hK hP 0 rfl rfl 14 (by decide) (hts _ k_1158) (fun _ h9 => h9) rfl dX10_breaks_11 ?_
    refine q_seti (y := (nI pn)) hI14 ?_
    refine lv_icmp_ge (tgt := 43) hx hb dX10_breaks_14 (by decide) (fun c_1 => ?_) (fun c_1 => ?_)
    · have c_1 := q_le (a := pn) (b := j) (by omega) (by omega) c_1
      obtain rfl : j = pn := by omega
      exact kk f30 H locs ls hst hP hD hS (lv_sub hl (l' := [(0, .ref h0)]) [1] rfl)
    · have c_1 := q_nle (a := pn) (b := j) (by omega) (by omega) c_1
      exact absurd hik (by omega)
  | succ k ih =>
    intro j f30 H locs ls hik hst hP hD hS hl kk
    refine lv_iload_n hx hb dX10_breaks_9 rfl (lv_at hl 0 rfl) ?_
    refine lv_aload_n hx hb dX10_breaks_10 rfl (lv_at hl 1 rfl) ?_
    refine va_get (D := D) (ci := 11) (v := .int (I 14)) (C := RX10) (T := TX10) (N := 48) hx hb hts inX10 hown hK hP 0 rfl rfl 14 (by decide) (hts _ k_1158) (fun _ h9 => h9) rfl dX10_breaks_11 ?_
    refine q_seti (y := (nI pn)) hI14 ?_
    refine lv_icmp_ge (tgt := 43) hx hb dX10_breaks_14 (by decide) (fun c_1 => ?_) (fun c_1 => ?_)
    · have c_1 := q_le (a := pn) (b := j) (by omega) (by omega) c_1
      exact absurd hik (by omega)
    · have c_1 := q_nle (a := pn) (b := j) (by omega) (by omega) c_1
      have hs3 := rs_S_le (Fm := Fm) (To := To) (show j < pn by omega)
      have hpvj := hpv.2 j (by omega)
      refine lv_aload_n hx hb dX10_breaks_17 rfl (lv_at hl 1 rfl) ?_
      refine va_get (D := D) (ci := 11) (v := .ref (q 30)) (C := RX10) (T := TX10) (N := 48) hx hb hts inX10 hown hK hP 0 rfl rfl 30 (by decide) (hts _ k_1174) (fun _ h9 => h9) rfl dX10_breaks_18 ?_
      refine lv_iload_n hx hb dX10_breaks_21 rfl (lv_at hl 0 rfl) ?_
      refine lv_iconst (v := 1) hx hb dX10_breaks_22 (by decide) ?_
      refine lv_iadd hx hb dX10_breaks_23 ?_
      refine q_seti (y := nI (j + 1)) (nI_add j 1) ?_
      refine lv_aload_n hx hb dX10_breaks_24 rfl (lv_at hl 1 rfl) ?_
      refine va_get (D := D) (ci := 11) (v := .ref (q 30)) (C := RX10) (T := TX10) (N := 48) hx hb hts inX10 hown hK hP 0 rfl rfl 30 (by decide) (hts _ k_1174) (fun _ h9 => h9) rfl dX10_breaks_25 ?_
      refine lv_iload_n hx hb dX10_breaks_28 rfl (lv_at hl 0 rfl) ?_
      refine q_ild (X := j) (f := f30) hx hb hK hP 19 1 rfl rfl (by omega) (by decide) dX10_breaks_29 ?_
      refine q_seti (y := (nI (rs_S Fm To j))) (hst j (by omega)) ?_
      refine lv_aload_n hx hb dX10_breaks_30 rfl (lv_at hl 1 rfl) ?_
      refine lv_iload_n hx hb dX10_breaks_31 rfl (lv_at hl 0 rfl) ?_
      refine q_ci (k := cells) (n := slots) hK hP hD hS hA (fun hPc hKc hDc => q_rV (As := [.int (nI j)]) (rest := [.int (nI (rs_S Fm To j)), .int (nI (j + 1)), .ref (q 30)]) hf (r_size _ D h0 q cB cI cZ I (va_up F 30 f30) pn pe sl K Fm To Rr j hpv (by omega) _) k_1391 k_1388 k_1390 k_62 k_98 (nA := 1) (by decide +kernel) ⟨Nat.le_trans (by decide) hRf, Nat.le_trans (by decide) hRl⟩ hK hP (ci := 11) (q0 := 0) rfl rfl rfl hPc hKc hDc (fun _ _ _ _ h => h) (fun _ _ _ => trivial) rfl hl.1 rfl (Nat.le_of_ble_eq_true rfl) dX10_breaks_32 ⟨hRc, hRs⟩) (Nat.le_refl _) (Nat.le_refl _) (fun r u H locs hw hK hP hD hS => ?_)
      obtain ⟨rfl, rfl⟩ := hw
      have hP : va_P D vcl (mW h0 q cB cI cZ I (va_up F 30 f30)) H := hP
      have hD : va_D A (mW h0 q cB cI cZ I (va_up F 30 f30)) := hD
      refine lv_iadd hx hb dX10_breaks_35 ?_
      refine q_seti (y := nI ((rs_S Fm To j) + (To j - Fm j))) (nI_add (rs_S Fm To j) (To j - Fm j)) ?_
      refine q_seti (y := nI (rs_S Fm To j + (To j - Fm j))) (congrArg nI (show (rs_S Fm To j) + (To j - Fm j) = rs_S Fm To j + (To j - Fm j) by omega)) ?_
      refine q_ist (X := j + 1) (f := f30) (x := (nI (rs_S Fm To j + (To j - Fm j)))) hx hb hK hP hD hS 19 1 rfl rfl (by omega) (by decide) dX10_breaks_36 (fun H locs hP hD hS => ?_)
      have hP : va_P D vcl (mW h0 q cB cI cZ I (va_up F 30 (upd f30 (j + 1) (nI (rs_S Fm To j + (To j - Fm j)))))) H := hP
      have hD : va_D A (mW h0 q cB cI cZ I (va_up F 30 (upd f30 (j + 1) (nI (rs_S Fm To j + (To j - Fm j)))))) := hD
      refine lv_iinc (v := (nI (j + 1))) (lv' := [(1, .int (nI (j + 1))), (0, .ref h0)]) hx hb dX10_breaks_37 hl (k := 0) rfl (nI_add j 1) (by decide) rfl (fun ls hl => ?_)
      refine lv_goto (tgt := 9) hx hb dX10_breaks_40 (by decide) ?_
      exact ih (j + 1) _ H locs ls (by omega) (bk_st hst) hP hD hS (lv_sub hl (l' := [(1, .int (nI (j + 1))), (0, .ref h0)]) [0, 1] rfl) kk
set_option maxHeartbeats 1000000 in
set_option maxRecDepth 100000 in
theorem lk_row {p : Program} {l : Launch} {e : Env} {R : Room} {s : State} {m : MethodId} {args : Array Value} {below : List Frame} {meth : Method} {c : Code} {cells slots : Nat} {Q : State → Prop} {D : va_G} {A : Nat → Prop} {h0 : Nat} {q : Nat → Nat} {cB cI cZ : ClassId} {I : Nat → Int32} {F : Nat → Nat → Int32} {pn : Nat} {pe sl : Nat → Nat} {K : Nat → Int32} {Fm To Rr : Nat → Nat} {mo : Nat} (hpv : rp_ok F pn pe sl K Fm To Rr) (hI2 : I 2 = nI mo) (hI14 : I 14 = nI pn) (hmo : mo ≤ 40) (hSS : rs_S Fm To pn ≤ 8000) (hSt : ∀ p, p ≤ pn → F 30 p = nI (rs_S Fm To p)) {pp : Nat} (hpp : pp < pn) (hRf : 4 ≤ R.frames) (hRl : 112 ≤ R.locals) (hRc : cells ≤ R.cells) (hRs : slots ≤ R.slots) (hA : ∀ q : Nat, s.heap.size ≤ q → A q) (hf : CallFix p m c cX10_breaks 4 s args gT yX10_breaks.cls) (hK : va_K D vcl (mT cB cI cZ) s) :
    ∀ (k : Nat) (x : Int32) (C : Nat → Option Q4) (w1 : Nat → Int32) (w2 : Nat → Int32) (w3 : Nat → Int32) (w4 : Nat → Int32) (H : Heap) (locs : List Loc) (ls : Array Slot), k ≤ To pp - Fm pp → x = nI k - 1 → bk_tab Fm To pn C (rs_S Fm To pp + k) w1 w2 w3 w4 → bk_cl Fm To pn C (rs_S Fm To pp + k) →  va_P D vcl (mW h0 q cB cI cZ I (va_up (va_up (va_up (va_up F 31 w1) 32 w2) 33 w3) 34 w4)) H → va_D A (mW h0 q cB cI cZ I (va_up (va_up (va_up (va_up F 31 w1) 32 w2) 33 w3) 34 w4)) → va_S A s.heap H locs → lv_has ls 4 [(2, .int x), (1, .int (nI pp)), (0, .ref h0)] →
    (∀ (C2 : Nat → Option Q4) (w1 : Nat → Int32) (w2 : Nat → Int32) (w3 : Nat → Int32) (w4 : Nat → Int32) (H : Heap) (locs : List Loc) (ls : Array Slot), C2 = bk_row K Fm To Rr pn mo pp k C → bk_tab Fm To pn C2 (rs_S Fm To pp) w1 w2 w3 w4 → bk_cl Fm To pn C2 (rs_S Fm To pp) → va_P D vcl (mW h0 q cB cI cZ I (va_up (va_up (va_up (va_up F 31 w1) 32 w2) 33 w3) 34 w4)) H → va_D A (mW h0 q cB cI cZ I (va_up (va_up (va_up (va_up F 31 w1) 32 w2) 33 w3) 34 w4)) → va_S A s.heap H locs → lv_has ls 4 [(1, .int (nI pp)), (0, .ref h0)] → W p l e R s m args below meth c H locs cells slots Q (F0 m 78 ls [])) →
    W p l e R s m args below meth c H locs cells slots Q (F0 m 62 ls []) := by
  obtain ⟨hx, hb, hml, hown, hts⟩ := id hf
  have hpn8 := hpv.1
  have hpvp := hpv.2 pp hpp
  have hzz : ∀ p, p < pn → 0 < To p - Fm p := fun p hp => by have := hpv.2 p hp; omega
  intro k
  induction k with
  | zero =>
    intro x C w1 w2 w3 w4 H locs ls hk hx_ htab hcl hP hD hS hl kk
    obtain rfl : x = (-1) := hx_.trans (by decide)
    refine lv_iload_n hx hb dX10_breaks_62 rfl (lv_at hl 0 rfl) ?_
    refine lv_if_lt (tgt := 78) hx hb dX10_breaks_63 (by decide) (fun _ => ?_) (fun hno => absurd hno (by decide))
    exact kk C w1 w2 w3 w4 H locs ls rfl htab hcl hP hD hS (lv_sub hl (l' := [(1, .int (nI pp)), (0, .ref h0)]) [1, 2] rfl)
  | succ k ih =>
    intro x C w1 w2 w3 w4 H locs ls hk hx_ htab hcl hP hD hS hl kk
    obtain rfl : x = nI k := hx_.trans (nI_pred k)
    refine lv_iload_n hx hb dX10_breaks_62 rfl (lv_at hl 0 rfl) ?_
    refine lv_if_lt (tgt := 78) hx hb dX10_breaks_63 (by decide) (fun c_1 => ?_) (fun c_1 => ?_)
    · have c_1 := q_lt (a := k) (b := 0) (by omega) (by omega) c_1
      exact False.elim (by omega)
    · have c_1 := q_nlt (a := k) (b := 0) (by omega) (by omega) c_1
      refine lv_aload_n hx hb dX10_breaks_66 rfl (lv_at hl 2 rfl) ?_
      refine lv_iload_n hx hb dX10_breaks_67 rfl (lv_at hl 1 rfl) ?_
      refine lv_iload_n hx hb dX10_breaks_68 rfl (lv_at hl 0 rfl) ?_
      refine q_cv (k := cells) (n := slots) hK hP hD hS hA (fun hPc hKc hDc => q_rV (As := [.int (nI pp), .int (nI k)]) (rest := []) hf (r_bestEnd _ D h0 q cB cI cZ I (va_up (va_up (va_up (va_up F 31 w1) 32 w2) 33 w3) 34 w4) pn pe sl K Fm To Rr pp k mo C hpv hI2 hI14 hmo hpp (by omega) hSS hSt htab _) k_1395 k_1392 k_1394 k_63 k_98 (nA := 2) (by decide +kernel) ⟨Nat.le_trans (by decide) hRf, Nat.le_trans (by decide) hRl⟩ hK hP (ci := 11) (q0 := 0) rfl rfl rfl hPc hKc hDc (fun _ _ _ _ h => h) (fun _ _ _ => trivial) rfl hl.1 rfl (Nat.le_of_ble_eq_true rfl) dX10_breaks_69 ⟨hRc, hRs⟩) (Nat.le_refl _) (Nat.le_refl _) (fun u H locs hw hK hP hD hS => ?_)
      obtain ⟨y1, y2, y3, y4, b1, rfl⟩ := hw
      have hP : va_P D vcl (mW h0 q cB cI cZ I (va_up (va_up (va_up (va_up F 31 y1) 32 y2) 33 y3) 34 y4)) H := hP
      have hD : va_D A (mW h0 q cB cI cZ I (va_up (va_up (va_up (va_up F 31 y1) 32 y2) 33 y3) 34 y4)) := hD
      refine lv_iinc (v := ((nI k) + (-1))) (lv' := [(2, .int ((nI k) + (-1))), (1, .int (nI pp)), (0, .ref h0)]) hx hb dX10_breaks_72 hl (k := 0) rfl rfl (by decide) rfl (fun ls hl => ?_)
      refine lv_goto (tgt := 62) hx hb dX10_breaks_75 (by decide) ?_
      have hcl2 := bk_cl_s hcl (bk_lay_cl (C := C) (K := K) (Rr := Rr) (p0 := pp) (r0 := k) (mo := mo) hzz 41 pp k (pb (rp_ra (K pp) (Fm pp) pp k 0)) none (fun y e9 => by cases e9) (fun _ => by omega)) (fun j h1 h2 => (b1 j h1 h2).2)
      exact ih _ _ y1 y2 y3 y4 H locs ls (by omega) (q_dec _) b1 hcl2 hP hD hS (lv_sub hl (l' := [(2, .int ((nI k) + (-1))), (1, .int (nI pp)), (0, .ref h0)]) [0, 1, 2] rfl) kk
set_option maxHeartbeats 1000000 in
set_option maxRecDepth 100000 in
theorem lk_all {p : Program} {l : Launch} {e : Env} {R : Room} {s : State} {m : MethodId} {args : Array Value} {below : List Frame} {meth : Method} {c : Code} {cells slots : Nat} {Q : State → Prop} {D : va_G} {A : Nat → Prop} {h0 : Nat} {q : Nat → Nat} {cB cI cZ : ClassId} {I : Nat → Int32} {F : Nat → Nat → Int32} {pn : Nat} {pe sl : Nat → Nat} {K : Nat → Int32} {Fm To Rr : Nat → Nat} {mo : Nat} (hpv : rp_ok F pn pe sl K Fm To Rr) (hI2 : I 2 = nI mo) (hI14 : I 14 = nI pn) (hmo : mo ≤ 40) (hSS : rs_S Fm To pn ≤ 8000) (hSt : ∀ p, p ≤ pn → F 30 p = nI (rs_S Fm To p)) (hRf : 4 ≤ R.frames) (hRl : 112 ≤ R.locals) (hRc : cells ≤ R.cells) (hRs : slots ≤ R.slots) (hA : ∀ q : Nat, s.heap.size ≤ q → A q) (hf : CallFix p m c cX10_breaks 4 s args gT yX10_breaks.cls) (hK : va_K D vcl (mT cB cI cZ) s) :
    ∀ (k : Nat) (x : Int32) (C : Nat → Option Q4) (w1 : Nat → Int32) (w2 : Nat → Int32) (w3 : Nat → Int32) (w4 : Nat → Int32) (H : Heap) (locs : List Loc) (ls : Array Slot), k ≤ pn → x = nI k - 1 → bk_tab Fm To pn C (rs_S Fm To k) w1 w2 w3 w4 → bk_cl Fm To pn C (rs_S Fm To k) →  va_P D vcl (mW h0 q cB cI cZ I (va_up (va_up (va_up (va_up F 31 w1) 32 w2) 33 w3) 34 w4)) H → va_D A (mW h0 q cB cI cZ I (va_up (va_up (va_up (va_up F 31 w1) 32 w2) 33 w3) 34 w4)) → va_S A s.heap H locs → lv_has ls 4 [(1, .int x), (0, .ref h0)] →
    (∀ (C2 : Nat → Option Q4) (w1 : Nat → Int32) (w2 : Nat → Int32) (w3 : Nat → Int32) (w4 : Nat → Int32) (H : Heap) (locs : List Loc) (ls : Array Slot), C2 = bk_all K Fm To Rr pn mo k C → bk_tab Fm To pn C2 0 w1 w2 w3 w4 → bk_cl Fm To pn C2 0 → va_P D vcl (mW h0 q cB cI cZ I (va_up (va_up (va_up (va_up F 31 w1) 32 w2) 33 w3) 34 w4)) H → va_D A (mW h0 q cB cI cZ I (va_up (va_up (va_up (va_up F 31 w1) 32 w2) 33 w3) 34 w4)) → va_S A s.heap H locs → lv_has ls 4 [(0, .ref h0)] → W p l e R s m args below meth c H locs cells slots Q (F0 m 84 ls [])) →
    W p l e R s m args below meth c H locs cells slots Q (F0 m 50 ls []) := by
  obtain ⟨hx, hb, hml, hown, hts⟩ := id hf
  have hpn8 := hpv.1
  intro k
  induction k with
  | zero =>
    intro x C w1 w2 w3 w4 H locs ls hk hx_ htab hcl hP hD hS hl kk
    obtain rfl : x = (-1) := hx_.trans (by decide)
    refine lv_iload_n hx hb dX10_breaks_50 rfl (lv_at hl 0 rfl) ?_
    refine lv_if_lt (tgt := 84) hx hb dX10_breaks_51 (by decide) (fun _ => ?_) (fun hno => absurd hno (by decide))
    exact kk C w1 w2 w3 w4 H locs ls rfl htab hcl hP hD hS (lv_sub hl (l' := [(0, .ref h0)]) [1] rfl)
  | succ k ih =>
    intro x C w1 w2 w3 w4 H locs ls hk hx_ htab hcl hP hD hS hl kk
    obtain rfl : x = nI k := hx_.trans (nI_pred k)
    refine lv_iload_n hx hb dX10_breaks_50 rfl (lv_at hl 0 rfl) ?_
    refine lv_if_lt (tgt := 84) hx hb dX10_breaks_51 (by decide) (fun c_1 => ?_) (fun c_1 => ?_)
    · have c_1 := q_lt (a := k) (b := 0) (by omega) (by omega) c_1
      exact False.elim (by omega)
    · have c_1 := q_nlt (a := k) (b := 0) (by omega) (by omega) c_1
      refine lv_aload_n hx hb dX10_breaks_54 rfl (lv_at hl 1 rfl) ?_
      refine lv_iload_n hx hb dX10_breaks_55 rfl (lv_at hl 0 rfl) ?_
      refine q_ci (k := cells) (n := slots) hK hP hD hS hA (fun hPc hKc hDc => q_rV (As := [.int (nI k)]) (rest := []) hf (r_size _ D h0 q cB cI cZ I (va_up (va_up (va_up (va_up F 31 w1) 32 w2) 33 w3) 34 w4) pn pe sl K Fm To Rr k hpv (by omega) _) k_1391 k_1388 k_1390 k_62 k_98 (nA := 1) (by decide +kernel) ⟨Nat.le_trans (by decide) hRf, Nat.le_trans (by decide) hRl⟩ hK hP (ci := 11) (q0 := 0) rfl rfl rfl hPc hKc hDc (fun _ _ _ _ h => h) (fun _ _ _ => trivial) rfl hl.1 rfl (Nat.le_of_ble_eq_true rfl) dX10_breaks_56 ⟨hRc, hRs⟩) (Nat.le_refl _) (Nat.le_refl _) (fun r u H locs hw hK hP hD hS => ?_)
      obtain ⟨rfl, rfl⟩ := hw
      have hP : va_P D vcl (mW h0 q cB cI cZ I (va_up (va_up (va_up (va_up F 31 w1) 32 w2) 33 w3) 34 w4)) H := hP
      have hD : va_D A (mW h0 q cB cI cZ I (va_up (va_up (va_up (va_up F 31 w1) 32 w2) 33 w3) 34 w4)) := hD
      refine lv_iconst (v := 1) hx hb dX10_breaks_59 (by decide) ?_
      refine lv_isub hx hb dX10_breaks_60 ?_
      refine lv_istore_n (lv' := [(2, .int ((nI (To k - Fm k)) - 1)), (1, .int (nI k)), (0, .ref h0)]) hx hb dX10_breaks_61 rfl hl (by decide) rfl (fun ls hl => ?_)
      refine lk_row (I := I) (F := F) (pn := pn) (pe := pe) (sl := sl) (K := K) (Fm := Fm) (To := To) (Rr := Rr) (mo := mo) (pp := k) hpv hI2 hI14 hmo hSS hSt (by omega) hRf hRl hRc hRs hA hf hK (To k - Fm k) _ C w1 w2 w3 w4 H locs ls (Nat.le_refl _) rfl htab hcl hP hD hS (lv_sub hl (l' := [(2, .int ((nI (To k - Fm k)) - 1)), (1, .int (nI k)), (0, .ref h0)]) [0, 1, 2] rfl) (fun C2 y1 y2 y3 y4 H locs ls b1 b2 b3 hP hD hS hl => ?_)
      refine lv_iinc (v := ((nI k) + (-1))) (lv' := [(1, .int ((nI k) + (-1))), (0, .ref h0)]) hx hb dX10_breaks_78 hl (k := 0) rfl rfl (by decide) rfl (fun ls hl => ?_)
      refine lv_goto (tgt := 50) hx hb dX10_breaks_81 (by decide) ?_
      exact ih _ C2 y1 y2 y3 y4 H locs ls (by omega) (q_dec _) b2 b3 hP hD hS (lv_sub hl (l' := [(1, .int ((nI k) + (-1))), (0, .ref h0)]) [0, 1] rfl) (fun C3 w1 w2 w3 w4 H locs ls e3 => kk C3 w1 w2 w3 w4 H locs ls (by rw [e3, b1]; rfl))
