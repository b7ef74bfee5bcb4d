def rg_first (Gp : Nat → Nat) (g : Nat) : Nat → Nat → Nat
  | 0, i => i
  | k + 1, i => if Gp i < g then rg_first Gp g k (i + 1) else i
theorem rg_first_le (Gp : Nat → Nat) (g : Nat) : ∀ k i, i ≤ rg_first Gp g k i ∧ rg_first Gp g k i ≤ i + k := by
  intro k
  induction k with
  | zero => intro i; exact ⟨Nat.le_refl _, Nat.le_refl _⟩
  | succ k ih =>
    intro i
    unfold rg_first
    by_cases h : Gp i < g
    · rw [if_pos h]; have := ih (i + 1); omega
    · rw [if_neg h]; omega
def rs_S (Fm To : Nat → Nat) : Nat → Nat
  | 0 => 0
  | p + 1 => rs_S Fm To p + (To p - Fm p)
theorem rs_S_mono (Fm To : Nat → Nat) : ∀ d p, rs_S Fm To p ≤ rs_S Fm To (p + d) := by
  intro d
  induction d with
  | zero => intro p; exact Nat.le_refl _
  | succ d ih =>
    intro p
    refine Nat.le_trans (ih p) ?_
    show rs_S Fm To (p + d) ≤ rs_S Fm To (p + d) + _
    omega
theorem rs_S_far {Fm To : Nat → Nat} {p0 r0 en : Nat} {x : Nat × Nat × Nat} (h : rs_far To Fm p0 r0 en x) (hr : r0 < To p0 - Fm p0) : rs_S Fm To p0 + r0 < rs_S Fm To x.1 + x.2.1 := by
  rcases h.1 with h1 | h1
  · have h2 := rs_S_mono Fm To (x.1 - (p0 + 1)) (p0 + 1)
    rw [show p0 + 1 + (x.1 - (p0 + 1)) = x.1 by omega] at h2
    have h3 : rs_S Fm To (p0 + 1) = rs_S Fm To p0 + (To p0 - Fm p0) := rfl
    omega
  · rw [← h1.1]; omega
theorem rs_S_end {Fm To : Nat → Nat} {p r en : Nat} (hp : p ≤ en) (hr : p < en → r < To p - Fm p) (h0 : p = en → r = 0) : rs_S Fm To p + r ≤ rs_S Fm To en := by
  by_cases h : p = en
  · rw [h0 h, h]; exact Nat.le_refl _
  · have h2 := rs_S_mono Fm To (en - (p + 1)) (p + 1)
    rw [show p + 1 + (en - (p + 1)) = en by omega] at h2
    have h3 : rs_S Fm To (p + 1) = rs_S Fm To p + (To p - Fm p) := rfl
    have := hr (by omega)
    omega
/-- where the next sheet begins, and the rows of this one -/
noncomputable def rs_nx (K : Nat → Int32) (Fm To Rr : Nat → Nat) (fi en mo p r : Nat) : Nat × Nat × Nat := (rs_lay K Fm To Rr p r en mo 41 p r (pb (rp_ra (K p) (Fm p) p r fi)) 0 none).getD (0, 0, 0)
noncomputable def rs_cnt (K : Nat → Int32) (Fm To Rr : Nat → Nat) (fi en mo : Nat) : Nat → Nat → Nat → Nat
  | 0, _, _ => 0
  | f + 1, p, r => if p < en then 1 + rs_cnt K Fm To Rr fi en mo f (rs_nx K Fm To Rr fi en mo p r).1 (rs_nx K Fm To Rr fi en mo p r).2.1 else 0
theorem rs_cnt_out {K : Nat → Int32} {Fm To Rr : Nat → Nat} {fi en mo f p r : Nat} (h : ¬ p < en) : rs_cnt K Fm To Rr fi en mo f p r = 0 := by
  cases f with
  | zero => rfl
  | succ f => exact if_neg h
theorem rs_cnt_in {K : Nat → Int32} {Fm To Rr : Nat → Nat} {fi en mo f p r : Nat} {x : Nat × Nat × Nat} (h : p < en) (e : rs_lay K Fm To Rr p r en mo 41 p r (pb (rp_ra (K p) (Fm p) p r fi)) 0 none = some x) : rs_cnt K Fm To Rr fi en mo (f + 1) p r = 1 + rs_cnt K Fm To Rr fi en mo f x.1 x.2.1 := by
  have e2 : rs_nx K Fm To Rr fi en mo p r = x := by unfold rs_nx; rw [e]; rfl
  rw [← e2]
  exact if_pos h
abbrev cX10_firstOf : ByteArray := prog_12_method_43_code
def yX10_firstOf : MethodName := ⟨RX10, "firstOf", "(I)I"⟩
theorem dX10_firstOf_2 : decode cX10_firstOf 2 = .ok (.iload_n 2, 1) := by decide +kernel
theorem dX10_firstOf_3 : decode cX10_firstOf 3 = .ok (.aload_n 0, 1) := by decide +kernel
theorem dX10_firstOf_4 : decode cX10_firstOf 4 = .ok (.getfield 158, 3) := by decide +kernel
theorem dX10_firstOf_7 : decode cX10_firstOf 7 = .ok (.if_icmp .ge 19, 3) := by decide +kernel
theorem dX10_firstOf_10 : decode cX10_firstOf 10 = .ok (.aload_n 0, 1) := by decide +kernel
theorem dX10_firstOf_11 : decode cX10_firstOf 11 = .ok (.getfield 59, 3) := by decide +kernel
theorem dX10_firstOf_14 : decode cX10_firstOf 14 = .ok (.iload_n 2, 1) := by decide +kernel
theorem dX10_firstOf_15 : decode cX10_firstOf 15 = .ok (.iaload, 1) := by decide +kernel
theorem dX10_firstOf_16 : decode cX10_firstOf 16 = .ok (.iload_n 1, 1) := by decide +kernel
theorem dX10_firstOf_17 : decode cX10_firstOf 17 = .ok (.if_icmp .ge 9, 3) := by decide +kernel
theorem dX10_firstOf_20 : decode cX10_firstOf 20 = .ok (.iinc 2 1, 3) := by decide +kernel
theorem dX10_firstOf_23 : decode cX10_firstOf 23 = .ok (.goto (-21), 3) := by decide +kernel
theorem dX10_firstOf_0 : decode cX10_firstOf 0 = .ok (.iconst 0, 1) := by decide +kernel
theorem dX10_firstOf_1 : decode cX10_firstOf 1 = .ok (.istore_n 2, 1) := by decide +kernel
theorem dX10_firstOf_26 : decode cX10_firstOf 26 = .ok (.iload_n 2, 1) := by decide +kernel
theorem dX10_firstOf_27 : decode cX10_firstOf 27 = .ok (.ireturn, 1) := by decide +kernel
set_option maxHeartbeats 1000000 in
set_option maxRecDepth 100000 in
theorem lf_first {p : Program} {l : Launch} {e : Env} {R : Room} {s : State} {m : MethodId} {args : Array Value} {below : List Frame} {meth : Method} {c : Code} {cells slots : Nat} {Q : State → Prop} {D : va_G} {h0 : Nat} {q : Nat → Nat} {cB cI cZ : ClassId} {I : Nat → Int32} {F : Nat → Nat → Int32} {pn gg : Nat} {Gp : Nat → Nat} (hI14 : I 14 = nI pn) (hpn : pn ≤ 8000) (hgg : gg ≤ 9000) (hG : ∀ p, p < pn → F 18 p = nI (Gp p) ∧ Gp p ≤ 8000) {H : Heap} {locs : List Loc} (hf : CallFix p m c cX10_firstOf 3 s args gT yX10_firstOf.cls) (hK : va_K D vcl (mT cB cI cZ) s) (hP : va_P D vcl (mW h0 q cB cI cZ I F) H) :
    ∀ (k : Nat) (i : Nat) (ls : Array Slot), i + k = pn →  lv_has ls 3 [(2, .int (nI i)), (1, .int (nI gg)), (0, .ref h0)] → (∀ (z : Nat) (ls : Array Slot), z = rg_first Gp gg k i → lv_has ls 3 [(2, .int (nI z)), (1, .int (nI gg)), (0, .ref h0)] → W p l e R s m args below meth c H locs cells slots Q (F0 m 26 ls [])) → W p l e R s m args below meth c H locs cells slots Q (F0 m 2 ls []) := by
  obtain ⟨hx, hb, hml, hown, hts⟩ := id hf
  intro k
  induction k with
  | zero =>
    intro i ls hik hl kk
    refine lv_iload_n hx hb dX10_firstOf_2 rfl (lv_at hl 0 rfl) ?_
    refine lv_aload_n hx hb dX10_firstOf_3 rfl (lv_at hl 2 rfl) ?_
    refine va_get (D := D) (ci := 11) (v := .int (I 14)) (C := RX10) (T := TX10) (N := 48) hx hb hts inX10 hown hK hP 0 rfl rfl 14 (by decide) (hts _ k_1158) (fun _ h9 => h9) rfl dX10_firstOf_4 ?_
    refine q_seti (y := (nI pn)) hI14 ?_
    refine lv_icmp_ge (tgt := 26) hx hb dX10_firstOf_7 (by decide) (fun c_1 => ?_) (fun c_1 => ?_)
    · have c_1 := q_le (a := pn) (b := i) (by omega) (by omega) c_1
      exact kk i ls rfl (lv_sub hl (l' := [(2, .int (nI i)), (1, .int (nI gg)), (0, .ref h0)]) [0, 1, 2] rfl)
    · have c_1 := q_nle (a := pn) (b := i) (by omega) (by omega) c_1
      refine lv_aload_n hx hb dX10_firstOf_10 rfl (lv_at hl 2 rfl) ?_
      refine va_get (D := D) (ci := 11) (v := .ref (q 18)) (C := RX10) (T := TX10) (N := 48) hx hb hts inX10 hown hK hP 0 rfl rfl 18 (by decide) (hts _ k_1162) (fun _ h9 => h9) rfl dX10_firstOf_11 ?_
      refine lv_iload_n hx hb dX10_firstOf_14 rfl (lv_at hl 0 rfl) ?_
      refine q_ild (X := i) (f := (F 18)) hx hb hK hP 15 1 rfl rfl (by omega) (by decide) dX10_firstOf_15 ?_
      refine q_seti (y := (nI (Gp i))) (hG i (by omega)).1 ?_
      have hGi := (hG i (by omega)).2
      refine lv_iload_n hx hb dX10_firstOf_16 rfl (lv_at hl 1 rfl) ?_
      refine lv_icmp_ge (tgt := 26) hx hb dX10_firstOf_17 (by decide) (fun c_2 => ?_) (fun c_2 => ?_)
      · have c_2 := q_le (a := gg) (b := Gp i) (by omega) (by omega) c_2
        exact kk i ls rfl (lv_sub hl (l' := [(2, .int (nI i)), (1, .int (nI gg)), (0, .ref h0)]) [0, 1, 2] rfl)
      · have c_2 := q_nle (a := gg) (b := Gp i) (by omega) (by omega) c_2
        refine lv_iinc (v := (nI (i + 1))) (lv' := [(2, .int (nI (i + 1))), (1, .int (nI gg)), (0, .ref h0)]) hx hb dX10_firstOf_20 hl (k := 0) rfl (nI_add i 1) (by decide) rfl (fun ls hl => ?_)
        refine lv_goto (tgt := 2) hx hb dX10_firstOf_23 (by decide) ?_
        exact absurd hik (by omega)
  | succ k ih =>
    intro i ls hik hl kk
    refine lv_iload_n hx hb dX10_firstOf_2 rfl (lv_at hl 0 rfl) ?_
    refine lv_aload_n hx hb dX10_firstOf_3 rfl (lv_at hl 2 rfl) ?_
    refine va_get (D := D) (ci := 11) (v := .int (I 14)) (C := RX10) (T := TX10) (N := 48) hx hb hts inX10 hown hK hP 0 rfl rfl 14 (by decide) (hts _ k_1158) (fun _ h9 => h9) rfl dX10_firstOf_4 ?_
    refine q_seti (y := (nI pn)) hI14 ?_
    refine lv_icmp_ge (tgt := 26) hx hb dX10_firstOf_7 (by decide) (fun c_1 => ?_) (fun c_1 => ?_)
    · have c_1 := q_le (a := pn) (b := i) (by omega) (by omega) c_1
      exact kk i ls (by show i = if Gp i < gg then _ else i; rw [if_neg (by omega)]) (lv_sub hl (l' := [(2, .int (nI i)), (1, .int (nI gg)), (0, .ref h0)]) [0, 1, 2] rfl)
    · have c_1 := q_nle (a := pn) (b := i) (by omega) (by omega) c_1
      refine lv_aload_n hx hb dX10_firstOf_10 rfl (lv_at hl 2 rfl) ?_
      refine va_get (D := D) (ci := 11) (v := .ref (q 18)) (C := RX10) (T := TX10) (N := 48) hx hb hts inX10 hown hK hP 0 rfl rfl 18 (by decide) (hts _ k_1162) (fun _ h9 => h9) rfl dX10_firstOf_11 ?_
      refine lv_iload_n hx hb dX10_firstOf_14 rfl (lv_at hl 0 rfl) ?_
      refine q_ild (X := i) (f := (F 18)) hx hb hK hP 15 1 rfl rfl (by omega) (by decide) dX10_firstOf_15 ?_
      refine q_seti (y := (nI (Gp i))) (hG i (by omega)).1 ?_
      have hGi := (hG i (by omega)).2
      refine lv_iload_n hx hb dX10_firstOf_16 rfl (lv_at hl 1 rfl) ?_
      refine lv_icmp_ge (tgt := 26) hx hb dX10_firstOf_17 (by decide) (fun c_2 => ?_) (fun c_2 => ?_)
      · have c_2 := q_le (a := gg) (b := Gp i) (by omega) (by omega) c_2
        exact kk i ls (by show i = if Gp i < gg then _ else i; rw [if_neg (by omega)]) (lv_sub hl (l' := [(2, .int (nI i)), (1, .int (nI gg)), (0, .ref h0)]) [0, 1, 2] rfl)
      · have c_2 := q_nle (a := gg) (b := Gp i) (by omega) (by omega) c_2
        refine lv_iinc (v := (nI (i + 1))) (lv' := [(2, .int (nI (i + 1))), (1, .int (nI gg)), (0, .ref h0)]) hx hb dX10_firstOf_20 hl (k := 0) rfl (nI_add i 1) (by decide) rfl (fun ls hl => ?_)
        refine lv_goto (tgt := 2) hx hb dX10_firstOf_23 (by decide) ?_
        exact ih (i + 1) ls (by omega) (lv_sub hl (l' := [(2, .int (nI (i + 1))), (1, .int (nI gg)), (0, .ref h0)]) [0, 1, 2] rfl) (fun z ls ez hl => kk z ls (ez.trans (show _ = if Gp i < gg then _ else i by rw [if_pos (by omega)])) hl)
set_option maxHeartbeats 1000000 in
set_option maxRecDepth 100000 in
theorem r_firstOf (l : Launch) (D : va_G) (h0 : Nat) (q : Nat → Nat) (cB cI_ cZ : ClassId) (I : Nat → Int32) (F : Nat → Nat → Int32) (pn gg : Nat) (Gp : Nat → Nat) (hI14 : I 14 = nI pn) (hpn : pn ≤ 8000) (hgg : gg ≤ 9000) (hG : ∀ p, p < pn → F 18 p = nI (Gp p) ∧ Gp p ≤ 8000) : cI l D yX10_firstOf cX10_firstOf 3 (some .int) 0 0 0 0 [.ref h0, .int (nI gg)] zT (mW h0 q cB cI_ cZ I F) (mT cB cI_ cZ) (fun r u => r = nI (rg_first Gp gg pn 0) ∧ u = (mW h0 q cB cI_ cZ I F, mT cB cI_ cZ)) := by
  refine q_si (by decide) (Nat.le_of_ble_eq_true rfl) ?_
  intro p e s m below meth c A ls hAe hf hr hlocks hin hK hP hD hS hA hZ hl
  obtain ⟨hx, hb, hml, hown, hts⟩ := id hf
  have hl : lv_has ls 3 [(0, .ref h0), (1, .int (nI gg))] := hl
  refine lv_iconst (v := 0) hx hb dX10_firstOf_0 (by decide) ?_
  refine lv_istore_n (lv' := [(2, .int 0), (0, .ref h0), (1, .int (nI gg))]) hx hb dX10_firstOf_1 rfl hl (by decide) rfl (fun ls hl => ?_)
  refine lf_first (I := I) (F := F) (pn := pn) (gg := gg) (Gp := Gp) hI14 hpn hgg hG hf hK hP pn 0 ls (by omega) (lv_sub hl (l' := [(2, .int 0), (1, .int (nI gg)), (0, .ref h0)]) [0, 2, 1] rfl) (fun z ls ez hl => ?_)
  refine lv_iload_n hx hb dX10_firstOf_26 rfl (lv_at hl 0 rfl) ?_
  exact q_zi hf hr rfl hlocks hK hP hD hS (Nat.le_of_ble_eq_true rfl) (Nat.le_of_ble_eq_true rfl) ⟨by rw [ez], rfl⟩ dX10_firstOf_27
