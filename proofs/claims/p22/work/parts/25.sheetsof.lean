abbrev cX10_sheetsOf : ByteArray := prog_12_method_44_code
def yX10_sheetsOf : MethodName := ⟨RX10, "sheetsOf", "(I)I"⟩
theorem k_72 : (Cond.selects RX10 yX10_firstOf yX10_firstOf) ∈ gT := gT_i 72 (by decide +kernel) rfl
theorem k_73 : (Cond.selects RX10 yX10_laySheet yX10_laySheet) ∈ gT := gT_i 73 (by decide +kernel) rfl
theorem k_1448 : (Cond.methodLink RX10 250 yX10_firstOf) ∈ gT := gT_i 1448 (by decide +kernel) rfl
theorem k_1450 : (Cond.instanceMethod yX10_firstOf) ∈ gT := gT_i 1450 (by decide +kernel) rfl
theorem k_1451 : (Cond.code yX10_firstOf cX10_firstOf 3 (some .int)) ∈ gT := gT_i 1451 (by decide +kernel) rfl
theorem k_1452 : (Cond.methodLink RX10 253 yX10_laySheet) ∈ gT := gT_i 1452 (by decide +kernel) rfl
theorem k_1454 : (Cond.instanceMethod yX10_laySheet) ∈ gT := gT_i 1454 (by decide +kernel) rfl
theorem k_1455 : (Cond.code yX10_laySheet cX10_laySheet 13 none) ∈ gT := gT_i 1455 (by decide +kernel) rfl
theorem dX10_sheetsOf_23 : decode cX10_sheetsOf 23 = .ok (.iload 5, 2) := by decide +kernel
theorem dX10_sheetsOf_25 : decode cX10_sheetsOf 25 = .ok (.iload_n 3, 1) := by decide +kernel
theorem dX10_sheetsOf_26 : decode cX10_sheetsOf 26 = .ok (.if_icmp .ge 31, 3) := by decide +kernel
theorem dX10_sheetsOf_29 : decode cX10_sheetsOf 29 = .ok (.aload_n 0, 1) := by decide +kernel
theorem dX10_sheetsOf_30 : decode cX10_sheetsOf 30 = .ok (.iload 5, 2) := by decide +kernel
theorem dX10_sheetsOf_32 : decode cX10_sheetsOf 32 = .ok (.iload 6, 2) := by decide +kernel
theorem dX10_sheetsOf_34 : decode cX10_sheetsOf 34 = .ok (.iload_n 2, 1) := by decide +kernel
theorem dX10_sheetsOf_35 : decode cX10_sheetsOf 35 = .ok (.iload_n 3, 1) := by decide +kernel
theorem dX10_sheetsOf_36 : decode cX10_sheetsOf 36 = .ok (.invokevirtual 253, 3) := by decide +kernel
theorem dX10_sheetsOf_39 : decode cX10_sheetsOf 39 = .ok (.aload_n 0, 1) := by decide +kernel
theorem dX10_sheetsOf_40 : decode cX10_sheetsOf 40 = .ok (.getfield 205, 3) := by decide +kernel
theorem dX10_sheetsOf_43 : decode cX10_sheetsOf 43 = .ok (.istore 5, 2) := by decide +kernel
theorem dX10_sheetsOf_45 : decode cX10_sheetsOf 45 = .ok (.aload_n 0, 1) := by decide +kernel
theorem dX10_sheetsOf_46 : decode cX10_sheetsOf 46 = .ok (.getfield 218, 3) := by decide +kernel
theorem dX10_sheetsOf_49 : decode cX10_sheetsOf 49 = .ok (.istore 6, 2) := by decide +kernel
theorem dX10_sheetsOf_51 : decode cX10_sheetsOf 51 = .ok (.iinc 4 1, 3) := by decide +kernel
theorem dX10_sheetsOf_54 : decode cX10_sheetsOf 54 = .ok (.goto (-31), 3) := by decide +kernel
theorem dX10_sheetsOf_0 : decode cX10_sheetsOf 0 = .ok (.aload_n 0, 1) := by decide +kernel
theorem dX10_sheetsOf_1 : decode cX10_sheetsOf 1 = .ok (.iload_n 1, 1) := by decide +kernel
theorem dX10_sheetsOf_2 : decode cX10_sheetsOf 2 = .ok (.invokevirtual 250, 3) := by decide +kernel
theorem dX10_sheetsOf_5 : decode cX10_sheetsOf 5 = .ok (.istore_n 2, 1) := by decide +kernel
theorem dX10_sheetsOf_6 : decode cX10_sheetsOf 6 = .ok (.aload_n 0, 1) := by decide +kernel
theorem dX10_sheetsOf_7 : decode cX10_sheetsOf 7 = .ok (.iload_n 1, 1) := by decide +kernel
theorem dX10_sheetsOf_8 : decode cX10_sheetsOf 8 = .ok (.iconst 1, 1) := by decide +kernel
theorem dX10_sheetsOf_9 : decode cX10_sheetsOf 9 = .ok (.iadd, 1) := by decide +kernel
theorem dX10_sheetsOf_10 : decode cX10_sheetsOf 10 = .ok (.invokevirtual 250, 3) := by decide +kernel
theorem dX10_sheetsOf_13 : decode cX10_sheetsOf 13 = .ok (.istore_n 3, 1) := by decide +kernel
theorem dX10_sheetsOf_14 : decode cX10_sheetsOf 14 = .ok (.iconst 0, 1) := by decide +kernel
theorem dX10_sheetsOf_15 : decode cX10_sheetsOf 15 = .ok (.istore 4, 2) := by decide +kernel
theorem dX10_sheetsOf_17 : decode cX10_sheetsOf 17 = .ok (.iload_n 2, 1) := by decide +kernel
theorem dX10_sheetsOf_18 : decode cX10_sheetsOf 18 = .ok (.istore 5, 2) := by decide +kernel
theorem dX10_sheetsOf_20 : decode cX10_sheetsOf 20 = .ok (.iconst 0, 1) := by decide +kernel
theorem dX10_sheetsOf_21 : decode cX10_sheetsOf 21 = .ok (.istore 6, 2) := by decide +kernel
theorem dX10_sheetsOf_57 : decode cX10_sheetsOf 57 = .ok (.iload 4, 2) := by decide +kernel
theorem dX10_sheetsOf_59 : decode cX10_sheetsOf 59 = .ok (.ifCond .ne 7, 3) := by decide +kernel
theorem dX10_sheetsOf_66 : decode cX10_sheetsOf 66 = .ok (.iload 4, 2) := by decide +kernel
theorem dX10_sheetsOf_68 : decode cX10_sheetsOf 68 = .ok (.ireturn, 1) := by decide +kernel
theorem dX10_sheetsOf_62 : decode cX10_sheetsOf 62 = .ok (.iconst 1, 1) := by decide +kernel
theorem dX10_sheetsOf_63 : decode cX10_sheetsOf 63 = .ok (.goto 5, 3) := by decide +kernel
theorem rg_first_mono (Gp : Nat → Nat) (g : Nat) : ∀ k i, rg_first Gp g k i ≤ rg_first Gp (g + 1) k i := by
  intro k
  induction k with
  | zero => intro i; exact Nat.le_refl _
  | succ k ih =>
    intro i
    unfold rg_first
    by_cases h : Gp i < g
    · rw [if_pos h, if_pos (by omega)]; exact ih (i + 1)
    · rw [if_neg h]
      by_cases h2 : Gp i < g + 1
      · rw [if_pos h2]; have := (rg_first_le Gp (g + 1) k (i + 1)).1; omega
      · rw [if_neg h2]; exact Nat.le_refl _
noncomputable def rs_num (K : Nat → Int32) (Fm To Rr Gp : Nat → Nat) (pn mo gg : Nat) : Nat := rs_cnt K Fm To Rr (rg_first Gp gg pn 0) (rg_first Gp (gg + 1) pn 0) mo 8000 (rg_first Gp gg pn 0) 0
set_option maxHeartbeats 1000000 in
set_option maxRecDepth 100000 in
theorem ls_cnt {p : Program} {l : Launch} {e : Env} {R : Room} {s : State} {m : MethodId} {args : Array Value} {below : List Frame} {meth : Method} {c : Code} {cells slots : Nat} {Q : State → Prop} {D : va_G} {A : Nat → Prop} {h0 : Nat} {q : Nat → Nat} {cB cI cZ : ClassId} {I : Nat → Int32} {F : Nat → Nat → Int32} {pn : Nat} {pe sl : Nat → Nat} {K : Nat → Int32} {Fm To Rr : Nat → Nat} {fi en mo : Nat} {x1 : Int32} (hpv : rp_ok F pn pe sl K Fm To Rr) (hI2 : I 2 = nI mo) (hmo1 : 10 ≤ mo) (hmo : mo ≤ 40) (hen : en ≤ pn) (hfi : fi ≤ 8000) (hSS : rs_S Fm To en ≤ 8000) (hRf : 4 ≤ R.frames) (hRl : 130 ≤ R.locals) (hRc : cells ≤ R.cells) (hRs : slots ≤ R.slots) (hA : ∀ q : Nat, s.heap.size ≤ q → A q) (hf : CallFix p m c cX10_sheetsOf 7 s args gT yX10_sheetsOf.cls) (hK : va_K D vcl (mT cB cI cZ) s) :
    ∀ (k : Nat) (pp : Nat) (rr : Nat) (nn : Nat) (v25 : Int32) (v26 : Int32) (v27 : Int32) (H : Heap) (locs : List Loc) (ls : Array Slot), rs_S Fm To en ≤ rs_S Fm To pp + rr + k → pp ≤ en → (pp < en → rr < To pp - Fm pp) → (pp = en → rr = 0) → nn ≤ rs_S Fm To pp + rr →  va_P D vcl (mW h0 q cB cI cZ (upd (upd (upd I 25 v25) 26 v26) 27 v27) F) H → va_D A (mW h0 q cB cI cZ (upd (upd (upd I 25 v25) 26 v26) 27 v27) F) → va_S A s.heap H locs → lv_has ls 7 [(6, .int (nI rr)), (5, .int (nI pp)), (4, .int (nI nn)), (3, .int (nI en)), (2, .int (nI fi)), (1, .int x1), (0, .ref h0)] →
    (∀ (n2 : Nat) (v1 : Int32) (v2 : Int32) (v3 : Int32) (H : Heap) (locs : List Loc) (ls : Array Slot), n2 = nn + rs_cnt K Fm To Rr fi en mo k pp rr → va_P D vcl (mW h0 q cB cI cZ (upd (upd (upd I 25 v1) 26 v2) 27 v3) F) H → va_D A (mW h0 q cB cI cZ (upd (upd (upd I 25 v1) 26 v2) 27 v3) F) → va_S A s.heap H locs → lv_has ls 7 [(4, .int (nI n2)), (0, .ref h0)] → W p l e R s m args below meth c H locs cells slots Q (F0 m 57 ls [])) →
    W p l e R s m args below meth c H locs cells slots Q (F0 m 23 ls []) := by
  obtain ⟨hx, hb, hml, hown, hts⟩ := id hf
  have hpn8 := hpv.1
  have hzz : ∀ p, p < en → 0 < To p - Fm p := fun p hp => by have := hpv.2 p (by omega); omega
  intro k
  induction k with
  | zero =>
    intro pp rr nn v25 v26 v27 H locs ls hik hpp hrr hr0 hnn hP hD hS hl kk
    refine lv_iload hx hb dX10_sheetsOf_23 (lv_at hl 1 rfl) ?_
    refine lv_iload_n hx hb dX10_sheetsOf_25 rfl (lv_at hl 3 rfl) ?_
    refine lv_icmp_ge (tgt := 57) hx hb dX10_sheetsOf_26 (by decide) (fun c_1 => ?_) (fun c_1 => ?_)
    · have c_1 := q_le (a := en) (b := pp) (by omega) (by omega) c_1
      exact kk nn v25 v26 v27 H locs ls (by rw [rs_cnt_out (by omega)]; rfl) hP hD hS (lv_sub hl (l' := [(4, .int (nI nn)), (0, .ref h0)]) [2, 6] rfl)
    · have c_1 := q_nle (a := en) (b := pp) (by omega) (by omega) c_1
      exact False.elim (by have z1 := rs_S_end (Fm := Fm) (To := To) (show pp + 1 ≤ en by omega) (fun h => (hzz _ h)) (fun _ => rfl); have z2 : rs_S Fm To (pp + 1) = rs_S Fm To pp + (To pp - Fm pp) := rfl; have z3 := hrr (by omega); omega)
  | succ k ih =>
    intro pp rr nn v25 v26 v27 H locs ls hik hpp hrr hr0 hnn hP hD hS hl kk
    refine lv_iload hx hb dX10_sheetsOf_23 (lv_at hl 1 rfl) ?_
    refine lv_iload_n hx hb dX10_sheetsOf_25 rfl (lv_at hl 3 rfl) ?_
    refine lv_icmp_ge (tgt := 57) hx hb dX10_sheetsOf_26 (by decide) (fun c_1 => ?_) (fun c_1 => ?_)
    · have c_1 := q_le (a := en) (b := pp) (by omega) (by omega) c_1
      exact kk nn v25 v26 v27 H locs ls (by rw [rs_cnt_out (by omega)]; rfl) hP hD hS (lv_sub hl (l' := [(4, .int (nI nn)), (0, .ref h0)]) [2, 6] rfl)
    · have c_1 := q_nle (a := en) (b := pp) (by omega) (by omega) c_1
      have z1 := rs_S_end (Fm := Fm) (To := To) hpp hrr hr0
      refine lv_aload_n hx hb dX10_sheetsOf_29 rfl (lv_at hl 6 rfl) ?_
      refine lv_iload hx hb dX10_sheetsOf_30 (lv_at hl 1 rfl) ?_
      refine lv_iload hx hb dX10_sheetsOf_32 (lv_at hl 0 rfl) ?_
      refine lv_iload_n hx hb dX10_sheetsOf_34 rfl (lv_at hl 4 rfl) ?_
      refine lv_iload_n hx hb dX10_sheetsOf_35 rfl (lv_at hl 3 rfl) ?_
      refine q_cv (k := cells) (n := slots) hK hP hD hS hA (fun hPc hKc hDc => q_rV (As := [.int (nI pp), .int (nI rr), .int (nI fi), .int (nI en)]) (rest := []) hf (r_laySheet _ D h0 q cB cI cZ (upd (upd (upd I 25 v25) 26 v26) 27 v27) F pn pe sl K Fm To Rr pp rr fi en mo hpv hI2 hmo1 hmo (by omega) (by omega) (hrr (by omega)) (by omega) _) k_1455 k_1452 k_1454 k_73 k_98 (nA := 4) (by decide +kernel) ⟨Nat.le_trans (by decide) hRf, Nat.le_trans (by decide) hRl⟩ hK hP (ci := 11) (q0 := 0) rfl rfl rfl hPc hKc hDc (fun _ _ _ _ h => h) (fun _ _ _ => trivial) rfl hl.1 rfl (Nat.le_of_ble_eq_true rfl) dX10_sheetsOf_36 ⟨hRc, hRs⟩) (Nat.le_refl _) (Nat.le_refl _) (fun u H locs hw hK hP hD hS => ?_)
      obtain ⟨b2, v1, v2, v3, a1, a2, rfl⟩ := hw
      obtain ⟨x, ex, hxf⟩ := rs_some (K := K) (Rr := Rr) (f := 40) hzz hmo1 hmo (show pp < en by omega) (hrr (by omega)) (pb_le (rp_ra (K pp) (Fm pp) pp rr fi))
      rw [a1.trans ex] at a2
      obtain ⟨rfl, rfl, rfl⟩ := a2
      have hP : va_P D vcl (mW h0 q cB cI cZ (upd (upd (upd I 25 (nI (x.1))) 26 (nI (x.2.1))) 27 (nI (x.2.2))) F) H := hP
      have hD : va_D A (mW h0 q cB cI cZ (upd (upd (upd I 25 (nI (x.1))) 26 (nI (x.2.1))) 27 (nI (x.2.2))) F) := hD
      refine lv_aload_n hx hb dX10_sheetsOf_39 rfl (lv_at hl 6 rfl) ?_
      refine va_get (D := D) (ci := 11) (v := .int (nI (x.1))) (C := RX10) (T := TX10) (N := 48) hx hb hts inX10 hown hK hP 0 rfl rfl 25 (by decide) (hts _ k_1169) (fun _ h9 => h9) rfl dX10_sheetsOf_40 ?_
      refine lv_istore (lv' := [(5, .int (nI (x.1))), (6, .int (nI rr)), (4, .int (nI nn)), (3, .int (nI en)), (2, .int (nI fi)), (1, .int x1), (0, .ref h0)]) hx hb dX10_sheetsOf_43 hl (by decide) rfl (fun ls hl => ?_)
      refine lv_aload_n hx hb dX10_sheetsOf_45 rfl (lv_at hl 6 rfl) ?_
      refine va_get (D := D) (ci := 11) (v := .int (nI (x.2.1))) (C := RX10) (T := TX10) (N := 48) hx hb hts inX10 hown hK hP 0 rfl rfl 26 (by decide) (hts _ k_1170) (fun _ h9 => h9) rfl dX10_sheetsOf_46 ?_
      refine lv_istore (lv' := [(6, .int (nI (x.2.1))), (5, .int (nI (x.1))), (4, .int (nI nn)), (3, .int (nI en)), (2, .int (nI fi)), (1, .int x1), (0, .ref h0)]) hx hb dX10_sheetsOf_49 hl (by decide) rfl (fun ls hl => ?_)
      refine lv_iinc (v := (nI (nn + 1))) (lv' := [(4, .int (nI (nn + 1))), (6, .int (nI (x.2.1))), (5, .int (nI (x.1))), (3, .int (nI en)), (2, .int (nI fi)), (1, .int x1), (0, .ref h0)]) hx hb dX10_sheetsOf_51 hl (k := 2) rfl (nI_add nn 1) (by decide) rfl (fun ls hl => ?_)
      refine lv_goto (tgt := 23) hx hb dX10_sheetsOf_54 (by decide) ?_
      have z4 := rs_S_far hxf (hrr (by omega))
      exact ih x.1 x.2.1 (nn + 1) _ _ _ H locs ls (by omega) hxf.2.1 hxf.2.2.1 hxf.2.2.2.1 (by omega) hP hD hS (lv_sub hl (l' := [(6, .int (nI (x.2.1))), (5, .int (nI (x.1))), (4, .int (nI (nn + 1))), (3, .int (nI en)), (2, .int (nI fi)), (1, .int x1), (0, .ref h0)]) [1, 2, 0, 3, 4, 5, 6] rfl) (fun n2 v1 v2 v3 H locs ls a1 => kk n2 v1 v2 v3 H locs ls (a1.trans (by rw [rs_cnt_in (show pp < en by omega) ex]; omega)))
set_option maxHeartbeats 1000000 in
set_option maxRecDepth 100000 in
theorem r_sheetsOf (l : Launch) (D : va_G) (h0 : Nat) (q : Nat → Nat) (cB cI_ cZ : ClassId) (I : Nat → Int32) (F : Nat → Nat → Int32) (pn : Nat) (pe sl : Nat → Nat) (K : Nat → Int32) (Fm To Rr : Nat → Nat) (mo gg : Nat) (Gp : Nat → Nat) (hpv : rp_ok F pn pe sl K Fm To Rr) (hI2 : I 2 = nI mo) (hmo1 : 10 ≤ mo) (hmo : mo ≤ 40) (hI14 : I 14 = nI pn) (hG : ∀ p, p < pn → F 18 p = nI (Gp p) ∧ Gp p ≤ 8000) (hgg : gg ≤ 8000) (hSS : rs_S Fm To pn ≤ 8000) (hnc : rs_num K Fm To Rr Gp pn mo gg ≤ 8000) : cI l D yX10_sheetsOf cX10_sheetsOf 7 (some .int) 4 130 0 0 [.ref h0, .int (nI gg)] zT (mW h0 q cB cI_ cZ I F) (mT cB cI_ cZ) (fun r u => ∃ (v1 v2 v3 : Int32), r = nI (if rs_num K Fm To Rr Gp pn mo gg = 0 then 1 else rs_num K Fm To Rr Gp pn mo gg) ∧ u = (mW h0 q cB cI_ cZ (upd (upd (upd I 25 v1) 26 v2) 27 v3) F, mT cB cI_ cZ)) := by
  refine q_si (by decide) (Nat.le_of_ble_eq_true rfl) ?_
  intro p e s m below meth c A ls hAe hf hr hlocks hin hK hP hD hS hA hZ hl
  obtain ⟨hx, hb, hml, hown, hts⟩ := id hf
  have hl : lv_has ls 7 [(0, .ref h0), (1, .int (nI gg))] := hl
  have hpn8 := hpv.1
  refine lv_aload_n hx hb dX10_sheetsOf_0 rfl (lv_at hl 0 rfl) ?_
  refine lv_iload_n hx hb dX10_sheetsOf_1 rfl (lv_at hl 1 rfl) ?_
  refine q_ci (k := 0) (n := 0) hK hP hD hS hA (fun hPc hKc hDc => q_rV (As := [.int (nI gg)]) (rest := []) hf (r_firstOf _ D h0 q cB cI_ cZ I F pn gg Gp hI14 hpv.1 (by omega) hG _) k_1451 k_1448 k_1450 k_72 k_98 (nA := 1) (by decide +kernel) ⟨Nat.le_of_ble_eq_true rfl, Nat.le_of_ble_eq_true rfl⟩ hK hP (ci := 11) (q0 := 0) rfl rfl rfl hPc hKc hDc (fun _ _ _ _ h => h) (fun _ _ _ => trivial) rfl hl.1 rfl (Nat.le_of_ble_eq_true rfl) dX10_sheetsOf_2 ⟨Nat.le_of_ble_eq_true rfl, Nat.le_of_ble_eq_true rfl⟩) (by decide) (by decide) (fun r u H locs hw hK hP hD hS => ?_)
  obtain ⟨rfl, rfl⟩ := hw
  have hP : va_P D vcl (mW h0 q cB cI_ cZ I F) H := hP
  have hD : va_D A (mW h0 q cB cI_ cZ I F) := hD
  refine lv_istore_n (lv' := [(2, .int (nI (rg_first Gp gg pn 0))), (0, .ref h0), (1, .int (nI gg))]) hx hb dX10_sheetsOf_5 rfl hl (by decide) rfl (fun ls hl => ?_)
  refine lv_aload_n hx hb dX10_sheetsOf_6 rfl (lv_at hl 1 rfl) ?_
  refine lv_iload_n hx hb dX10_sheetsOf_7 rfl (lv_at hl 2 rfl) ?_
  refine lv_iconst (v := 1) hx hb dX10_sheetsOf_8 (by decide) ?_
  refine lv_iadd hx hb dX10_sheetsOf_9 ?_
  refine q_seti (y := nI (gg + 1)) (nI_add gg 1) ?_
  refine q_ci (k := 0) (n := 0) hK hP hD hS hA (fun hPc hKc hDc => q_rV (As := [.int (nI (gg + 1))]) (rest := []) hf (r_firstOf _ D h0 q cB cI_ cZ I F pn (gg + 1) Gp hI14 hpv.1 (by omega) hG _) k_1451 k_1448 k_1450 k_72 k_98 (nA := 1) (by decide +kernel) ⟨Nat.le_of_ble_eq_true rfl, Nat.le_of_ble_eq_true rfl⟩ hK hP (ci := 11) (q0 := 0) rfl rfl rfl hPc hKc hDc (fun _ _ _ _ h => h) (fun _ _ _ => trivial) rfl hl.1 rfl (Nat.le_of_ble_eq_true rfl) dX10_sheetsOf_10 ⟨Nat.le_of_ble_eq_true rfl, Nat.le_of_ble_eq_true rfl⟩) (by decide) (by decide) (fun r u H locs hw hK hP hD hS => ?_)
  obtain ⟨rfl, rfl⟩ := hw
  have hP : va_P D vcl (mW h0 q cB cI_ cZ I F) H := hP
  have hD : va_D A (mW h0 q cB cI_ cZ I F) := hD
  refine lv_istore_n (lv' := [(3, .int (nI (rg_first Gp (gg + 1) pn 0))), (2, .int (nI (rg_first Gp gg pn 0))), (0, .ref h0), (1, .int (nI gg))]) hx hb dX10_sheetsOf_13 rfl hl (by decide) rfl (fun ls hl => ?_)
  refine lv_iconst (v := 0) hx hb dX10_sheetsOf_14 (by decide) ?_
  refine lv_istore (lv' := [(4, .int 0), (3, .int (nI (rg_first Gp (gg + 1) pn 0))), (2, .int (nI (rg_first Gp gg pn 0))), (0, .ref h0), (1, .int (nI gg))]) hx hb dX10_sheetsOf_15 hl (by decide) rfl (fun ls hl => ?_)
  refine lv_iload_n hx hb dX10_sheetsOf_17 rfl (lv_at hl 2 rfl) ?_
  refine lv_istore (lv' := [(5, .int (nI (rg_first Gp gg pn 0))), (4, .int 0), (3, .int (nI (rg_first Gp (gg + 1) pn 0))), (2, .int (nI (rg_first Gp gg pn 0))), (0, .ref h0), (1, .int (nI gg))]) hx hb dX10_sheetsOf_18 hl (by decide) rfl (fun ls hl => ?_)
  refine lv_iconst (v := 0) hx hb dX10_sheetsOf_20 (by decide) ?_
  refine lv_istore (lv' := [(6, .int 0), (5, .int (nI (rg_first Gp gg pn 0))), (4, .int 0), (3, .int (nI (rg_first Gp (gg + 1) pn 0))), (2, .int (nI (rg_first Gp gg pn 0))), (0, .ref h0), (1, .int (nI gg))]) hx hb dX10_sheetsOf_21 hl (by decide) rfl (fun ls hl => ?_)
  have hfa := rg_first_le Gp gg pn 0
  have hfb := rg_first_le Gp (gg + 1) pn 0
  have hfm := rg_first_mono Gp gg pn 0
  have hzz : ∀ p, p < pn → 0 < To p - Fm p := fun p hp => by have := hpv.2 p hp; omega
  have hsm := rs_S_mono Fm To (pn - (rg_first Gp (gg + 1) pn 0)) (rg_first Gp (gg + 1) pn 0)
  rw [show (rg_first Gp (gg + 1) pn 0) + (pn - (rg_first Gp (gg + 1) pn 0)) = pn by omega] at hsm
  refine ls_cnt (I := I) (F := F) (pn := pn) (pe := pe) (sl := sl) (K := K) (Fm := Fm) (To := To) (Rr := Rr) (fi := (rg_first Gp gg pn 0)) (en := (rg_first Gp (gg + 1) pn 0)) (mo := mo) (x1 := nI gg) hpv hI2 hmo1 hmo (by omega) (by have := hpv.1; omega) (by omega) (Nat.le_of_ble_eq_true rfl) (Nat.le_of_ble_eq_true rfl) (Nat.le_of_ble_eq_true rfl) (Nat.le_of_ble_eq_true rfl) hA hf hK 8000 (rg_first Gp gg pn 0) 0 0 (I 25) (I 26) (I 27) _ _ ls (by omega) (by omega) (fun h => hzz _ (by omega)) (fun _ => rfl) (by omega) hP hD hS (lv_sub hl (l' := [(6, .int 0), (5, .int (nI (rg_first Gp gg pn 0))), (4, .int 0), (3, .int (nI (rg_first Gp (gg + 1) pn 0))), (2, .int (nI (rg_first Gp gg pn 0))), (1, .int (nI gg)), (0, .ref h0)]) [0, 1, 2, 3, 4, 6, 5] rfl) (fun n2 v1 v2 v3 H locs ls a1 hP hD hS hl => ?_)
  have hn2 : n2 = rs_num K Fm To Rr Gp pn mo gg := a1.trans (Nat.zero_add _)
  refine lv_iload hx hb dX10_sheetsOf_57 (lv_at hl 0 rfl) ?_
  refine lv_if_ne (tgt := 66) hx hb dX10_sheetsOf_59 (by decide) (fun c_1 => ?_) (fun c_1 => ?_)
  · have c_1 := q_nen (a := n2) (b := 0) (by omega) (by omega) c_1
    refine lv_iload hx hb dX10_sheetsOf_66 (lv_at hl 0 rfl) ?_
    exact q_zi hf hr rfl hlocks hK hP hD hS (Nat.le_of_ble_eq_true rfl) (Nat.le_of_ble_eq_true rfl) ⟨v1, v2, v3, by rw [← hn2, if_neg (show ¬ n2 = 0 by omega)], rfl⟩ dX10_sheetsOf_68
  · have c_1 := q_eqn (a := n2) (b := 0) (by omega) (by omega) c_1
    refine lv_iconst (v := 1) hx hb dX10_sheetsOf_62 (by decide) ?_
    refine lv_goto (tgt := 68) hx hb dX10_sheetsOf_63 (by decide) ?_
    exact q_zi hf hr rfl hlocks hK hP hD hS (Nat.le_of_ble_eq_true rfl) (Nat.le_of_ble_eq_true rfl) ⟨v1, v2, v3, by rw [← hn2, if_pos (show n2 = 0 by omega)]; rfl, rfl⟩ dX10_sheetsOf_68
