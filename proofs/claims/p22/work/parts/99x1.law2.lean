set_option maxHeartbeats 2000000 in
set_option maxRecDepth 100000 in
theorem lc_insert {p : Program} {l : Launch} {e : Env} {s : State} {m : MethodId} {below : List Frame} {meth : Method} {c : Code} {Q : State → Prop} {D : va_G} {A : Nat → Prop} {z : Nat → Nat} {cB cI_ cO cB2 cI2 cZ : ClassId} {dk h0 : Nat} {q : Nat → Nat} {b Ln i M rm cells slots : Nat} {xs : Nat → Int32} {H : Heap} {locs : List Loc} {ls : Array Slot} (hf : CallFix p m c cL_law 4 s #[Value.ref b] gT R_law) (hX : va_X b Ln xs s s.heap) (hbl : b < s.heap.size) (hbA : ¬ A b) (hA : ∀ q : Nat, s.heap.size ≤ q → A q) (hK1 : va_K D vcl (dT cB cI_ cO) s) (hK2 : va_K D vcl (mT cB2 cI2 cZ) s) (hZ : zA z A s s.heap) (hN : zB z s) (hi4 : i + 4 ≤ Ln) (hLn : Ln ≤ 2048) (hS : va_S A s.heap H locs) (hj : jS D A z cB cI_ cO dk h0 q cB2 cI2 cZ H M (rm + 1)) (hcc : cells + 1100 + 3 * (1000 - M) ≤ 600000) (hss : slots + 13800 + 6 * (1000 - M) ≤ 7302250) (hl : lv_has ls 4 [(3, .int (nI i)), (2, .ref h0), (1, .ref dk), (0, .ref b)])
    (kk : ∀ (M2 cells2 slots2 : Nat) (H : Heap) (locs : List Loc) (ls : Array Slot), M ≤ M2 → M2 ≤ 1000 → cells2 ≤ cells + 1100 + 3 * (M2 - M) → slots2 ≤ slots + 13800 + 6 * (M2 - M) → va_S A s.heap H locs → jS D A z cB cI_ cO dk h0 q cB2 cI2 cZ H M2 rm → lv_has ls 4 [(3, .int (nI i)), (2, .ref h0), (1, .ref dk), (0, .ref b)] → W p l e room_1 s m #[Value.ref b] below meth c H locs cells2 slots2 Q (F0 m 702 ls [])) : W p l e room_1 s m #[Value.ref b] below meth c H locs cells slots Q (F0 m 429 ls []) := by
  obtain ⟨hx, hb, hml, hown, hts⟩ := id hf
  have hy0 : i < Ln := by omega
  have hy1 : i + 1 < Ln := by omega
  have hy2 : i + 2 < Ln := by omega
  have hy3 : i + 3 < Ln := by omega
  have hLb : Ln < 2 ^ 31 := by omega
  obtain ⟨L, g, I, F, T, n, Es, sl, P, mo, lk, gs, hP1, hD1, hP2, hD2, hsep, hcS, hrS, hdI, hnm⟩ := hj
  refine lv_aload_n hx hb dL_law_429 rfl (lv_at hl 2 rfl) ?_
  refine lv_aload_n hx hb dL_law_430 rfl (lv_at hl 3 rfl) ?_
  refine lv_iload_n hx hb dL_law_431 rfl (lv_at hl 0 rfl) ?_
  refine lv_iconst (v := 1) hx hb dL_law_432 (by decide) ?_
  refine lv_iadd hx hb dL_law_433 ?_
  refine q_seti (y := nI (i + 1)) (nI_add i 1) ?_
  refine q_sld (X := i + 1) hx hb hX hbl hbA hS hy1 hLb dL_law_434 ?_
  refine lv_aload_n hx hb dL_law_435 rfl (lv_at hl 3 rfl) ?_
  refine lv_iload_n hx hb dL_law_436 rfl (lv_at hl 0 rfl) ?_
  refine lv_iconst (v := 2) hx hb dL_law_437 (by decide) ?_
  refine lv_iadd hx hb dL_law_438 ?_
  refine q_seti (y := nI (i + 2)) (nI_add i 2) ?_
  refine q_sld (X := i + 2) hx hb hX hbl hbA hS hy2 hLb dL_law_439 ?_
  obtain ⟨M2, fr, lo, mc, ms, hrb, hC⟩ := C_insert l D (xs (i + 1)) (xs (i + 2)) hcS hdI
  obtain ⟨b1, b2, b3, b4, b5, b6⟩ := hrb
  obtain ⟨fs, h_dk⟩ := hcS.dk
  have hr5 := rm5 b1 b2 b5 hcc
  have hr6 := rm6 b1 b2 b6 hss
  have hq5 := rq5 (cells := cells) b5
  have hq6 := rq6 (slots := slots) b6
  refine q2_ci (k := cells + mc) (n := slots + ms) hP1 hD1 hP2 hsep hS hA (o_rV (As := [.int (xs (i + 1)), .int (xs (i + 2))]) (rest := []) hf (hC _) k_935 k_932 k_933 k_934 k_84 (nA := 2) (by decide +kernel) ⟨show fr + 1 ≤ 13 from Nat.succ_le_succ b3, show 8 + (7 + 11) + lo ≤ 470 from rl9 (by decide) b4⟩ hK1 hP1 hD1 hS hA hZ hN h_dk rfl rfl rfl hl.1 rfl (Nat.le_of_ble_eq_true rfl) dL_law_440 ⟨show cells + mc ≤ 600000 from hr5, show slots + ms ≤ 7302250 from hr6⟩) (Nat.le_refl _) (Nat.le_refl _) (fun r1 u H locs hw _ hP1 hD1 hP2 hsep hS => ?_)
  obtain ⟨L, g, hw1, rfl⟩ := hw
  clear hcS h_dk hC
  refine lv_pop hx hb dL_law_443 rfl ?_
  refine lv_aload_n hx hb dL_law_444 rfl (lv_at hl 1 rfl) ?_
  refine lv_aload_n hx hb dL_law_445 rfl (lv_at hl 3 rfl) ?_
  refine lv_iload_n hx hb dL_law_446 rfl (lv_at hl 0 rfl) ?_
  refine lv_iconst (v := 1) hx hb dL_law_447 (by decide) ?_
  refine lv_iadd hx hb dL_law_448 ?_
  refine q_seti (y := nI (i + 1)) (nI_add i 1) ?_
  refine q_sld (X := i + 1) hx hb hX hbl hbA hS hy1 hLb dL_law_449 ?_
  refine lv_aload_n hx hb dL_law_450 rfl (lv_at hl 3 rfl) ?_
  refine lv_iload_n hx hb dL_law_451 rfl (lv_at hl 0 rfl) ?_
  refine lv_iconst (v := 2) hx hb dL_law_452 (by decide) ?_
  refine lv_iadd hx hb dL_law_453 ?_
  refine q_seti (y := nI (i + 2)) (nI_add i 2) ?_
  refine q_sld (X := i + 2) hx hb hX hbl hbA hS hy2 hLb dL_law_454 ?_
  refine q2_ci (k := cells + mc) (n := slots + ms) hP2 hD2 hP1 hsep.sy hS hA (q_rV (As := [.int (xs (i + 1)), .int (xs (i + 2))]) (rest := []) hf (R_insert l D h0 q cB2 cI2 cZ (xs (i + 1)) (xs (i + 2)) hrS hdI _) k_1435 k_1432 k_1433 k_1434 k_98 (nA := 2) (by decide +kernel) ⟨by decide, by decide⟩ hK2 hP2 (ci := 11) (q0 := 0) rfl rfl rfl hP2 hK2 hD2 (fun _ _ _ _ h => h) (fun _ _ _ => trivial) rfl hl.1 rfl (Nat.le_of_ble_eq_true rfl) dL_law_455 ⟨hr5, hr6⟩) (Nat.le_refl _) (Nat.le_refl _) (fun r2 u H locs hw2 _ hP2 hD2 hP1 hsep hS => ?_)
  replace hsep := hsep.sy
  refine lv_pop hx hb dL_law_458 rfl ?_
  refine lv_goto (tgt := 702) hx hb dL_law_459 (by decide) ?_
  obtain ⟨I2, F2, h2, rfl⟩ := hw2
  have hE := hdI.2.1.1
  rcases h2 with ⟨h2, hv2, hr2⟩ | ⟨j2, c1, c2, hv2, hr2⟩ | ⟨j2, c1, c3, c4, c6, c5, hv2, hr2⟩ | ⟨j2, p2, c1, c2, c3, h2⟩
  · rcases hw1 with ⟨h1, hv1, hw1⟩ | ⟨j, a1, a2, hv1, hw1⟩ | ⟨j, a1, a3, a4, a6, a5, hv1, hw1⟩ | ⟨j, pl, a1, a2, a3, h1⟩
    · exact kk M2 (cells + mc) (slots + ms) H locs ls b1 b2 hq5 hq6 hS ⟨L, g, I2, F2, T, n, Es, sl, P, mo, lk, gs, hP1, hD1, hP2, hD2, hsep, hw1, hr2, (hdI.dn (Nat.le_succ _)), hnm⟩ (lv_sub hl (l' := [(3, .int (nI i)), (2, .ref h0), (1, .ref dk), (0, .ref b)]) [0, 1, 2, 3] rfl)
    · exact (ins_no h2 a1).elim
    · exact (ins_no h2 a1).elim
    · exact (ins_no h2 a1).elim
  · rcases hw1 with ⟨h1, hv1, hw1⟩ | ⟨j, a1, a2, hv1, hw1⟩ | ⟨j, a1, a3, a4, a6, a5, hv1, hw1⟩ | ⟨j, pl, a1, a2, a3, h1⟩
    · exact (ins_no h1 c1).elim
    · exact kk M2 (cells + mc) (slots + ms) H locs ls b1 b2 hq5 hq6 hS ⟨L, g, I2, F2, T, n, Es, sl, P, mo, lk, gs, hP1, hD1, hP2, hD2, hsep, hw1, hr2, (hdI.dn (Nat.le_succ _)), hnm⟩ (lv_sub hl (l' := [(3, .int (nI i)), (2, .ref h0), (1, .ref dk), (0, .ref b)]) [0, 1, 2, 3] rfl)
    · exact (ins_n2 hE c1 a1 c2 a3 a4 a6).elim
    · exact (ins_n2 hE c1 a1 c2 a2.1 a2.2.1 a2.2.2.1).elim
  · rcases hw1 with ⟨h1, hv1, hw1⟩ | ⟨j, a1, a2, hv1, hw1⟩ | ⟨j, a1, a3, a4, a6, a5, hv1, hw1⟩ | ⟨j, pl, a1, a2, a3, h1⟩
    · exact (ins_no h1 c1).elim
    · exact (ins_n2 hE a1 c1 a2 c3 c4 c6).elim
    · exact kk M2 (cells + mc) (slots + ms) H locs ls b1 b2 hq5 hq6 hS ⟨L, g, I2, F2, T, n, Es, sl, P, mo, lk, gs, hP1, hD1, hP2, hD2, hsep, hw1, hr2, (hdI.dn (Nat.le_succ _)), hnm⟩ (lv_sub hl (l' := [(3, .int (nI i)), (2, .ref h0), (1, .ref dk), (0, .ref b)]) [0, 1, 2, 3] rfl)
    · exact absurd c5 (by have := a2.2.2.2; omega)
  · rcases hw1 with ⟨h1, hv1, hw1⟩ | ⟨j, a1, a2, hv1, hw1⟩ | ⟨j, a1, a3, a4, a6, a5, hv1, hw1⟩ | ⟨j, pl, a1, a2, a3, h1⟩
    · exact (ins_no h1 c1).elim
    · exact (ins_n2 hE a1 c1 a2 c2.1 c2.2.1 c2.2.2.1).elim
    · exact absurd a5 (by have := c2.2.2.2; omega)
    · obtain rfl := q_eqn (a := j) (b := j2) (by have := a1.1; omega) (by have := c1.1; omega) (a1.2.1.symm.trans c1.2.1)
      obtain rfl : pl = p2 := pl_un a3 c3
      have hl1 : lk = 1 := by have := hdI.1.2.2.2.2; have := a2.1; omega
      subst hl1
      rcases h2 with ⟨h2, hv2, hr2⟩ | ⟨h2, hv2, sl2, hr2⟩
      · rcases h1 with ⟨_, hv1, hw1⟩ | ⟨h1, _⟩
        · exact kk M2 (cells + mc) (slots + ms) H locs ls b1 b2 hq5 hq6 hS ⟨L, g, I2, F2, T, n, Es, sl, P, mo, 1, gs, hP1, hD1, hP2, hD2, hsep, hw1, hr2, (hdI.dn (Nat.le_succ _)), hnm⟩ (lv_sub hl (l' := [(3, .int (nI i)), (2, .ref h0), (1, .ref dk), (0, .ref b)]) [0, 1, 2, 3] rfl)
        · exact absurd h2 (by omega)
      · rcases h1 with ⟨h1, _⟩ | ⟨_, hv1, hw1⟩
        · exact absurd h1 (by omega)
        · have hin := insE_in (kd := xs (i + 2)) (en := Es.length) a2.2.2.1
          exact kk M2 (cells + mc) (slots + ms) H locs ls b1 b2 hq5 hq6 hS ⟨L, g, I2, F2, T, 0, (Es ++ [insE T n (xs (i + 2)) Es.length]), sl2, (lsJ P (pl + 1) (Es.length, 0, eRw (insE T n (xs (i + 2)) Es.length), (P.getD pl d4).2.2.2)), mo, 1, gs, hP1, hD1, hP2, hD2, hsep, hw1, hr2, (hdI.ins (Nat.le_succ _) a2.2.2.2 hin.1 hin.2 a3.1 a3.2.1 a3.2.2), (nm_ins hnm)⟩ (lv_sub hl (l' := [(3, .int (nI i)), (2, .ref h0), (1, .ref dk), (0, .ref b)]) [0, 1, 2, 3] rfl)
