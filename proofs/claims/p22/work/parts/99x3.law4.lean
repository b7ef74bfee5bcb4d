/-! THE CLAIM OUT OF ONE WALK OF THE LAW'S BODY. Your part is whole_start (and what it stands on); all else here is the same for every law, but numbers. -/
def lw_P (b : Addr) (xs : List Int32) (args : Array Value) (s : State) : Prop := args = #[.ref b] ∧ s.IntsAt b xs ∧ xs.length ≤ 2048 ∧ (Jvm.Cond.and given_1 narrow_1).before args s = true
def lw_Q (_ : Array Value) (s : State) (o : Outcome) (t : State) : Prop := o = .returned (some (.int 1)) ∧ Framed s o t [] 600000 7302250
def lw_Z (below : List Frame) (a : Array Value) (s : State) : State → Prop := fun t => ∃ o, t.status = .running ∧ Ended t below o ∧ lw_Q a s o t
/-- the law's own end, with 1 on the stack, nothing written that was there before, its room as the claim has it -/
theorem lw_ret {p : Program} {l : Launch} {e : Env} {s : State} {m : MethodId} {below : List Frame} {meth : Method} {c : Code} {b : Nat} (hx : p.tables.exec = Jvm.exec) (hb : c.code = code) (hr : meth.sig.returnType = ret) (hlocks : meth.locks = false) {pc : Nat} {H : Heap} {ls : Array Slot} (hdg : decode code pc = .ok (.ireturn, 1)) : W p l e room_1 s m #[Value.ref b] below meth c H [] 600000 7302250 (lw_Z below #[Value.ref b] s) (F0 m pc ls [.int 1]) := by
  intro T hT X
  obtain ⟨fs, hret, hrun, hended, hW, hframe⟩ := X.leave (v := some (.int 1)) (hlocks := hlocks) (fun h => by rw [hr] at h; cases h)
  have hmeth' : T.vm.method? m = some meth := X.method'
  refine ⟨T.setFrames fs, ?_, .returned (some (.int 1)), hrun, hended, rfl, ⟨_, rfl⟩, hW, hframe⟩
  jvm_step X.here [X.here.top, hx, hb, hdg, hmeth', hr, ret, narrow_b1]
  (try refine ⟨rfl, ?_⟩); (try refine ⟨rfl, ?_⟩)
  first | (intro acts; rw [hret _ acts rfl rfl rfl]) | rw [hret _ _ rfl rfl rfl]
  exact Steps.refl _
/-- what holds at the law's entry: the machine, the code, the tables' words (any of lw_tbl by 'hts w (by decide +kernel)'), the script of L ints xs at the cell b, what the Statement gives of the start (any of its parts by flat_of_before) -/
def lw_At (p : Program) (s : State) (m : MethodId) (meth : Method) (c : Code) (b L : Nat) (xs : Nat → Int32) : Prop :=
  p.tables.exec = Jvm.exec ∧ c.code = code ∧ meth.sig.returnType = ret ∧ c.maxLocals = 4 ∧ s.vm.findClass R_law = some m.cls ∧ (∀ w ∈ lw_tbl, w.before #[Value.ref b] s = true) ∧ va_X b L xs s s.heap ∧ b < s.heap.size ∧ meth.locks = false ∧ (Jvm.Cond.and given_1 narrow_1).before #[Value.ref b] s = true
theorem dL_law_18 : decode cL_law 18 = .ok (.iload_n 3, 1) := by decide +kernel
theorem dL_law_19 : decode cL_law 19 = .ok (.aload_n 0, 1) := by decide +kernel
theorem dL_law_20 : decode cL_law 20 = .ok (.arraylength, 1) := by decide +kernel
theorem dL_law_21 : decode cL_law 21 = .ok (.iconst 4, 1) := by decide +kernel
theorem dL_law_22 : decode cL_law 22 = .ok (.isub, 1) := by decide +kernel
theorem dL_law_23 : decode cL_law 23 = .ok (.if_icmp .gt 685, 3) := by decide +kernel
theorem dL_law_708 : decode cL_law 708 = .ok (.iconst 1, 1) := by decide +kernel
theorem dL_law_709 : decode cL_law 709 = .ok (.ireturn, 1) := by decide +kernel
theorem dL_law_26 : decode cL_law 26 = .ok (.aload_n 0, 1) := by decide +kernel
theorem dL_law_27 : decode cL_law 27 = .ok (.iload_n 3, 1) := by decide +kernel
theorem dL_law_28 : decode cL_law 28 = .ok (.iaload, 1) := by decide +kernel
theorem dL_law_29 : decode cL_law 29 = .ok (.bipush 31, 2) := by decide +kernel
theorem dL_law_31 : decode cL_law 31 = .ok (.iand, 1) := by decide +kernel
theorem dL_law_702 : decode cL_law 702 = .ok (.iinc 3 4, 3) := by decide +kernel
theorem dL_law_705 : decode cL_law 705 = .ok (.goto (-687), 3) := by decide +kernel
theorem dL_law_32 : decode cL_law 32 = .ok (.tableswitch 670 0 21 #[104, 167, 190, 203, 226, 259, 302, 315, 328, 361, 374, 397, 430, 453, 496, 519, 532, 545, 578, 611, 634, 657], 104) := by decide +kernel
theorem sw22 : ∀ j : Nat, j = 0 ∨ j = 1 ∨ j = 2 ∨ j = 3 ∨ j = 4 ∨ j = 5 ∨ j = 6 ∨ j = 7 ∨ j = 8 ∨ j = 9 ∨ j = 10 ∨ j = 11 ∨ j = 12 ∨ j = 13 ∨ j = 14 ∨ j = 15 ∨ j = 16 ∨ j = 17 ∨ j = 18 ∨ j = 19 ∨ j = 20 ∨ j = 21 ∨ 22 ≤ j
  | 0 => Or.inl rfl
  | 1 => Or.inr (Or.inl rfl)
  | 2 => Or.inr (Or.inr (Or.inl rfl))
  | 3 => Or.inr (Or.inr (Or.inr (Or.inl rfl)))
  | 4 => Or.inr (Or.inr (Or.inr (Or.inr (Or.inl rfl))))
  | 5 => Or.inr (Or.inr (Or.inr (Or.inr (Or.inr (Or.inl rfl)))))
  | 6 => Or.inr (Or.inr (Or.inr (Or.inr (Or.inr (Or.inr (Or.inl rfl))))))
  | 7 => Or.inr (Or.inr (Or.inr (Or.inr (Or.inr (Or.inr (Or.inr (Or.inl rfl)))))))
  | 8 => Or.inr (Or.inr (Or.inr (Or.inr (Or.inr (Or.inr (Or.inr (Or.inr (Or.inl rfl))))))))
  | 9 => Or.inr (Or.inr (Or.inr (Or.inr (Or.inr (Or.inr (Or.inr (Or.inr (Or.inr (Or.inl rfl)))))))))
  | 10 => Or.inr (Or.inr (Or.inr (Or.inr (Or.inr (Or.inr (Or.inr (Or.inr (Or.inr (Or.inr (Or.inl rfl))))))))))
  | 11 => Or.inr (Or.inr (Or.inr (Or.inr (Or.inr (Or.inr (Or.inr (Or.inr (Or.inr (Or.inr (Or.inr (Or.inl rfl)))))))))))
  | 12 => Or.inr (Or.inr (Or.inr (Or.inr (Or.inr (Or.inr (Or.inr (Or.inr (Or.inr (Or.inr (Or.inr (Or.inr (Or.inl rfl))))))))))))
  | 13 => Or.inr (Or.inr (Or.inr (Or.inr (Or.inr (Or.inr (Or.inr (Or.inr (Or.inr (Or.inr (Or.inr (Or.inr (Or.inr (Or.inl rfl)))))))))))))
  | 14 => Or.inr (Or.inr (Or.inr (Or.inr (Or.inr (Or.inr (Or.inr (Or.inr (Or.inr (Or.inr (Or.inr (Or.inr (Or.inr (Or.inr (Or.inl rfl))))))))))))))
  | 15 => Or.inr (Or.inr (Or.inr (Or.inr (Or.inr (Or.inr (Or.inr (Or.inr (Or.inr (Or.inr (Or.inr (Or.inr (Or.inr (Or.inr (Or.inr (Or.inl rfl)))))))))))))))
  | 16 => Or.inr (Or.inr (Or.inr (Or.inr (Or.inr (Or.inr (Or.inr (Or.inr (Or.inr (Or.inr (Or.inr (Or.inr (Or.inr (Or.inr (Or.inr (Or.inr (Or.inl rfl))))))))))))))))
  | 17 => Or.inr (Or.inr (Or.inr (Or.inr (Or.inr (Or.inr (Or.inr (Or.inr (Or.inr (Or.inr (Or.inr (Or.inr (Or.inr (Or.inr (Or.inr (Or.inr (Or.inr (Or.inl rfl)))))))))))))))))
  | 18 => Or.inr (Or.inr (Or.inr (Or.inr (Or.inr (Or.inr (Or.inr (Or.inr (Or.inr (Or.inr (Or.inr (Or.inr (Or.inr (Or.inr (Or.inr (Or.inr (Or.inr (Or.inr (Or.inl rfl))))))))))))))))))
  | 19 => Or.inr (Or.inr (Or.inr (Or.inr (Or.inr (Or.inr (Or.inr (Or.inr (Or.inr (Or.inr (Or.inr (Or.inr (Or.inr (Or.inr (Or.inr (Or.inr (Or.inr (Or.inr (Or.inr (Or.inl rfl)))))))))))))))))))
  | 20 => Or.inr (Or.inr (Or.inr (Or.inr (Or.inr (Or.inr (Or.inr (Or.inr (Or.inr (Or.inr (Or.inr (Or.inr (Or.inr (Or.inr (Or.inr (Or.inr (Or.inr (Or.inr (Or.inr (Or.inr (Or.inl rfl))))))))))))))))))))
  | 21 => Or.inr (Or.inr (Or.inr (Or.inr (Or.inr (Or.inr (Or.inr (Or.inr (Or.inr (Or.inr (Or.inr (Or.inr (Or.inr (Or.inr (Or.inr (Or.inr (Or.inr (Or.inr (Or.inr (Or.inr (Or.inr (Or.inl rfl)))))))))))))))))))))
  | k + 22 => Or.inr (Or.inr (Or.inr (Or.inr (Or.inr (Or.inr (Or.inr (Or.inr (Or.inr (Or.inr (Or.inr (Or.inr (Or.inr (Or.inr (Or.inr (Or.inr (Or.inr (Or.inr (Or.inr (Or.inr (Or.inr (Or.inr (Nat.le_add_left 22 k))))))))))))))))))))))
theorem law_gt {i Ln : Nat} (hi : i ≤ 2048) (hn : Ln ≤ 2048) (h : ¬ i + 4 ≤ Ln) : nI Ln - 4 < nI i := by
  have e4 : (4 : Int32) = nI 4 := rfl
  rw [Int32.lt_iff_toInt_lt, e4, pk_sub_toInt (by omega) (by decide), nI_toInt (by omega)]
  omega
set_option maxHeartbeats 2000000 in
set_option maxRecDepth 100000 in
theorem law_loop {p : Program} {l : Launch} {e : Env} {s : State} {m : MethodId} {below : List Frame} {meth : Method} {c : Code} {D : va_G} {A : Nat → Prop} {z : Nat → Nat} {cB cI_ cO cB2 cI2 cZ : ClassId} {dk h0 : Nat} {q : Nat → Nat} {b Ln : Nat} {xs : Nat → Int32} (hf : CallFix p m c cL_law 4 s #[Value.ref b] gT R_law) (hr : meth.sig.returnType = ret) (hlocks : meth.locks = false) (hX : va_X b Ln xs s s.heap) (hbl : b < s.heap.size) (hbA : ¬ A b) (hA : ∀ q : Nat, s.heap.size ≤ q → A q) (hAq : ∀ q : Nat, A q → s.heap.size ≤ q) (hK1 : va_K D vcl (dT cB cI_ cO) s) (hK2 : va_K D vcl (mT cB2 cI2 cZ) s) (hZ : zA z A s s.heap) (hN : zB z s) (hLn : Ln ≤ 2048) :
    ∀ (k i M cells slots : Nat) (H : Heap) (locs : List Loc) (ls : Array Slot), Ln < i + 4 * (k + 1) → i ≤ 2048 → M ≤ 1000 → cells + 1100 * k + 3 * (1000 - M) ≤ 600000 → slots + 13800 * k + 6 * (1000 - M) ≤ 7302250 → va_S A s.heap H locs → jS D A z cB cI_ cO dk h0 q cB2 cI2 cZ H M k → lv_has ls 4 [(3, .int (nI i)), (2, .ref h0), (1, .ref dk), (0, .ref b)] → W p l e room_1 s m #[Value.ref b] below meth c H locs cells slots (lw_Z below #[Value.ref b] s) (F0 m 18 ls []) := by
  obtain ⟨hx, hb, hml, hown, hts⟩ := id hf
  intro k
  induction k with
  | zero =>
    intro i M cells slots H locs ls hk hi hM hc hs hS hj hl
    refine lv_iload_n hx hb dL_law_18 rfl (lv_at hl 0 rfl) ?_
    refine lv_aload_n hx hb dL_law_19 rfl (lv_at hl 3 rfl) ?_
    refine va_slen hx hb hX hbl hbA hS dL_law_20 ?_
    refine lv_iconst (v := 4) hx hb dL_law_21 (by decide) ?_
    refine lv_isub hx hb dL_law_22 ?_
    refine lv_icmp_gt (tgt := 708) hx hb dL_law_23 (by decide) (fun _ => ?_) (fun hno => absurd (law_gt (by omega) hLn (by omega)) hno)
    refine lv_iconst (v := 1) hx hb dL_law_708 (by decide) ?_
    refine va_forget (fun q hq => hAq _ (hS.2.2 q hq)) ?_
    refine W.widen (k := 600000) (n := 7302250) (by omega) (by omega) ?_
    exact lw_ret hx hb hr hlocks dL_law_709
  | succ k ih =>
    intro i M cells slots H locs ls hk hi hM hc hs hS hj hl
    refine lv_iload_n hx hb dL_law_18 rfl (lv_at hl 0 rfl) ?_
    refine lv_aload_n hx hb dL_law_19 rfl (lv_at hl 3 rfl) ?_
    refine va_slen hx hb hX hbl hbA hS dL_law_20 ?_
    refine lv_iconst (v := 4) hx hb dL_law_21 (by decide) ?_
    refine lv_isub hx hb dL_law_22 ?_
    by_cases hgo : i + 4 ≤ Ln
    · refine q_seti (y := nI (Ln - 4)) (pk_sub (a := Ln) (b := 4) (by omega)) ?_
      refine lv_icmp_gt (tgt := 708) hx hb dL_law_23 (by decide) (fun hno => absurd (q_lt (a := Ln - 4) (b := i) (by omega) (by omega) hno) (by omega)) (fun _ => ?_)
      refine lv_aload_n hx hb dL_law_26 rfl (lv_at hl 3 rfl) ?_
      refine lv_iload_n hx hb dL_law_27 rfl (lv_at hl 0 rfl) ?_
      refine q_sld (X := i) hx hb hX hbl hbA hS (by omega) (by omega) dL_law_28 ?_
      refine lv_bipush (v := 31) hx hb dL_law_29 (by decide) ?_
      refine lv_iand hx hb dL_law_31 ?_
      obtain ⟨jv, hjv, ejv⟩ := pk_andE (xs i) (m := 31) 5 (by decide)
      refine q_seti (y := nI jv) ejv ?_
      have kk : ∀ (M2 cells2 slots2 : Nat) (H : Heap) (locs : List Loc) (ls : Array Slot), M ≤ M2 → M2 ≤ 1000 → cells2 ≤ cells + 1100 + 3 * (M2 - M) → slots2 ≤ slots + 13800 + 6 * (M2 - M) → va_S A s.heap H locs → jS D A z cB cI_ cO dk h0 q cB2 cI2 cZ H M2 k → lv_has ls 4 [(3, .int (nI i)), (2, .ref h0), (1, .ref dk), (0, .ref b)] → W p l e room_1 s m #[Value.ref b] below meth c H locs cells2 slots2 (lw_Z below #[Value.ref b] s) (F0 m 702 ls []) := by
        intro M2 cells2 slots2 H locs ls k1 k2 k3 k4 hS hj hl
        refine lv_iinc (v := nI (i + 4)) (lv' := [(3, .int (nI (i + 4))), (2, .ref h0), (1, .ref dk), (0, .ref b)]) hx hb dL_law_702 hl (k := 0) rfl (nI_add i 4) (by decide) rfl (fun ls hl => ?_)
        refine lv_goto (tgt := 18) hx hb dL_law_705 (by decide) ?_
        exact ih (i + 4) M2 cells2 slots2 H locs ls (by omega) (by omega) k2 (by omega) (by omega) hS hj (lv_sub hl (l' := [(3, .int (nI (i + 4))), (2, .ref h0), (1, .ref dk), (0, .ref b)]) [0, 1, 2, 3] rfl)
      have hj2 : jS D A z cB cI_ cO dk h0 q cB2 cI2 cZ H M k := by
        obtain ⟨L, g, I, F, T, n, Es, sl, P, mo, lk, gs, a1, a2, a3, a4, a5, a6, a7, a8, a9⟩ := hj
        exact ⟨L, g, I, F, T, n, Es, sl, P, mo, lk, gs, a1, a2, a3, a4, a5, a6, a7, a8.dn (Nat.le_succ _), a9⟩
      have ho5 : cells + 1100 + 3 * (1000 - M) ≤ 600000 := by omega
      have ho6 : slots + 13800 + 6 * (1000 - M) ≤ 7302250 := by omega
      rcases sw22 jv with rfl | rfl | rfl | rfl | rfl | rfl | rfl | rfl | rfl | rfl | rfl | rfl | rfl | rfl | rfl | rfl | rfl | rfl | rfl | rfl | rfl | rfl | hjs
      · refine lv_tableIn (off := 104) (tgt := 136) hx hb dL_law_32 (by decide) (by decide) (by decide) (by decide) ?_
        exact lc_feed hf hX hbl hbA hA hK1 hK2 hZ hN hgo hLn hS hj ho5 ho6 hl kk
      · refine lv_tableIn (off := 167) (tgt := 199) hx hb dL_law_32 (by decide) (by decide) (by decide) (by decide) ?_
        exact lc_cut hf hX hbl hbA hA hK1 hK2 hZ hN hgo hLn hS hj ho5 ho6 hl kk
      · refine lv_tableIn (off := 190) (tgt := 222) hx hb dL_law_32 (by decide) (by decide) (by decide) (by decide) ?_
        exact lc_read hf hX hbl hbA hA hK1 hK2 hZ hN hgo hLn hS hj ho5 ho6 hl kk
      · refine lv_tableIn (off := 203) (tgt := 235) hx hb dL_law_32 (by decide) (by decide) (by decide) (by decide) ?_
        exact lc_length hf hX hbl hbA hA hK1 hK2 hZ hN hgo hLn hS hj ho5 ho6 hl kk
      · refine lv_tableIn (off := 226) (tgt := 258) hx hb dL_law_32 (by decide) (by decide) (by decide) (by decide) ?_
        exact lc_element hf hX hbl hbA hA hK1 hK2 hZ hN hgo hLn hS hj ho5 ho6 hl kk
      · refine lv_tableIn (off := 259) (tgt := 291) hx hb dL_law_32 (by decide) (by decide) (by decide) (by decide) ?_
        exact lc_rowByte hf hX hbl hbA hA hK1 hK2 hZ hN hgo hLn hS hj ho5 ho6 hl kk
      · refine lv_tableIn (off := 302) (tgt := 334) hx hb dL_law_32 (by decide) (by decide) (by decide) (by decide) ?_
        exact lc_pages hf hX hbl hbA hA hK1 hK2 hZ hN hgo hLn hS hj ho5 ho6 hl kk
      · refine lv_tableIn (off := 315) (tgt := 347) hx hb dL_law_32 (by decide) (by decide) (by decide) (by decide) ?_
        exact lc_cost hf hX hbl hbA hA hK1 hK2 hZ hN hgo hLn hS hj ho5 ho6 hl kk
      · refine lv_tableIn (off := 328) (tgt := 360) hx hb dL_law_32 (by decide) (by decide) (by decide) (by decide) ?_
        exact lc_page hf hX hbl hbA hA hK1 hK2 hZ hN hgo hLn hS hj ho5 ho6 hl kk
      · refine lv_tableIn (off := 361) (tgt := 393) hx hb dL_law_32 (by decide) (by decide) (by decide) (by decide) ?_
        exact lc_lock hf hX hbl hbA hA hK1 hK2 hZ hN hgo hLn hS hj ho5 ho6 hl kk
      · refine lv_tableIn (off := 374) (tgt := 406) hx hb dL_law_32 (by decide) (by decide) (by decide) (by decide) ?_
        exact lc_strike hf hX hbl hbA hA hK1 hK2 hZ hN hgo hLn hS hj ho5 ho6 hl kk
      · refine lv_tableIn (off := 397) (tgt := 429) hx hb dL_law_32 (by decide) (by decide) (by decide) (by decide) ?_
        exact lc_insert hf hX hbl hbA hA hK1 hK2 hZ hN hgo hLn hS hj ho5 ho6 hl kk
      · refine lv_tableIn (off := 430) (tgt := 462) hx hb dL_law_32 (by decide) (by decide) (by decide) (by decide) ?_
        exact lc_sheets hf hX hbl hbA hA hK1 hK2 hZ hN hgo hLn hS hj ho5 ho6 hl kk
      · refine lv_tableIn (off := 453) (tgt := 485) hx hb dL_law_32 (by decide) (by decide) (by decide) (by decide) ?_
        exact lc_sheet hf hX hbl hbA hA hK1 hK2 hZ hN hgo hLn hS hj ho5 ho6 hl kk
      · refine lv_tableIn (off := 496) (tgt := 528) hx hb dL_law_32 (by decide) (by decide) (by decide) (by decide) ?_
        exact lc_where hf hX hbl hbA hA hK1 hK2 hZ hN hgo hLn hS hj ho5 ho6 hl kk
      · refine lv_tableIn (off := 519) (tgt := 551) hx hb dL_law_32 (by decide) (by decide) (by decide) (by decide) ?_
        exact lc_merge hf hX hbl hbA hA hK1 hK2 hZ hN hgo hLn hS hj ho5 ho6 hl kk
      · refine lv_tableIn (off := 532) (tgt := 564) hx hb dL_law_32 (by decide) (by decide) (by decide) (by decide) ?_
        exact lc_scenes hf hX hbl hbA hA hK1 hK2 hZ hN hgo hLn hS hj ho5 ho6 hl kk
      · refine lv_tableIn (off := 545) (tgt := 577) hx hb dL_law_32 (by decide) (by decide) (by decide) (by decide) ?_
        exact lc_scene hf hX hbl hbA hA hK1 hK2 hZ hN hgo hLn hS hj ho5 ho6 hl kk
      · refine lv_tableIn (off := 578) (tgt := 610) hx hb dL_law_32 (by decide) (by decide) (by decide) (by decide) ?_
        exact lc_who hf hX hbl hbA hA hK1 hK2 hZ hN hgo hLn hS hj ho5 ho6 hl kk
      · refine lv_tableIn (off := 611) (tgt := 643) hx hb dL_law_32 (by decide) (by decide) (by decide) (by decide) ?_
        exact lc_parts hf hX hbl hbA hA hK1 hK2 hZ hN hgo hLn hS hj ho5 ho6 hl kk
      · refine lv_tableIn (off := 634) (tgt := 666) hx hb dL_law_32 (by decide) (by decide) (by decide) (by decide) ?_
        exact lc_count hf hX hbl hbA hA hK1 hK2 hZ hN hgo hLn hS hj ho5 ho6 hl kk
      · refine lv_tableIn (off := 657) (tgt := 689) hx hb dL_law_32 (by decide) (by decide) (by decide) (by decide) ?_
        exact lc_digest hf hX hbl hbA hA hK1 hK2 hZ hN hgo hLn hS hj ho5 ho6 hl kk
      · refine lv_tableOut (tgt := 702) hx hb dL_law_32 (Or.inr (by rw [nI_toInt (by omega)]; omega)) (by decide) ?_
        exact kk M cells slots H locs ls (Nat.le_refl _) hM (by omega) (by omega) hS hj2 hl
    · refine lv_icmp_gt (tgt := 708) hx hb dL_law_23 (by decide) (fun _ => ?_) (fun hno => absurd (law_gt (by omega) hLn hgo) hno)
      refine lv_iconst (v := 1) hx hb dL_law_708 (by decide) ?_
      refine va_forget (fun q hq => hAq _ (hS.2.2 q hq)) ?_
      refine W.widen (k := 600000) (n := 7302250) (by omega) (by omega) ?_
      exact lw_ret hx hb hr hlocks dL_law_709
