theorem id_arr {args : Array Value} {s : State} {ty : FieldType} (h : (Cond.arrayClass ty).before args s = true) : ∃ cA : ClassId, ArrOfT s cA ty ∧ s.vm.findClass ("[" ++ ty.toString) = some cA := by
  obtain ⟨c, k, comp, h1, h2, h3⟩ := Cond.arrayClass_spec h
  exact ⟨c, fun n z => ⟨fun k h => (by cases h), k, h2, comp, h3⟩, h1⟩
theorem id_obj {args : Array Value} {s : State} {C : String} (h : (Cond.arrayOver (.object C)).before args s = true) : ∃ cA : ClassId, ArrOfT s cA (.object C) ∧ va_RA s cA (.object C) := by
  obtain ⟨comp, c, k, h1, _, h3, h4, h5⟩ := Cond.arrayOver_spec h
  exact ⟨c, fun n z => ⟨fun k h => (by cases h), k, h3, comp, h4⟩, k, comp, h3, h4, h1, h5⟩
theorem id_dT {args : Array Value} {s : State} {D : va_G} (hK : va_K D vcl [] s) (h1 : (Cond.arrayClass .byte).before args s = true) (h2 : (Cond.arrayClass .int).before args s = true) (h3 : (Cond.arrayOver (.object "java/lang/Object")).before args s = true) (h4 : (Cond.arrayClass .boolean).before args s = true) : ∃ cB cI_ cO cZ : ClassId, va_K D vcl (dT cB cI_ cO) s ∧ va_K D vcl (mT cB cI_ cZ) s := by
  obtain ⟨cB, b1, b2⟩ := id_arr h1
  obtain ⟨cI_, i1, i2⟩ := id_arr h2
  obtain ⟨cO, o1, o2⟩ := id_obj h3
  obtain ⟨cZ, z1, z2⟩ := id_arr h4
  refine ⟨cB, cI_, cO, cZ, ⟨hK.1, fun k x hx => ?_⟩, ⟨hK.1, fun k x hx => ?_⟩⟩
  · match k, hx with
    | 0, hx => cases hx; exact ⟨b1, b2⟩
    | 1, hx => cases hx; exact ⟨i1, i2⟩
    | 2, hx => cases hx; exact ⟨o1, o2⟩
    | k + 3, hx => simp at hx
  · match k, hx with
    | 0, hx => cases hx; exact ⟨b1, b2⟩
    | 1, hx => cases hx; exact ⟨i1, i2⟩
    | 2, hx => cases hx; exact ⟨z1, z2⟩
    | k + 3, hx => simp at hx
/-- the fresh reference -/
theorem rS_0 : rS rI0 (fun _ _ => 0) (fun _ => 0) 0 [] (fun _ => 0) [] 20 0 0 := by
  refine ⟨⟨rfl, rfl, rfl, rfl, rfl, rfl⟩, fun h => absurd h (Nat.lt_irrefl 0), ⟨Nat.zero_le _, fun e he => absurd he (Nat.not_lt_zero e), fun e f he => absurd he (Nat.not_lt_zero e), fun w _ => Or.inl rfl⟩, fun j hj => absurd hj (Nat.not_lt_zero j)⟩
theorem dI_0 : dI (fun _ => 0) 0 [] [] 20 0 0 512 := dI.un (Es := []) ⟨Nat.zero_le _, fun _ => rfl, by decide, by decide⟩ ⟨Nat.zero_le _, fun e he => absurd he (Nat.not_lt_zero e), by decide⟩
set_option maxHeartbeats 4000000 in
theorem cS_0 {z : Nat → Nat} {cB cI_ cO : ClassId} {L : List Nat} {g : hG} {dk : Nat} (h : ∃ (tp by_ rd els reo nob nt nf nr pr pcs spr nwh lf bk bop cf nx gl ra fa la sl : Nat), ho L g dk 1 (.inr (10, [.ref tp, .ref rd, .ref els, .ref reo, .ref nob, .ref pr, .ref bk, .ref gl, .ref sl, .int 20, .int 0, .int 0])) ∧ ho L g tp 2 (.inr (9, [.ref by_, .int 0])) ∧ ho L g by_ 3 (.inl (cB, 1200, .inl (fun _ => 0))) ∧ ho L g rd 4 (.inr (5, [.ref tp, .int 0, .int 0, .int 0, .int 0, .int 0])) ∧ ho L g els 5 (.inr (0, [.int 0, .ref (z 0), .int 0])) ∧ ho L g reo 7 (.inr (0, [.int 0, .ref (z 0), .int 0])) ∧ ho L g nob 30 (.inr (2, [.int 5, .int (-1), .int 0, .ref nt, .int 0, .int 0, .ref nf, .ref nr, .int 0])) ∧ ho L g pr 13 (.inr (7, [.ref pcs, .ref spr, .ref nwh])) ∧ ho L g pcs 14 (.inr (0, [.int 0, .ref (z 0), .int 0])) ∧ ho L g spr 16 (.inr (0, [.int 0, .ref (z 0), .int 0])) ∧ ho L g nwh 19 (.inr (6, [.ref nob, .int 0, .int 0, .int 0])) ∧ ho L g lf 20 (.inr (4, [.ref pr, .int 0, .int 0, .int 0, .int 0, .int 0, .int 0])) ∧ ho L g bk 21 (.inr (1, [.ref pr, .ref lf, .ref bop, .int 0, .int 0, .ref cf, .ref nx, .int 0, .int 0, .int 0, .int 0])) ∧ ho L g bop 22 (.inl (cI_, 61, .inl (fun _ => 0))) ∧ ho L g cf 23 (.inl (cI_, 128, .inl (fun _ => 0))) ∧ ho L g nx 24 (.inl (cI_, 128, .inl (fun _ => 0))) ∧ ho L g gl 25 (.inr (3, [.ref pr, .ref lf, .ref ra, .ref fa, .ref la, .int 0, .int 0, .int 0, .int 0, .int 0])) ∧ ho L g ra 26 (.inl (cI_, 28, .inl (fun _ => 0))) ∧ ho L g fa 27 (.inl (cI_, 28, .inl (fun _ => 0))) ∧ ho L g la 28 (.inl (cI_, 28, .inl (fun _ => 0))) ∧ ho L g sl 29 (.inr (8, [.ref pr]))) : cS z cB cI_ cO L g dk (fun _ => 0) 0 [] (upl 0 []) 20 0 0 28 := by
  obtain ⟨tp, by_, rd, els, reo, nob, nt, nf, nr, pr, pcs, spr, nwh, lf, bk, bop, cf, nx, gl, ra, fa, la, sl, h_dk, h_tp, h_by, h_rd, h_els, h_reo, h_nob, h_pr, h_pcs, h_spr, h_nwh, h_lf, h_bk, h_bop, h_cf, h_nx, h_gl, h_ra, h_fa, h_la, h_sl⟩ := h
  exact ⟨(fun k => [tp, by_, rd, els, reo, nob, pr, pcs, spr, nwh, nob, lf, bk, gl, sl, ra, fa, la, 0, 0, 0, 0, 0, 0, 0, 0, nt, nf, nr].getD k 0), (fun _ => 0), [], [], [], (fun _ _ => 0), h_dk, h_tp, h_by, h_rd, alR_0 h_els, ⟨rfl, List.Pairwise.nil, fun e he => absurd he (Nat.not_lt_zero e)⟩, alR_0 h_reo, h_pr, alR_0 h_pcs, alR_0 h_spr, ⟨rfl, fun i hi => absurd hi (Nat.not_lt_zero i)⟩, fun y hy => absurd hy List.not_mem_nil, h_nwh, h_lf, h_gl, h_ra, h_fa, h_la, h_sl, h_nob, ⟨⟨Nat.zero_le 800, Nat.zero_le 800, Nat.zero_le 800, Nat.zero_le 800⟩, ⟨by decide, List.Pairwise.nil, by decide, by decide⟩, fun h9 => absurd h9 (Nat.lt_irrefl 0)⟩, fun _ => Or.inl ⟨bop, cf, nx, 0, 0, 128, 0, 0, 0, (fun _ => 0), (fun _ => 0), (fun _ => 0), h_bk, h_bop, h_cf, h_nx, by decide, by decide⟩, ⟨bop, cf, nx, 0, 0, 128, 0, 0, 0, 0, (fun _ => 0), (fun _ => 0), (fun _ => 0), h_bk, h_bop, h_cf, h_nx, by decide, by decide⟩⟩
