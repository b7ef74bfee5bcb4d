/-- the cells of the class -/
def cSb (z : Nat → Nat) (cB cI_ cO : ClassId) (L : List Nat) (g : hG) (dk : Nat) (T : Nat → Int32) (n : Nat) (Es : List E5) (P : List Q4) (mo lk gs M : Nat) (a : Nat → Nat) (x : Nat → Int32) (xs pa sa : List Nat) (f : Nat → Nat → Int32) : Prop := ho L g dk 1 (.inr (10, [.ref (a 0), .ref (a 2), .ref (a 3), .ref (a 4), .ref (a 5), .ref (a 6), .ref (a 12), .ref (a 13), .ref (a 14), .int (nI mo), .int (nI lk), .int (nI (a 25))])) ∧ ho L g (a 0) 2 (.inr (9, [.ref (a 1), .int (nI n)])) ∧ ho L g (a 1) 3 (.inl (cB, 1200, .inl T)) ∧ ho L g (a 2) 4 (.inr (5, [.ref (a 0), .int (nI (a 18)), .int (nI (a 19)), .int (nI (a 20)), .int (x 0), .int (x 1)])) ∧ alR cO (z 0) 5 6 L g (a 3) (a 21) xs ∧ elsR cB cI_ L g xs Es ∧ alR cO (z 0) 7 8 L g (a 4) (a 22) [] ∧ ho L g (a 6) 13 (.inr (7, [.ref (a 7), .ref (a 8), .ref (a 9)])) ∧ alR cO (z 0) 14 15 L g (a 7) (a 23) pa ∧ alR cO (z 0) 16 17 L g (a 8) (a 24) sa ∧ pcR L g (fun e => xs.getD e 0) pa P ∧ spR L g sa ∧ ho L g (a 9) 19 (.inr (6, [.ref (a 10), .int 0, .int 0, .int 0])) ∧ ho L g (a 11) 20 (.inr (4, [.ref (a 6), .int (x 2), .int (x 3), .int (x 4), .int (x 5), .int (x 6), .int (x 7)])) ∧ ho L g (a 13) 25 (.inr (3, [.ref (a 6), .ref (a 11), .ref (a 15), .ref (a 16), .ref (a 17), .int (x 8), .int (x 9), .int (x 10), .int (x 11), .int (x 12)])) ∧ ho L g (a 15) 26 (.inl (cI_, M, .inl (f 0))) ∧ ho L g (a 16) 27 (.inl (cI_, M, .inl (f 1))) ∧ ho L g (a 17) 28 (.inl (cI_, M, .inl (f 2))) ∧ ho L g (a 14) 29 (.inr (8, [.ref (a 6)])) ∧ ho L g (a 10) 30 (.inr (2, [.int 5, .int (-1), .int 0, .ref (a 26), .int 0, .int 0, .ref (a 27), .ref (a 28), .int 0])) ∧ (((a 21) ≤ 800 ∧ (a 22) ≤ 800 ∧ (a 23) ≤ 800 ∧ (a 24) ≤ 800) ∧ (pa.length + sa.length ≤ 530 ∧ (pa ++ sa).Nodup ∧ 1 ≤ M ∧ M ≤ 1000) ∧ (0 < lk → (a 25) = gs)) ∧ (lk = 0 → bkS cI_ L g (a 6) (a 12) (a 11) (fun e => Es.getD e dE) P P.length mo) ∧ bkZ cI_ L g (a 6) (a 12) (a 11)
/-- the state of the class -/
def cS (z : Nat → Nat) (cB cI_ cO : ClassId) (L : List Nat) (g : hG) (dk : Nat) (T : Nat → Int32) (n : Nat) (Es : List E5) (P : List Q4) (mo lk gs M : Nat) : Prop := ∃ (a : Nat → Nat) (x : Nat → Int32) (xs pa sa : List Nat) (f : Nat → Nat → Int32), cSb z cB cI_ cO L g dk T n Es P mo lk gs M a x xs pa sa f
theorem bkZ.fr {cI_ : ClassId} {ts L L1 : List Nat} {g g1 : hG} {pr bk lf : Nat} (h : bkZ cI_ L g pr bk lf) (hf : fr ts L g L1 g1) (ht : (21 ∉ ts ∧ 22 ∉ ts) ∧ 23 ∉ ts ∧ 24 ∉ ts) : bkZ cI_ L1 g1 pr bk lf := by
  obtain ⟨bop, cf, nx, bn, bs, M, y7, y8, y9, y10, fb, fc, fn, h1, h2, h3, h4, h5⟩ := h
  exact ⟨bop, cf, nx, bn, bs, M, y7, y8, y9, y10, fb, fc, fn, h1.fr hf ht.1.1, h2.fr hf ht.1.2, h3.fr hf ht.2.1, h4.fr hf ht.2.2, h5⟩
theorem bkK.fr {cI_ : ClassId} {ts L L1 : List Nat} {g g1 : hG} {pr bk lf : Nat} {EE : Nat → E5} {P : List Q4} {n mo : Nat} {y9 y10 : Int32} {C : Nat → Option Q4} {cn : Nat} (h : bkK cI_ L g pr bk lf EE P n mo y9 y10 C cn) (hf : fr ts L g L1 g1) (ht : (21 ∉ ts ∧ 22 ∉ ts) ∧ 23 ∉ ts ∧ 24 ∉ ts) : bkK cI_ L1 g1 pr bk lf EE P n mo y9 y10 C cn := by
  obtain ⟨bop, cf, nx, M, fb, fc, fn, h1, h2, h3, h4, h5⟩ := h
  exact ⟨bop, cf, nx, M, fb, fc, fn, h1.fr hf ht.1.1, h2.fr hf ht.1.2, h3.fr hf ht.2.1, h4.fr hf ht.2.2, h5⟩
theorem bkS.fr {cI_ : ClassId} {ts L L1 : List Nat} {g g1 : hG} {pr bk lf : Nat} {EE : Nat → E5} {P : List Q4} {n mo : Nat} (h : bkS cI_ L g pr bk lf EE P n mo) (hf : fr ts L g L1 g1) (ht : (21 ∉ ts ∧ 22 ∉ ts) ∧ 23 ∉ ts ∧ 24 ∉ ts) : bkS cI_ L1 g1 pr bk lf EE P n mo := by
  rcases h with h | ⟨y9, y10, C, cn, h⟩
  · obtain ⟨bop, cf, nx, bn, bs, M, y8, y9, y10, fb, fc, fn, h1, h2, h3, h4, h5⟩ := h
    exact Or.inl ⟨bop, cf, nx, bn, bs, M, y8, y9, y10, fb, fc, fn, h1.fr hf ht.1.1, h2.fr hf ht.1.2, h3.fr hf ht.2.1, h4.fr hf ht.2.2, h5⟩
  · exact Or.inr ⟨y9, y10, C, cn, h.fr hf ht⟩
theorem bkK.z {cI_ : ClassId} {L : List Nat} {g : hG} {pr bk lf : Nat} {EE : Nat → E5} {P : List Q4} {n mo : Nat} {y9 y10 : Int32} {C : Nat → Option Q4} {cn : Nat} (h : bkK cI_ L g pr bk lf EE P n mo y9 y10 C cn) : bkZ cI_ L g pr bk lf := by
  obtain ⟨bop, cf, nx, M, fb, fc, fn, h1, h2, h3, h4, h5, h6, h7, h8⟩ := h
  exact ⟨bop, cf, nx, n, qS P n, M, 1, nI cn, y9, y10, fb, fc, fn, h1, h2, h3, h4, by omega, h7⟩
theorem bkS.z {cI_ : ClassId} {L : List Nat} {g : hG} {pr bk lf : Nat} {EE : Nat → E5} {P : List Q4} {n mo : Nat} (h : bkS cI_ L g pr bk lf EE P n mo) : bkZ cI_ L g pr bk lf := by
  rcases h with h | ⟨y9, y10, C, cn, h⟩
  · obtain ⟨bop, cf, nx, bn, bs, M, y8, y9, y10, fb, fc, fn, h1, h2, h3, h4, h5⟩ := h
    exact ⟨bop, cf, nx, bn, bs, M, 0, y8, y9, y10, fb, fc, fn, h1, h2, h3, h4, h5⟩
  · exact h.z
theorem eI_m9 {l : Launch} {D : va_G} {y : MethodName} {b : ByteArray} {n : Nat} {r : Option FieldType} {fr lo mc ms : Nat} {As : List Value} {z : Nat → Nat} {cB cI_ cO : ClassId} {L : List Nat} {g : hG} {post post2 : Int32 → List Nat → hG → Prop} (h : eI l D y b n r fr lo mc ms As z cB cI_ cO L g post) (hp : ∀ r L1 g1, post r L1 g1 → post2 r L1 g1) : eI l D y b n r fr lo mc ms As z cB cI_ cO L g post2 := cI_mono h (fun r u ⟨L1, g1, h1, h2⟩ => ⟨L1, g1, hp r L1 g1 h1, h2⟩)
theorem eL_m9 {l : Launch} {D : va_G} {y : MethodName} {b : ByteArray} {n : Nat} {r : Option FieldType} {fr lo mc ms : Nat} {As : List Value} {z : Nat → Nat} {cB cI_ cO : ClassId} {L : List Nat} {g : hG} {post post2 : Int64 → List Nat → hG → Prop} (h : eL l D y b n r fr lo mc ms As z cB cI_ cO L g post) (hp : ∀ r L1 g1, post r L1 g1 → post2 r L1 g1) : eL l D y b n r fr lo mc ms As z cB cI_ cO L g post2 := cL_mono h (fun r u ⟨L1, g1, h1, h2⟩ => ⟨L1, g1, hp r L1 g1 h1, h2⟩)
/-- the room that a call of the class wants -/
def rB (M M2 fr lo mc ms : Nat) : Prop := M ≤ M2 ∧ M2 ≤ 1000 ∧ fr ≤ 12 ∧ lo ≤ 400 ∧ mc ≤ 1100 + 3 * (M2 - M) ∧ ms ≤ 13800 + 6 * (M2 - M)
theorem bkK.cn {cI_ : ClassId} {L : List Nat} {g : hG} {pr bk lf : Nat} {EE : Nat → E5} {P : List Q4} {n mo : Nat} {y9 y10 : Int32} {C : Nat → Option Q4} {cn : Nat} (h : bkK cI_ L g pr bk lf EE P n mo y9 y10 C cn) : cn = (pgl EE P n mo).length := by
  obtain ⟨bop, cf, nx, M, fb, fc, fn, h1, h2, h3, h4, h5, h6, h7, h8, h9, h10, h11⟩ := h
  rw [h9, h8]
  rfl
theorem nm9 {ts : List Nat} {a : Nat} (h : ts.contains a = false) : a ∉ ts := nc_of h
theorem cSb.h_dk {z : Nat → Nat} {cB cI_ cO : ClassId} {L : List Nat} {g : hG} {dk : Nat} {T : Nat → Int32} {n : Nat} {Es : List E5} {P : List Q4} {mo lk gs M : Nat} {a : Nat → Nat} {x : Nat → Int32} {xs pa sa : List Nat} {f : Nat → Nat → Int32} (h : cSb z cB cI_ cO L g dk T n Es P mo lk gs M a x xs pa sa f) : ho L g dk 1 (.inr (10, [.ref (a 0), .ref (a 2), .ref (a 3), .ref (a 4), .ref (a 5), .ref (a 6), .ref (a 12), .ref (a 13), .ref (a 14), .int (nI mo), .int (nI lk), .int (nI (a 25))])) := h.1
theorem cSb.h_tp {z : Nat → Nat} {cB cI_ cO : ClassId} {L : List Nat} {g : hG} {dk : Nat} {T : Nat → Int32} {n : Nat} {Es : List E5} {P : List Q4} {mo lk gs M : Nat} {a : Nat → Nat} {x : Nat → Int32} {xs pa sa : List Nat} {f : Nat → Nat → Int32} (h : cSb z cB cI_ cO L g dk T n Es P mo lk gs M a x xs pa sa f) : ho L g (a 0) 2 (.inr (9, [.ref (a 1), .int (nI n)])) := h.2.1
theorem cSb.h_by {z : Nat → Nat} {cB cI_ cO : ClassId} {L : List Nat} {g : hG} {dk : Nat} {T : Nat → Int32} {n : Nat} {Es : List E5} {P : List Q4} {mo lk gs M : Nat} {a : Nat → Nat} {x : Nat → Int32} {xs pa sa : List Nat} {f : Nat → Nat → Int32} (h : cSb z cB cI_ cO L g dk T n Es P mo lk gs M a x xs pa sa f) : ho L g (a 1) 3 (.inl (cB, 1200, .inl T)) := h.2.2.1
theorem cSb.h_rd {z : Nat → Nat} {cB cI_ cO : ClassId} {L : List Nat} {g : hG} {dk : Nat} {T : Nat → Int32} {n : Nat} {Es : List E5} {P : List Q4} {mo lk gs M : Nat} {a : Nat → Nat} {x : Nat → Int32} {xs pa sa : List Nat} {f : Nat → Nat → Int32} (h : cSb z cB cI_ cO L g dk T n Es P mo lk gs M a x xs pa sa f) : ho L g (a 2) 4 (.inr (5, [.ref (a 0), .int (nI (a 18)), .int (nI (a 19)), .int (nI (a 20)), .int (x 0), .int (x 1)])) := h.2.2.2.1
theorem cSb.h_els {z : Nat → Nat} {cB cI_ cO : ClassId} {L : List Nat} {g : hG} {dk : Nat} {T : Nat → Int32} {n : Nat} {Es : List E5} {P : List Q4} {mo lk gs M : Nat} {a : Nat → Nat} {x : Nat → Int32} {xs pa sa : List Nat} {f : Nat → Nat → Int32} (h : cSb z cB cI_ cO L g dk T n Es P mo lk gs M a x xs pa sa f) : alR cO (z 0) 5 6 L g (a 3) (a 21) xs := h.2.2.2.2.1
theorem cSb.h_es {z : Nat → Nat} {cB cI_ cO : ClassId} {L : List Nat} {g : hG} {dk : Nat} {T : Nat → Int32} {n : Nat} {Es : List E5} {P : List Q4} {mo lk gs M : Nat} {a : Nat → Nat} {x : Nat → Int32} {xs pa sa : List Nat} {f : Nat → Nat → Int32} (h : cSb z cB cI_ cO L g dk T n Es P mo lk gs M a x xs pa sa f) : elsR cB cI_ L g xs Es := h.2.2.2.2.2.1
theorem cSb.h_reo {z : Nat → Nat} {cB cI_ cO : ClassId} {L : List Nat} {g : hG} {dk : Nat} {T : Nat → Int32} {n : Nat} {Es : List E5} {P : List Q4} {mo lk gs M : Nat} {a : Nat → Nat} {x : Nat → Int32} {xs pa sa : List Nat} {f : Nat → Nat → Int32} (h : cSb z cB cI_ cO L g dk T n Es P mo lk gs M a x xs pa sa f) : alR cO (z 0) 7 8 L g (a 4) (a 22) [] := h.2.2.2.2.2.2.1
theorem cSb.h_pr {z : Nat → Nat} {cB cI_ cO : ClassId} {L : List Nat} {g : hG} {dk : Nat} {T : Nat → Int32} {n : Nat} {Es : List E5} {P : List Q4} {mo lk gs M : Nat} {a : Nat → Nat} {x : Nat → Int32} {xs pa sa : List Nat} {f : Nat → Nat → Int32} (h : cSb z cB cI_ cO L g dk T n Es P mo lk gs M a x xs pa sa f) : ho L g (a 6) 13 (.inr (7, [.ref (a 7), .ref (a 8), .ref (a 9)])) := h.2.2.2.2.2.2.2.1
theorem cSb.h_pcs {z : Nat → Nat} {cB cI_ cO : ClassId} {L : List Nat} {g : hG} {dk : Nat} {T : Nat → Int32} {n : Nat} {Es : List E5} {P : List Q4} {mo lk gs M : Nat} {a : Nat → Nat} {x : Nat → Int32} {xs pa sa : List Nat} {f : Nat → Nat → Int32} (h : cSb z cB cI_ cO L g dk T n Es P mo lk gs M a x xs pa sa f) : alR cO (z 0) 14 15 L g (a 7) (a 23) pa := h.2.2.2.2.2.2.2.2.1
theorem cSb.h_spr {z : Nat → Nat} {cB cI_ cO : ClassId} {L : List Nat} {g : hG} {dk : Nat} {T : Nat → Int32} {n : Nat} {Es : List E5} {P : List Q4} {mo lk gs M : Nat} {a : Nat → Nat} {x : Nat → Int32} {xs pa sa : List Nat} {f : Nat → Nat → Int32} (h : cSb z cB cI_ cO L g dk T n Es P mo lk gs M a x xs pa sa f) : alR cO (z 0) 16 17 L g (a 8) (a 24) sa := h.2.2.2.2.2.2.2.2.2.1
theorem cSb.h_pc {z : Nat → Nat} {cB cI_ cO : ClassId} {L : List Nat} {g : hG} {dk : Nat} {T : Nat → Int32} {n : Nat} {Es : List E5} {P : List Q4} {mo lk gs M : Nat} {a : Nat → Nat} {x : Nat → Int32} {xs pa sa : List Nat} {f : Nat → Nat → Int32} (h : cSb z cB cI_ cO L g dk T n Es P mo lk gs M a x xs pa sa f) : pcR L g (fun e => xs.getD e 0) pa P := h.2.2.2.2.2.2.2.2.2.2.1
theorem cSb.h_sp {z : Nat → Nat} {cB cI_ cO : ClassId} {L : List Nat} {g : hG} {dk : Nat} {T : Nat → Int32} {n : Nat} {Es : List E5} {P : List Q4} {mo lk gs M : Nat} {a : Nat → Nat} {x : Nat → Int32} {xs pa sa : List Nat} {f : Nat → Nat → Int32} (h : cSb z cB cI_ cO L g dk T n Es P mo lk gs M a x xs pa sa f) : spR L g sa := h.2.2.2.2.2.2.2.2.2.2.2.1
theorem cSb.h_nwh {z : Nat → Nat} {cB cI_ cO : ClassId} {L : List Nat} {g : hG} {dk : Nat} {T : Nat → Int32} {n : Nat} {Es : List E5} {P : List Q4} {mo lk gs M : Nat} {a : Nat → Nat} {x : Nat → Int32} {xs pa sa : List Nat} {f : Nat → Nat → Int32} (h : cSb z cB cI_ cO L g dk T n Es P mo lk gs M a x xs pa sa f) : ho L g (a 9) 19 (.inr (6, [.ref (a 10), .int 0, .int 0, .int 0])) := h.2.2.2.2.2.2.2.2.2.2.2.2.1
theorem cSb.h_lf {z : Nat → Nat} {cB cI_ cO : ClassId} {L : List Nat} {g : hG} {dk : Nat} {T : Nat → Int32} {n : Nat} {Es : List E5} {P : List Q4} {mo lk gs M : Nat} {a : Nat → Nat} {x : Nat → Int32} {xs pa sa : List Nat} {f : Nat → Nat → Int32} (h : cSb z cB cI_ cO L g dk T n Es P mo lk gs M a x xs pa sa f) : ho L g (a 11) 20 (.inr (4, [.ref (a 6), .int (x 2), .int (x 3), .int (x 4), .int (x 5), .int (x 6), .int (x 7)])) := h.2.2.2.2.2.2.2.2.2.2.2.2.2.1
theorem cSb.h_gl {z : Nat → Nat} {cB cI_ cO : ClassId} {L : List Nat} {g : hG} {dk : Nat} {T : Nat → Int32} {n : Nat} {Es : List E5} {P : List Q4} {mo lk gs M : Nat} {a : Nat → Nat} {x : Nat → Int32} {xs pa sa : List Nat} {f : Nat → Nat → Int32} (h : cSb z cB cI_ cO L g dk T n Es P mo lk gs M a x xs pa sa f) : ho L g (a 13) 25 (.inr (3, [.ref (a 6), .ref (a 11), .ref (a 15), .ref (a 16), .ref (a 17), .int (x 8), .int (x 9), .int (x 10), .int (x 11), .int (x 12)])) := h.2.2.2.2.2.2.2.2.2.2.2.2.2.2.1
theorem cSb.h_ra {z : Nat → Nat} {cB cI_ cO : ClassId} {L : List Nat} {g : hG} {dk : Nat} {T : Nat → Int32} {n : Nat} {Es : List E5} {P : List Q4} {mo lk gs M : Nat} {a : Nat → Nat} {x : Nat → Int32} {xs pa sa : List Nat} {f : Nat → Nat → Int32} (h : cSb z cB cI_ cO L g dk T n Es P mo lk gs M a x xs pa sa f) : ho L g (a 15) 26 (.inl (cI_, M, .inl (f 0))) := h.2.2.2.2.2.2.2.2.2.2.2.2.2.2.2.1
theorem cSb.h_fa {z : Nat → Nat} {cB cI_ cO : ClassId} {L : List Nat} {g : hG} {dk : Nat} {T : Nat → Int32} {n : Nat} {Es : List E5} {P : List Q4} {mo lk gs M : Nat} {a : Nat → Nat} {x : Nat → Int32} {xs pa sa : List Nat} {f : Nat → Nat → Int32} (h : cSb z cB cI_ cO L g dk T n Es P mo lk gs M a x xs pa sa f) : ho L g (a 16) 27 (.inl (cI_, M, .inl (f 1))) := h.2.2.2.2.2.2.2.2.2.2.2.2.2.2.2.2.1
theorem cSb.h_la {z : Nat → Nat} {cB cI_ cO : ClassId} {L : List Nat} {g : hG} {dk : Nat} {T : Nat → Int32} {n : Nat} {Es : List E5} {P : List Q4} {mo lk gs M : Nat} {a : Nat → Nat} {x : Nat → Int32} {xs pa sa : List Nat} {f : Nat → Nat → Int32} (h : cSb z cB cI_ cO L g dk T n Es P mo lk gs M a x xs pa sa f) : ho L g (a 17) 28 (.inl (cI_, M, .inl (f 2))) := h.2.2.2.2.2.2.2.2.2.2.2.2.2.2.2.2.2.1
theorem cSb.h_sl {z : Nat → Nat} {cB cI_ cO : ClassId} {L : List Nat} {g : hG} {dk : Nat} {T : Nat → Int32} {n : Nat} {Es : List E5} {P : List Q4} {mo lk gs M : Nat} {a : Nat → Nat} {x : Nat → Int32} {xs pa sa : List Nat} {f : Nat → Nat → Int32} (h : cSb z cB cI_ cO L g dk T n Es P mo lk gs M a x xs pa sa f) : ho L g (a 14) 29 (.inr (8, [.ref (a 6)])) := h.2.2.2.2.2.2.2.2.2.2.2.2.2.2.2.2.2.2.1
theorem cSb.h_nob {z : Nat → Nat} {cB cI_ cO : ClassId} {L : List Nat} {g : hG} {dk : Nat} {T : Nat → Int32} {n : Nat} {Es : List E5} {P : List Q4} {mo lk gs M : Nat} {a : Nat → Nat} {x : Nat → Int32} {xs pa sa : List Nat} {f : Nat → Nat → Int32} (h : cSb z cB cI_ cO L g dk T n Es P mo lk gs M a x xs pa sa f) : ho L g (a 10) 30 (.inr (2, [.int 5, .int (-1), .int 0, .ref (a 26), .int 0, .int 0, .ref (a 27), .ref (a 28), .int 0])) := h.2.2.2.2.2.2.2.2.2.2.2.2.2.2.2.2.2.2.2.1
theorem cSb.hbn {z : Nat → Nat} {cB cI_ cO : ClassId} {L : List Nat} {g : hG} {dk : Nat} {T : Nat → Int32} {n : Nat} {Es : List E5} {P : List Q4} {mo lk gs M : Nat} {a : Nat → Nat} {x : Nat → Int32} {xs pa sa : List Nat} {f : Nat → Nat → Int32} (h : cSb z cB cI_ cO L g dk T n Es P mo lk gs M a x xs pa sa f) : (((a 21) ≤ 800 ∧ (a 22) ≤ 800 ∧ (a 23) ≤ 800 ∧ (a 24) ≤ 800) ∧ (pa.length + sa.length ≤ 530 ∧ (pa ++ sa).Nodup ∧ 1 ≤ M ∧ M ≤ 1000) ∧ (0 < lk → (a 25) = gs)) := h.2.2.2.2.2.2.2.2.2.2.2.2.2.2.2.2.2.2.2.2.1
theorem cSb.h_bs {z : Nat → Nat} {cB cI_ cO : ClassId} {L : List Nat} {g : hG} {dk : Nat} {T : Nat → Int32} {n : Nat} {Es : List E5} {P : List Q4} {mo lk gs M : Nat} {a : Nat → Nat} {x : Nat → Int32} {xs pa sa : List Nat} {f : Nat → Nat → Int32} (h : cSb z cB cI_ cO L g dk T n Es P mo lk gs M a x xs pa sa f) : (lk = 0 → bkS cI_ L g (a 6) (a 12) (a 11) (fun e => Es.getD e dE) P P.length mo) := h.2.2.2.2.2.2.2.2.2.2.2.2.2.2.2.2.2.2.2.2.2.1
theorem cSb.h_bz {z : Nat → Nat} {cB cI_ cO : ClassId} {L : List Nat} {g : hG} {dk : Nat} {T : Nat → Int32} {n : Nat} {Es : List E5} {P : List Q4} {mo lk gs M : Nat} {a : Nat → Nat} {x : Nat → Int32} {xs pa sa : List Nat} {f : Nat → Nat → Int32} (h : cSb z cB cI_ cO L g dk T n Es P mo lk gs M a x xs pa sa f) : bkZ cI_ L g (a 6) (a 12) (a 11) := h.2.2.2.2.2.2.2.2.2.2.2.2.2.2.2.2.2.2.2.2.2.2
theorem C_element (l : Launch) (D : va_G) {z : Nat → Nat} {cB cI_ cO : ClassId} {L : List Nat} {g : hG} {dk : Nat} {T : Nat → Int32} {n : Nat} {Es : List E5} {P : List Q4} {mo lk gs rm M : Nat} (i1 i2 : Int32) (h : cS z cB cI_ cO L g dk T n Es (upl lk P) mo lk gs M) (hi : dI T n Es P mo lk gs rm) : ∃ M2 fr lo mc ms, rB M M2 fr lo mc ms ∧ eI l D yX9_element cX9_element 4 (some .int) fr lo mc ms [.ref dk, .int i1, .int i2] z cB cI_ cO L g (fun r L1 g1 => cS z cB cI_ cO L1 g1 dk T n Es (upl lk P) mo lk gs M2 ∧ elC Es.length Es i1 i2 r) := by
  obtain ⟨a, x, xs, pa, sa, f, hb⟩ := id h
  have h_dk := hb.h_dk
  have h_tp := hb.h_tp
  have h_by := hb.h_by
  have h_rd := hb.h_rd
  have h_els := hb.h_els
  have h_es := hb.h_es
  have h_reo := hb.h_reo
  have h_pr := hb.h_pr
  have h_pcs := hb.h_pcs
  have h_spr := hb.h_spr
  have h_pc := hb.h_pc
  have h_sp := hb.h_sp
  have h_nwh := hb.h_nwh
  have h_lf := hb.h_lf
  have h_gl := hb.h_gl
  have h_ra := hb.h_ra
  have h_fa := hb.h_fa
  have h_la := hb.h_la
  have h_sl := hb.h_sl
  have h_nob := hb.h_nob
  have hbn := hb.hbn
  have h_bs := hb.h_bs
  have h_bz := hb.h_bz
  have hbd := hi.bd
  have hxe : xs.length = Es.length := h_es.1
  have hpe : pa.length = P.length := h_pc.1.trans (upl_len lk P)
  have hE60 := hi.2.1.1
  have hmo1 := hi.1.2.2.1
  have hmo := hi.1.2.2.2.1
  have hn := hi.1.1
  have hTb := hi.1.2.1
  have hlk := hi.1.2.2.2.2
  have hQ : pq_ok Es.length (fun e => Es.getD e dE) (upl lk P) := pq_upl hbd.1
  have hSn : qS (upl lk P) pa.length ≤ 469 := by rw [qS_upl, hpe]; exact hbd.2.1
  have hSb : ∀ i, i ≤ pa.length → qS (upl lk P) i ≤ 469 := fun i hi9 => Nat.le_trans (qS_m _ hi9) hSn
  refine ⟨M, _, _, _, _, ?_, eI_m9 (d_el2 l D _ _ _ _ _ _ _ _ _ _ _ _ _ _ _ _ _ _ _ _ _ _ i1 i2 h_dk h_els h_es (by omega)) (fun r L1 g1 h9 => by obtain ⟨hr9, rfl, rfl⟩ := h9; exact ⟨h, by rw [← hxe]; exact hr9⟩)⟩
  exact ⟨Nat.le_refl _, hbn.2.1.2.2.2, by omega, by omega, by omega, by omega⟩
theorem C_rowByte (l : Launch) (D : va_G) {z : Nat → Nat} {cB cI_ cO : ClassId} {L : List Nat} {g : hG} {dk : Nat} {T : Nat → Int32} {n : Nat} {Es : List E5} {P : List Q4} {mo lk gs rm M : Nat} (i1 i2 i3 : Int32) (h : cS z cB cI_ cO L g dk T n Es (upl lk P) mo lk gs M) (hi : dI T n Es P mo lk gs rm) : ∃ M2 fr lo mc ms, rB M M2 fr lo mc ms ∧ eI l D yX9_rowByte cX9_rowByte 5 (some .int) fr lo mc ms [.ref dk, .int i1, .int i2, .int i3] z cB cI_ cO L g (fun r L1 g1 => cS z cB cI_ cO L1 g1 dk T n Es (upl lk P) mo lk gs M2) := by
  obtain ⟨a, x, xs, pa, sa, f, hb⟩ := id h
  have h_dk := hb.h_dk
  have h_tp := hb.h_tp
  have h_by := hb.h_by
  have h_rd := hb.h_rd
  have h_els := hb.h_els
  have h_es := hb.h_es
  have h_reo := hb.h_reo
  have h_pr := hb.h_pr
  have h_pcs := hb.h_pcs
  have h_spr := hb.h_spr
  have h_pc := hb.h_pc
  have h_sp := hb.h_sp
  have h_nwh := hb.h_nwh
  have h_lf := hb.h_lf
  have h_gl := hb.h_gl
  have h_ra := hb.h_ra
  have h_fa := hb.h_fa
  have h_la := hb.h_la
  have h_sl := hb.h_sl
  have h_nob := hb.h_nob
  have hbn := hb.hbn
  have h_bs := hb.h_bs
  have h_bz := hb.h_bz
  have hbd := hi.bd
  have hxe : xs.length = Es.length := h_es.1
  have hpe : pa.length = P.length := h_pc.1.trans (upl_len lk P)
  have hE60 := hi.2.1.1
  have hmo1 := hi.1.2.2.1
  have hmo := hi.1.2.2.2.1
  have hn := hi.1.1
  have hTb := hi.1.2.1
  have hlk := hi.1.2.2.2.2
  have hQ : pq_ok Es.length (fun e => Es.getD e dE) (upl lk P) := pq_upl hbd.1
  have hSn : qS (upl lk P) pa.length ≤ 469 := by rw [qS_upl, hpe]; exact hbd.2.1
  have hSb : ∀ i, i ≤ pa.length → qS (upl lk P) i ≤ 469 := fun i hi9 => Nat.le_trans (qS_m _ hi9) hSn
  refine ⟨M, _, _, _, _, ?_, eI_m9 (d_rb l D _ _ _ _ _ _ _ _ _ _ _ _ _ _ _ _ _ _ _ _ _ _ i1 i2 i3 h_dk h_els h_es (by omega)) (fun r L1 g1 h9 => by obtain ⟨hr9, rfl, rfl⟩ := h9; exact h)⟩
  exact ⟨Nat.le_refl _, hbn.2.1.2.2.2, by omega, by omega, by omega, by omega⟩
theorem C_count (l : Launch) (D : va_G) {z : Nat → Nat} {cB cI_ cO : ClassId} {L : List Nat} {g : hG} {dk : Nat} {T : Nat → Int32} {n : Nat} {Es : List E5} {P : List Q4} {mo lk gs rm M : Nat} (i1 : Int32) (h : cS z cB cI_ cO L g dk T n Es (upl lk P) mo lk gs M) (hi : dI T n Es P mo lk gs rm) : ∃ M2 fr lo mc ms, rB M M2 fr lo mc ms ∧ eI l D yX9_count cX9_count 2 (some .int) fr lo mc ms [.ref dk, .int i1] z cB cI_ cO L g (fun r L1 g1 => cS z cB cI_ cO L1 g1 dk T n Es (upl lk P) mo lk gs M2 ∧ r = ctV n Es.length Es lk mo i1) := by
  obtain ⟨a, x, xs, pa, sa, f, hb⟩ := id h
  have h_dk := hb.h_dk
  have h_tp := hb.h_tp
  have h_by := hb.h_by
  have h_rd := hb.h_rd
  have h_els := hb.h_els
  have h_es := hb.h_es
  have h_reo := hb.h_reo
  have h_pr := hb.h_pr
  have h_pcs := hb.h_pcs
  have h_spr := hb.h_spr
  have h_pc := hb.h_pc
  have h_sp := hb.h_sp
  have h_nwh := hb.h_nwh
  have h_lf := hb.h_lf
  have h_gl := hb.h_gl
  have h_ra := hb.h_ra
  have h_fa := hb.h_fa
  have h_la := hb.h_la
  have h_sl := hb.h_sl
  have h_nob := hb.h_nob
  have hbn := hb.hbn
  have h_bs := hb.h_bs
  have h_bz := hb.h_bz
  have hbd := hi.bd
  have hxe : xs.length = Es.length := h_es.1
  have hpe : pa.length = P.length := h_pc.1.trans (upl_len lk P)
  have hE60 := hi.2.1.1
  have hmo1 := hi.1.2.2.1
  have hmo := hi.1.2.2.2.1
  have hn := hi.1.1
  have hTb := hi.1.2.1
  have hlk := hi.1.2.2.2.2
  have hQ : pq_ok Es.length (fun e => Es.getD e dE) (upl lk P) := pq_upl hbd.1
  have hSn : qS (upl lk P) pa.length ≤ 469 := by rw [qS_upl, hpe]; exact hbd.2.1
  have hSb : ∀ i, i ≤ pa.length → qS (upl lk P) i ≤ 469 := fun i hi9 => Nat.le_trans (qS_m _ hi9) hSn
  refine ⟨M, _, _, _, _, ?_, eI_m9 (d_count2 l D _ _ _ _ _ _ _ _ _ _ _ _ _ _ _ _ _ _ _ _ _ _ _ _ _ i1 h_dk h_els h_es h_tp h_by (by omega) hlk) (fun r L1 g1 h9 => by obtain ⟨hr9, rfl, rfl⟩ := h9; exact ⟨h, by rw [← hxe]; exact hr9⟩)⟩
  exact ⟨Nat.le_refl _, hbn.2.1.2.2.2, by omega, by omega, by omega, by omega⟩
theorem C_scenes (l : Launch) (D : va_G) {z : Nat → Nat} {cB cI_ cO : ClassId} {L : List Nat} {g : hG} {dk : Nat} {T : Nat → Int32} {n : Nat} {Es : List E5} {P : List Q4} {mo lk gs rm M : Nat}  (h : cS z cB cI_ cO L g dk T n Es (upl lk P) mo lk gs M) (hi : dI T n Es P mo lk gs rm) : ∃ M2 fr lo mc ms, rB M M2 fr lo mc ms ∧ eI l D yX9_scenes cX9_scenes 1 (some .int) fr lo mc ms [.ref dk] z cB cI_ cO L g (fun r L1 g1 => cS z cB cI_ cO L1 g1 dk T n Es (upl lk P) mo lk gs M2 ∧ r = nI (pcnt (bgq (fun e => Es.getD e dE) P 0) P.length)) := by
  obtain ⟨a, x, xs, pa, sa, f, hb⟩ := id h
  have h_dk := hb.h_dk
  have h_tp := hb.h_tp
  have h_by := hb.h_by
  have h_rd := hb.h_rd
  have h_els := hb.h_els
  have h_es := hb.h_es
  have h_reo := hb.h_reo
  have h_pr := hb.h_pr
  have h_pcs := hb.h_pcs
  have h_spr := hb.h_spr
  have h_pc := hb.h_pc
  have h_sp := hb.h_sp
  have h_nwh := hb.h_nwh
  have h_lf := hb.h_lf
  have h_gl := hb.h_gl
  have h_ra := hb.h_ra
  have h_fa := hb.h_fa
  have h_la := hb.h_la
  have h_sl := hb.h_sl
  have h_nob := hb.h_nob
  have hbn := hb.hbn
  have h_bs := hb.h_bs
  have h_bz := hb.h_bz
  have hbd := hi.bd
  have hxe : xs.length = Es.length := h_es.1
  have hpe : pa.length = P.length := h_pc.1.trans (upl_len lk P)
  have hE60 := hi.2.1.1
  have hmo1 := hi.1.2.2.1
  have hmo := hi.1.2.2.2.1
  have hn := hi.1.1
  have hTb := hi.1.2.1
  have hlk := hi.1.2.2.2.2
  have hQ : pq_ok Es.length (fun e => Es.getD e dE) (upl lk P) := pq_upl hbd.1
  have hSn : qS (upl lk P) pa.length ≤ 469 := by rw [qS_upl, hpe]; exact hbd.2.1
  have hSb : ∀ i, i ≤ pa.length → qS (upl lk P) i ≤ 469 := fun i hi9 => Nat.le_trans (qS_m _ hi9) hSn
  refine ⟨M, _, _, _, _, ?_, eI_m9 (d_scenes l D _ _ _ _ _ _ _ _ _ _ _ _ _ _ _ _ _ _ _ _ _ _ _ _ _ _ _ _ h_dk h_pr h_pcs h_pc h_es.2.2 h_sl (by omega) (by rw [hxe]; exact hQ)) (fun r L1 g1 h9 => by obtain ⟨hr9, rfl, rfl⟩ := h9; exact ⟨h, hr9.trans (by rw [bgq_upl, hpe])⟩)⟩
  exact ⟨Nat.le_refl _, hbn.2.1.2.2.2, by omega, by omega, by omega, by omega⟩
theorem C_scene (l : Launch) (D : va_G) {z : Nat → Nat} {cB cI_ cO : ClassId} {L : List Nat} {g : hG} {dk : Nat} {T : Nat → Int32} {n : Nat} {Es : List E5} {P : List Q4} {mo lk gs rm M : Nat} (i1 i2 : Int32) (h : cS z cB cI_ cO L g dk T n Es (upl lk P) mo lk gs M) (hi : dI T n Es P mo lk gs rm) : ∃ M2 fr lo mc ms, rB M M2 fr lo mc ms ∧ eI l D yX9_scene cX9_scene 5 (some .int) fr lo mc ms [.ref dk, .int i1, .int i2] z cB cI_ cO L g (fun r L1 g1 => cS z cB cI_ cO L1 g1 dk T n Es (upl lk P) mo lk gs M2) := by
  obtain ⟨a, x, xs, pa, sa, f, hb⟩ := id h
  have h_dk := hb.h_dk
  have h_tp := hb.h_tp
  have h_by := hb.h_by
  have h_rd := hb.h_rd
  have h_els := hb.h_els
  have h_es := hb.h_es
  have h_reo := hb.h_reo
  have h_pr := hb.h_pr
  have h_pcs := hb.h_pcs
  have h_spr := hb.h_spr
  have h_pc := hb.h_pc
  have h_sp := hb.h_sp
  have h_nwh := hb.h_nwh
  have h_lf := hb.h_lf
  have h_gl := hb.h_gl
  have h_ra := hb.h_ra
  have h_fa := hb.h_fa
  have h_la := hb.h_la
  have h_sl := hb.h_sl
  have h_nob := hb.h_nob
  have hbn := hb.hbn
  have h_bs := hb.h_bs
  have h_bz := hb.h_bz
  have hbd := hi.bd
  have hxe : xs.length = Es.length := h_es.1
  have hpe : pa.length = P.length := h_pc.1.trans (upl_len lk P)
  have hE60 := hi.2.1.1
  have hmo1 := hi.1.2.2.1
  have hmo := hi.1.2.2.2.1
  have hn := hi.1.1
  have hTb := hi.1.2.1
  have hlk := hi.1.2.2.2.2
  have hQ : pq_ok Es.length (fun e => Es.getD e dE) (upl lk P) := pq_upl hbd.1
  have hSn : qS (upl lk P) pa.length ≤ 469 := by rw [qS_upl, hpe]; exact hbd.2.1
  have hSb : ∀ i, i ≤ pa.length → qS (upl lk P) i ≤ 469 := fun i hi9 => Nat.le_trans (qS_m _ hi9) hSn
  refine ⟨M, _, _, _, _, ?_, eI_m9 (d_scene l D _ _ _ _ _ _ _ _ _ _ _ _ _ _ _ _ _ _ _ _ _ _ _ _ _ _ _ _ i1 i2 h_dk h_pr h_pcs h_pc h_es.2.2 h_sl hmo1 hmo (by omega) (by rw [hxe]; exact hQ) (by omega)) (fun r L1 g1 h9 => by obtain ⟨hr9, rfl, rfl⟩ := h9; exact h)⟩
  exact ⟨Nat.le_refl _, hbn.2.1.2.2.2, by omega, by omega, by omega, by omega⟩
theorem C_who (l : Launch) (D : va_G) {z : Nat → Nat} {cB cI_ cO : ClassId} {L : List Nat} {g : hG} {dk : Nat} {T : Nat → Int32} {n : Nat} {Es : List E5} {P : List Q4} {mo lk gs rm M : Nat} (i1 i2 : Int32) (h : cS z cB cI_ cO L g dk T n Es (upl lk P) mo lk gs M) (hi : dI T n Es P mo lk gs rm) : ∃ M2 fr lo mc ms, rB M M2 fr lo mc ms ∧ eI l D yX9_who cX9_who 3 (some .int) fr lo mc ms [.ref dk, .int i1, .int i2] z cB cI_ cO L g (fun r L1 g1 => cS z cB cI_ cO L1 g1 dk T n Es (upl lk P) mo lk gs M2) := by
  obtain ⟨a, x, xs, pa, sa, f, hb⟩ := id h
  have h_dk := hb.h_dk
  have h_tp := hb.h_tp
  have h_by := hb.h_by
  have h_rd := hb.h_rd
  have h_els := hb.h_els
  have h_es := hb.h_es
  have h_reo := hb.h_reo
  have h_pr := hb.h_pr
  have h_pcs := hb.h_pcs
  have h_spr := hb.h_spr
  have h_pc := hb.h_pc
  have h_sp := hb.h_sp
  have h_nwh := hb.h_nwh
  have h_lf := hb.h_lf
  have h_gl := hb.h_gl
  have h_ra := hb.h_ra
  have h_fa := hb.h_fa
  have h_la := hb.h_la
  have h_sl := hb.h_sl
  have h_nob := hb.h_nob
  have hbn := hb.hbn
  have h_bs := hb.h_bs
  have h_bz := hb.h_bz
  have hbd := hi.bd
  have hxe : xs.length = Es.length := h_es.1
  have hpe : pa.length = P.length := h_pc.1.trans (upl_len lk P)
  have hE60 := hi.2.1.1
  have hmo1 := hi.1.2.2.1
  have hmo := hi.1.2.2.2.1
  have hn := hi.1.1
  have hTb := hi.1.2.1
  have hlk := hi.1.2.2.2.2
  have hQ : pq_ok Es.length (fun e => Es.getD e dE) (upl lk P) := pq_upl hbd.1
  have hSn : qS (upl lk P) pa.length ≤ 469 := by rw [qS_upl, hpe]; exact hbd.2.1
  have hSb : ∀ i, i ≤ pa.length → qS (upl lk P) i ≤ 469 := fun i hi9 => Nat.le_trans (qS_m _ hi9) hSn
  refine ⟨M, _, _, _, _, ?_, eI_m9 (d_who l D _ _ _ _ _ _ _ _ _ _ _ _ _ _ _ _ _ _ _ _ _ _ _ _ _ _ _ _ i1 i2 h_dk h_pr h_pcs h_pc h_es.2.2 h_sl (by omega) (by rw [hxe]; exact hQ) (by omega)) (fun r L1 g1 h9 => by obtain ⟨hr9, rfl, rfl⟩ := h9; exact h)⟩
  exact ⟨Nat.le_refl _, hbn.2.1.2.2.2, by omega, by omega, by omega, by omega⟩
theorem pa_cv {lk n ne : Nat} {Es : List E5} {P : List Q4} {i1 r : Int32} (hn : n = P.length) (he : ne = Es.length) (h : (¬ (∃ j : Nat, j < ne ∧ i1 = nI j) ∧ r = (-2)) ∨ (∃ j : Nat, j < ne ∧ i1 = nI j ∧ (¬ (Es.getD j dE).1 = 2 ∨ ¬ (Es.getD j dE).2.2.1 = 0) ∧ r = (-3)) ∨ (∃ j : Nat, j < ne ∧ i1 = nI j ∧ ((Es.getD j dE).1 = 2 ∧ (Es.getD j dE).2.2.1 = 0) ∧ r = nI (pcnt (paS (fun e => Es.getD e dE) (upl lk P) n (Es.getD j dE).2.2.2.2) (pcnt (bgq (fun e => Es.getD e dE) (upl lk P) 0) n)))) : paC Es.length Es (fun j => (mgI P P.length).getD j 0) (mgI P P.length).length i1 r := by
  rw [he, hn] at h
  rcases h with h | h | ⟨j, h1, h2, h3, h4⟩
  · exact Or.inl h
  · exact Or.inr (Or.inl h)
  · exact Or.inr (Or.inr ⟨j, h1, h2, h3, by rw [h4, pa_eq, bgq_upl, ← scn_eq]⟩)
theorem C_parts (l : Launch) (D : va_G) {z : Nat → Nat} {cB cI_ cO : ClassId} {L : List Nat} {g : hG} {dk : Nat} {T : Nat → Int32} {n : Nat} {Es : List E5} {P : List Q4} {mo lk gs rm M : Nat} (i1 : Int32) (h : cS z cB cI_ cO L g dk T n Es (upl lk P) mo lk gs M) (hi : dI T n Es P mo lk gs rm) : ∃ M2 fr lo mc ms, rB M M2 fr lo mc ms ∧ eI l D yX9_parts cX9_parts 6 (some .int) fr lo mc ms [.ref dk, .int i1] z cB cI_ cO L g (fun r L1 g1 => cS z cB cI_ cO L1 g1 dk T n Es (upl lk P) mo lk gs M2 ∧ paC Es.length Es (fun j => (mgI P P.length).getD j 0) (mgI P P.length).length i1 r) := by
  obtain ⟨a, x, xs, pa, sa, f, hb⟩ := id h
  have h_dk := hb.h_dk
  have h_tp := hb.h_tp
  have h_by := hb.h_by
  have h_rd := hb.h_rd
  have h_els := hb.h_els
  have h_es := hb.h_es
  have h_reo := hb.h_reo
  have h_pr := hb.h_pr
  have h_pcs := hb.h_pcs
  have h_spr := hb.h_spr
  have h_pc := hb.h_pc
  have h_sp := hb.h_sp
  have h_nwh := hb.h_nwh
  have h_lf := hb.h_lf
  have h_gl := hb.h_gl
  have h_ra := hb.h_ra
  have h_fa := hb.h_fa
  have h_la := hb.h_la
  have h_sl := hb.h_sl
  have h_nob := hb.h_nob
  have hbn := hb.hbn
  have h_bs := hb.h_bs
  have h_bz := hb.h_bz
  have hbd := hi.bd
  have hxe : xs.length = Es.length := h_es.1
  have hpe : pa.length = P.length := h_pc.1.trans (upl_len lk P)
  have hE60 := hi.2.1.1
  have hmo1 := hi.1.2.2.1
  have hmo := hi.1.2.2.2.1
  have hn := hi.1.1
  have hTb := hi.1.2.1
  have hlk := hi.1.2.2.2.2
  have hQ : pq_ok Es.length (fun e => Es.getD e dE) (upl lk P) := pq_upl hbd.1
  have hSn : qS (upl lk P) pa.length ≤ 469 := by rw [qS_upl, hpe]; exact hbd.2.1
  have hSb : ∀ i, i ≤ pa.length → qS (upl lk P) i ≤ 469 := fun i hi9 => Nat.le_trans (qS_m _ hi9) hSn
  refine ⟨M, _, _, _, _, ?_, eI_m9 (d_parts2 l D _ _ _ _ _ _ _ _ _ _ _ _ _ _ _ _ _ _ _ _ _ _ _ _ _ _ _ _ _ _ _ i1 h_dk h_pr h_pcs h_pc h_es.2.2 h_sl h_els (by omega) (by rw [hxe]; exact hQ) (by omega) h_es) (fun r L1 g1 h9 => by obtain ⟨hr9, rfl, rfl⟩ := h9; exact ⟨h, pa_cv hpe hxe hr9⟩)⟩
  exact ⟨Nat.le_refl _, hbn.2.1.2.2.2, by omega, by omega, by omega, by omega⟩
theorem dI.pu {T : Nat → Int32} {n : Nat} {Es : List E5} {P : List Q4} {mo lk gs rm : Nat} (hi : dI T n Es P mo lk gs rm) (c : lk = 0) : pu_ok (fun e => Es.getD e dE) (upl lk P) ∧ P.length = Es.length ∧ ∀ i, i < P.length → ((upl lk P).getD i d4).1 = i := by
  have h := hi.2.2.2.2.1 c
  have hl : P.length = Es.length := by rw [h, upP_len]
  refine ⟨fun i h1 => ?_, hl, fun i h1 => ?_⟩
  · rw [upl_len] at h1
    have h2 := upl_1 lk P i
    rw [h2.1, h2.2.1, h2.2.2, h, upP_at9 Es _ i (by omega)]
    exact ⟨rfl, rfl⟩
  · rw [(upl_1 lk P i).1, h, upP_at9 Es _ i (by omega)]
theorem C_pages (l : Launch) (D : va_G) {z : Nat → Nat} {cB cI_ cO : ClassId} {L : List Nat} {g : hG} {dk : Nat} {T : Nat → Int32} {n : Nat} {Es : List E5} {P : List Q4} {mo lk gs rm M : Nat}  (h : cS z cB cI_ cO L g dk T n Es (upl lk P) mo lk gs M) (hi : dI T n Es P mo lk gs rm) : ∃ M2 fr lo mc ms, rB M M2 fr lo mc ms ∧ eI l D yX9_pages cX9_pages 1 (some .int) fr lo mc ms [.ref dk] z cB cI_ cO L g (fun r L1 g1 => cS z cB cI_ cO L1 g1 dk T n Es (upl lk P) mo lk gs M2 ∧ r = vpg Es P mo lk gs) := by
  obtain ⟨a, x, xs, pa, sa, f, hb⟩ := id h
  have h_dk := hb.h_dk
  have h_tp := hb.h_tp
  have h_by := hb.h_by
  have h_rd := hb.h_rd
  have h_els := hb.h_els
  have h_es := hb.h_es
  have h_reo := hb.h_reo
  have h_pr := hb.h_pr
  have h_pcs := hb.h_pcs
  have h_spr := hb.h_spr
  have h_pc := hb.h_pc
  have h_sp := hb.h_sp
  have h_nwh := hb.h_nwh
  have h_lf := hb.h_lf
  have h_gl := hb.h_gl
  have h_ra := hb.h_ra
  have h_fa := hb.h_fa
  have h_la := hb.h_la
  have h_sl := hb.h_sl
  have h_nob := hb.h_nob
  have hbn := hb.hbn
  have h_bs := hb.h_bs
  have h_bz := hb.h_bz
  have hbd := hi.bd
  have hxe : xs.length = Es.length := h_es.1
  have hpe : pa.length = P.length := h_pc.1.trans (upl_len lk P)
  have hE60 := hi.2.1.1
  have hmo1 := hi.1.2.2.1
  have hmo := hi.1.2.2.2.1
  have hn := hi.1.1
  have hTb := hi.1.2.1
  have hlk := hi.1.2.2.2.2
  have hQ : pq_ok Es.length (fun e => Es.getD e dE) (upl lk P) := pq_upl hbd.1
  have hSn : qS (upl lk P) pa.length ≤ 469 := by rw [qS_upl, hpe]; exact hbd.2.1
  have hSb : ∀ i, i ≤ pa.length → qS (upl lk P) i ≤ 469 := fun i hi9 => Nat.le_trans (qS_m _ hi9) hSn
  rcases (show lk = 0 ∨ lk = 1 by omega) with c | c
  · obtain ⟨hU, hp60, hpi⟩ := hi.pu c
    have h_bs2 := h_bs c
    rw [← h_pc.1] at h_bs2
    subst c
    refine ⟨M, _, _, _, _, ?_, eI_m9 (d_pagesU l D _ _ _ _ _ _ _ _ _ _ _ _ _ _ _ _ _ _ _ _ _ _ _ _ _ _ _ _ _ _ _ _ _ _ h_dk h_pr h_pcs h_pc h_es.2.2 h_lf h_bs2 (by omega) (by omega) (by rw [hxe]; exact hQ) (hU) (fun i hi9 => Nat.le_trans (hSb i hi9) (by decide)) hmo1 hmo) (fun r L1 g1 h9 => ?_)⟩
    · exact ⟨Nat.le_refl _, hbn.2.1.2.2.2, by omega, by omega, by omega, by omega⟩
    · obtain ⟨y9, y10, u1, u2, u3, u4, u5, u6, C, cn, hr9, hfr, hk9, hl9⟩ := h9
      have hv9 : r = vpg Es P mo 0 gs := by rw [hr9, hk9.cn, upl_0, hpe]; exact (vpg_U rfl).symm
      exact ⟨⟨a, (va_up (va_up (va_up (va_up (va_up (va_up x 2 u1) 3 u2) 4 u3) 5 u4) 6 u5) 7 u6), xs, pa, sa, f, (h_dk.fr hfr (nm9 rfl)), (h_tp.fr hfr (nm9 rfl)), (h_by.fr hfr (nm9 rfl)), (h_rd.fr hfr (nm9 rfl)), (h_els.fr hfr (nm9 rfl) (nm9 rfl)), (h_es.frd hfr ⟨⟨rfl, rfl⟩, rfl, rfl⟩), (h_reo.fr hfr (nm9 rfl) (nm9 rfl)), (h_pr.fr hfr (nm9 rfl)), (h_pcs.fr hfr (nm9 rfl) (nm9 rfl)), (h_spr.fr hfr (nm9 rfl) (nm9 rfl)), (h_pc.frd hfr rfl), (h_sp.frd hfr rfl), (h_nwh.fr hfr (nm9 rfl)), hl9, (h_gl.fr hfr (nm9 rfl)), (h_ra.fr hfr (nm9 rfl)), (h_fa.fr hfr (nm9 rfl)), (h_la.fr hfr (nm9 rfl)), (h_sl.fr hfr (nm9 rfl)), (h_nob.fr hfr (nm9 rfl)), hbn, (fun _ => by rw [← h_pc.1]; exact Or.inr ⟨y9, y10, C, cn, hk9⟩), hk9.z⟩, hv9⟩
  · subst c
    refine ⟨M, _, _, _, _, ?_, eI_m9 (d_pagesL l D _ _ _ _ _ _ _ _ _ _ _ _ _ _ _ _ _ _ h_dk) (fun r L1 g1 h9 => by obtain ⟨hr9, rfl, rfl⟩ := h9; exact ⟨h, hr9.trans (by rw [hbn.2.2 (by decide)]; exact (vpg_L (by decide)).symm)⟩)⟩
    exact ⟨Nat.le_refl _, hbn.2.1.2.2.2, by omega, by omega, by omega, by omega⟩
theorem C_cost (l : Launch) (D : va_G) {z : Nat → Nat} {cB cI_ cO : ClassId} {L : List Nat} {g : hG} {dk : Nat} {T : Nat → Int32} {n : Nat} {Es : List E5} {P : List Q4} {mo lk gs rm M : Nat}  (h : cS z cB cI_ cO L g dk T n Es (upl lk P) mo lk gs M) (hi : dI T n Es P mo lk gs rm) : ∃ M2 fr lo mc ms, rB M M2 fr lo mc ms ∧ eI l D yX9_cost cX9_cost 1 (some .int) fr lo mc ms [.ref dk] z cB cI_ cO L g (fun r L1 g1 => cS z cB cI_ cO L1 g1 dk T n Es (upl lk P) mo lk gs M2 ∧ r = vco Es P mo lk gs) := by
  obtain ⟨a, x, xs, pa, sa, f, hb⟩ := id h
  have h_dk := hb.h_dk
  have h_tp := hb.h_tp
  have h_by := hb.h_by
  have h_rd := hb.h_rd
  have h_els := hb.h_els
  have h_es := hb.h_es
  have h_reo := hb.h_reo
  have h_pr := hb.h_pr
  have h_pcs := hb.h_pcs
  have h_spr := hb.h_spr
  have h_pc := hb.h_pc
  have h_sp := hb.h_sp
  have h_nwh := hb.h_nwh
  have h_lf := hb.h_lf
  have h_gl := hb.h_gl
  have h_ra := hb.h_ra
  have h_fa := hb.h_fa
  have h_la := hb.h_la
  have h_sl := hb.h_sl
  have h_nob := hb.h_nob
  have hbn := hb.hbn
  have h_bs := hb.h_bs
  have h_bz := hb.h_bz
  have hbd := hi.bd
  have hxe : xs.length = Es.length := h_es.1
  have hpe : pa.length = P.length := h_pc.1.trans (upl_len lk P)
  have hE60 := hi.2.1.1
  have hmo1 := hi.1.2.2.1
  have hmo := hi.1.2.2.2.1
  have hn := hi.1.1
  have hTb := hi.1.2.1
  have hlk := hi.1.2.2.2.2
  have hQ : pq_ok Es.length (fun e => Es.getD e dE) (upl lk P) := pq_upl hbd.1
  have hSn : qS (upl lk P) pa.length ≤ 469 := by rw [qS_upl, hpe]; exact hbd.2.1
  have hSb : ∀ i, i ≤ pa.length → qS (upl lk P) i ≤ 469 := fun i hi9 => Nat.le_trans (qS_m _ hi9) hSn
  rcases (show lk = 0 ∨ lk = 1 by omega) with c | c
  · obtain ⟨hU, hp60, hpi⟩ := hi.pu c
    have h_bs2 := h_bs c
    rw [← h_pc.1] at h_bs2
    subst c
    refine ⟨M, _, _, _, _, ?_, eI_m9 (d_costU l D _ _ _ _ _ _ _ _ _ _ _ _ _ _ _ _ _ _ _ _ _ _ _ _ _ _ _ _ _ _ _ _ _ _ h_dk h_pr h_pcs h_pc h_es.2.2 h_lf h_bs2 (by omega) (by omega) (by rw [hxe]; exact hQ) (hU) (fun i hi9 => Nat.le_trans (hSb i hi9) (by decide)) hmo1 hmo) (fun r L1 g1 h9 => ?_)⟩
    · exact ⟨Nat.le_refl _, hbn.2.1.2.2.2, by omega, by omega, by omega, by omega⟩
    · obtain ⟨hr9, y9, y10, u1, u2, u3, u4, u5, u6, C, cn, hfr, hk9, hl9⟩ := h9
      have hv9 : r = vco Es P mo 0 gs := by rw [hr9, upl_0, hpe]; exact (vco_U rfl).symm
      exact ⟨⟨a, (va_up (va_up (va_up (va_up (va_up (va_up x 2 u1) 3 u2) 4 u3) 5 u4) 6 u5) 7 u6), xs, pa, sa, f, (h_dk.fr hfr (nm9 rfl)), (h_tp.fr hfr (nm9 rfl)), (h_by.fr hfr (nm9 rfl)), (h_rd.fr hfr (nm9 rfl)), (h_els.fr hfr (nm9 rfl) (nm9 rfl)), (h_es.frd hfr ⟨⟨rfl, rfl⟩, rfl, rfl⟩), (h_reo.fr hfr (nm9 rfl) (nm9 rfl)), (h_pr.fr hfr (nm9 rfl)), (h_pcs.fr hfr (nm9 rfl) (nm9 rfl)), (h_spr.fr hfr (nm9 rfl) (nm9 rfl)), (h_pc.frd hfr rfl), (h_sp.frd hfr rfl), (h_nwh.fr hfr (nm9 rfl)), hl9, (h_gl.fr hfr (nm9 rfl)), (h_ra.fr hfr (nm9 rfl)), (h_fa.fr hfr (nm9 rfl)), (h_la.fr hfr (nm9 rfl)), (h_sl.fr hfr (nm9 rfl)), (h_nob.fr hfr (nm9 rfl)), hbn, (fun _ => by rw [← h_pc.1]; exact Or.inr ⟨y9, y10, C, cn, hk9⟩), hk9.z⟩, hv9⟩
  · subst c
    refine ⟨M, _, _, _, _, ?_, eI_m9 (d_costL l D _ _ _ _ _ _ _ _ _ _ _ _ _ _ _ _ _ _ h_dk) (fun r L1 g1 h9 => by obtain ⟨hr9, rfl, rfl⟩ := h9; exact ⟨h, hr9.trans (vco_L (by decide)).symm⟩)⟩
    exact ⟨Nat.le_refl _, hbn.2.1.2.2.2, by omega, by omega, by omega, by omega⟩
theorem C_page (l : Launch) (D : va_G) {z : Nat → Nat} {cB cI_ cO : ClassId} {L : List Nat} {g : hG} {dk : Nat} {T : Nat → Int32} {n : Nat} {Es : List E5} {P : List Q4} {mo lk gs rm M : Nat} (i1 i2 : Int32) (h : cS z cB cI_ cO L g dk T n Es (upl lk P) mo lk gs M) (hi : dI T n Es P mo lk gs rm) : ∃ M2 fr lo mc ms, rB M M2 fr lo mc ms ∧ eI l D yX9_page cX9_page 3 (some .int) fr lo mc ms [.ref dk, .int i1, .int i2] z cB cI_ cO L g (fun r L1 g1 => cS z cB cI_ cO L1 g1 dk T n Es (upl lk P) mo lk gs M2 ∧ pgC lk (pgl (fun e => Es.getD e dE) P P.length mo) P.length (fun p => (P.getD p d4).2.2.1 - (P.getD p d4).2.1) (qK (fun e => Es.getD e dE) P) i1 i2 r) := by
  obtain ⟨a, x, xs, pa, sa, f, hb⟩ := id h
  have h_dk := hb.h_dk
  have h_tp := hb.h_tp
  have h_by := hb.h_by
  have h_rd := hb.h_rd
  have h_els := hb.h_els
  have h_es := hb.h_es
  have h_reo := hb.h_reo
  have h_pr := hb.h_pr
  have h_pcs := hb.h_pcs
  have h_spr := hb.h_spr
  have h_pc := hb.h_pc
  have h_sp := hb.h_sp
  have h_nwh := hb.h_nwh
  have h_lf := hb.h_lf
  have h_gl := hb.h_gl
  have h_ra := hb.h_ra
  have h_fa := hb.h_fa
  have h_la := hb.h_la
  have h_sl := hb.h_sl
  have h_nob := hb.h_nob
  have hbn := hb.hbn
  have h_bs := hb.h_bs
  have h_bz := hb.h_bz
  have hbd := hi.bd
  have hxe : xs.length = Es.length := h_es.1
  have hpe : pa.length = P.length := h_pc.1.trans (upl_len lk P)
  have hE60 := hi.2.1.1
  have hmo1 := hi.1.2.2.1
  have hmo := hi.1.2.2.2.1
  have hn := hi.1.1
  have hTb := hi.1.2.1
  have hlk := hi.1.2.2.2.2
  have hQ : pq_ok Es.length (fun e => Es.getD e dE) (upl lk P) := pq_upl hbd.1
  have hSn : qS (upl lk P) pa.length ≤ 469 := by rw [qS_upl, hpe]; exact hbd.2.1
  have hSb : ∀ i, i ≤ pa.length → qS (upl lk P) i ≤ 469 := fun i hi9 => Nat.le_trans (qS_m _ hi9) hSn
  rcases (show lk = 0 ∨ lk = 1 by omega) with c | c
  · obtain ⟨hU, hp60, hpi⟩ := hi.pu c
    have h_bs2 := h_bs c
    rw [← h_pc.1] at h_bs2
    subst c
    refine ⟨M, _, _, _, _, ?_, eI_m9 (d_pageU2 l D _ _ _ _ _ _ _ _ _ _ _ _ _ _ _ _ _ _ _ _ _ _ _ _ _ _ _ _ _ _ _ _ _ _ i1 i2 h_dk h_pr h_pcs h_pc h_es.2.2 h_lf h_bs2 (by omega) (by omega) (by rw [hxe]; exact hQ) (hU) (fun i hi9 => Nat.le_trans (hSb i hi9) (by decide)) hmo1 hmo) (fun r L1 g1 h9 => ?_)⟩
    · exact ⟨Nat.le_refl _, hbn.2.1.2.2.2, by omega, by omega, by omega, by omega⟩
    · obtain ⟨hr9, h9⟩ := h9
      rw [upl_0, hpe] at hr9
      rcases h9 with ⟨rfl, rfl⟩ | ⟨y9, y10, u1, u2, u3, u4, u5, u6, C, cn, hfr, hk9, hl9⟩
      · exact ⟨h, hr9⟩
      · exact ⟨⟨a, (va_up (va_up (va_up (va_up (va_up (va_up x 2 u1) 3 u2) 4 u3) 5 u4) 6 u5) 7 u6), xs, pa, sa, f, (h_dk.fr hfr (nm9 rfl)), (h_tp.fr hfr (nm9 rfl)), (h_by.fr hfr (nm9 rfl)), (h_rd.fr hfr (nm9 rfl)), (h_els.fr hfr (nm9 rfl) (nm9 rfl)), (h_es.frd hfr ⟨⟨rfl, rfl⟩, rfl, rfl⟩), (h_reo.fr hfr (nm9 rfl) (nm9 rfl)), (h_pr.fr hfr (nm9 rfl)), (h_pcs.fr hfr (nm9 rfl) (nm9 rfl)), (h_spr.fr hfr (nm9 rfl) (nm9 rfl)), (h_pc.frd hfr rfl), (h_sp.frd hfr rfl), (h_nwh.fr hfr (nm9 rfl)), hl9, (h_gl.fr hfr (nm9 rfl)), (h_ra.fr hfr (nm9 rfl)), (h_fa.fr hfr (nm9 rfl)), (h_la.fr hfr (nm9 rfl)), (h_sl.fr hfr (nm9 rfl)), (h_nob.fr hfr (nm9 rfl)), hbn, (fun _ => by rw [← h_pc.1]; exact Or.inr ⟨y9, y10, C, cn, hk9⟩), hk9.z⟩, hr9⟩
  · subst c
    refine ⟨M, _, _, _, _, ?_, eI_m9 (d_pageL2 l D _ _ _ _ _ _ _ _ _ _ _ _ _ _ _ _ _ _ _ _ h_dk) (fun r L1 g1 h9 => by obtain ⟨hr9, rfl, rfl⟩ := h9; exact ⟨h, hr9 _ _ _ _⟩)⟩
    exact ⟨Nat.le_refl _, hbn.2.1.2.2.2, by omega, by omega, by omega, by omega⟩
theorem C_feed (l : Launch) (D : va_G) {z : Nat → Nat} {cB cI_ cO : ClassId} {L : List Nat} {g : hG} {dk : Nat} {T : Nat → Int32} {n : Nat} {Es : List E5} {P : List Q4} {mo lk gs rm M : Nat} (w : Int64) (x3 : Int32) (h : cS z cB cI_ cO L g dk T n Es (upl lk P) mo lk gs M) (hi : dI T n Es P mo lk gs rm) : ∃ M2 fr lo mc ms, rB M M2 fr lo mc ms ∧ eI l D yX9_feed cX9_feed 5 (some .int) fr lo mc ms [.ref dk, .long w, .int x3] z cB cI_ cO L g (fun r L1 g1 => ∃ (n2 : Nat) (T2 : Nat → Int32), cS z cB cI_ cO L1 g1 dk T2 n2 Es (upl lk P) mo lk gs M2 ∧ fdC w x3 n T r n2 T2) := by
  obtain ⟨a, x, xs, pa, sa, f, hb⟩ := id h
  have h_dk := hb.h_dk
  have h_tp := hb.h_tp
  have h_by := hb.h_by
  have h_rd := hb.h_rd
  have h_els := hb.h_els
  have h_es := hb.h_es
  have h_reo := hb.h_reo
  have h_pr := hb.h_pr
  have h_pcs := hb.h_pcs
  have h_spr := hb.h_spr
  have h_pc := hb.h_pc
  have h_sp := hb.h_sp
  have h_nwh := hb.h_nwh
  have h_lf := hb.h_lf
  have h_gl := hb.h_gl
  have h_ra := hb.h_ra
  have h_fa := hb.h_fa
  have h_la := hb.h_la
  have h_sl := hb.h_sl
  have h_nob := hb.h_nob
  have hbn := hb.hbn
  have h_bs := hb.h_bs
  have h_bz := hb.h_bz
  have hbd := hi.bd
  have hxe : xs.length = Es.length := h_es.1
  have hpe : pa.length = P.length := h_pc.1.trans (upl_len lk P)
  have hE60 := hi.2.1.1
  have hmo1 := hi.1.2.2.1
  have hmo := hi.1.2.2.2.1
  have hn := hi.1.1
  have hTb := hi.1.2.1
  have hlk := hi.1.2.2.2.2
  have hQ : pq_ok Es.length (fun e => Es.getD e dE) (upl lk P) := pq_upl hbd.1
  have hSn : qS (upl lk P) pa.length ≤ 469 := by rw [qS_upl, hpe]; exact hbd.2.1
  have hSb : ∀ i, i ≤ pa.length → qS (upl lk P) i ≤ 469 := fun i hi9 => Nat.le_trans (qS_m _ hi9) hSn
  refine ⟨M, _, _, _, _, ?_, eI_m9 (d_feed l D _ _ _ _ _ _ _ _ _ _ _ _ _ _ _ _ _ _ _ _ _ _ w x3 h_dk h_tp h_by hn) (fun r L1 g1 h9 => ?_)⟩
  · exact ⟨Nat.le_refl _, hbn.2.1.2.2.2, by omega, by omega, by omega, by omega⟩
  · rcases h9 with ⟨h1, h8, rfl, rfl⟩ | ⟨kn, h1, h2, h3, h8, rfl, rfl⟩ | ⟨kn, n2, T2, h1, h2, h3, h4, h5, h8, hfr, t1, t2⟩
    · exact ⟨n, T, h, Or.inl ⟨h1, h8, rfl, rfl⟩⟩
    · exact ⟨n, T, h, Or.inr (Or.inl ⟨kn, h1, h2, h3, h8, rfl, rfl⟩)⟩
    · exact ⟨n2, T2, ⟨a, x, xs, pa, sa, f, (h_dk.fr hfr (nm9 rfl)), t1, t2, (h_rd.fr hfr (nm9 rfl)), (h_els.fr hfr (nm9 rfl) (nm9 rfl)), (h_es.frd hfr ⟨⟨rfl, rfl⟩, rfl, rfl⟩), (h_reo.fr hfr (nm9 rfl) (nm9 rfl)), (h_pr.fr hfr (nm9 rfl)), (h_pcs.fr hfr (nm9 rfl) (nm9 rfl)), (h_spr.fr hfr (nm9 rfl) (nm9 rfl)), (h_pc.frd hfr rfl), (h_sp.frd hfr rfl), (h_nwh.fr hfr (nm9 rfl)), (h_lf.fr hfr (nm9 rfl)), (h_gl.fr hfr (nm9 rfl)), (h_ra.fr hfr (nm9 rfl)), (h_fa.fr hfr (nm9 rfl)), (h_la.fr hfr (nm9 rfl)), (h_sl.fr hfr (nm9 rfl)), (h_nob.fr hfr (nm9 rfl)), hbn, (fun h9 => (h_bs h9).fr hfr ⟨⟨nm9 rfl, nm9 rfl⟩, nm9 rfl, nm9 rfl⟩), (h_bz.fr hfr ⟨⟨nm9 rfl, nm9 rfl⟩, nm9 rfl, nm9 rfl⟩)⟩, Or.inr (Or.inr ⟨kn, h1, h2, h3, h8, h4⟩)⟩
theorem C_cut (l : Launch) (D : va_G) {z : Nat → Nat} {cB cI_ cO : ClassId} {L : List Nat} {g : hG} {dk : Nat} {T : Nat → Int32} {n : Nat} {Es : List E5} {P : List Q4} {mo lk gs rm M : Nat} (i1 : Int32) (h : cS z cB cI_ cO L g dk T n Es (upl lk P) mo lk gs M) (hi : dI T n Es P mo lk gs rm) : ∃ M2 fr lo mc ms, rB M M2 fr lo mc ms ∧ eI l D yX9_cut cX9_cut 3 (some .int) fr lo mc ms [.ref dk, .int i1] z cB cI_ cO L g (fun r L1 g1 => ∃ n2 : Nat, cS z cB cI_ cO L1 g1 dk T n2 Es (upl lk P) mo lk gs M2 ∧ ctC i1 n r n2) := by
  obtain ⟨a, x, xs, pa, sa, f, hb⟩ := id h
  have h_dk := hb.h_dk
  have h_tp := hb.h_tp
  have h_by := hb.h_by
  have h_rd := hb.h_rd
  have h_els := hb.h_els
  have h_es := hb.h_es
  have h_reo := hb.h_reo
  have h_pr := hb.h_pr
  have h_pcs := hb.h_pcs
  have h_spr := hb.h_spr
  have h_pc := hb.h_pc
  have h_sp := hb.h_sp
  have h_nwh := hb.h_nwh
  have h_lf := hb.h_lf
  have h_gl := hb.h_gl
  have h_ra := hb.h_ra
  have h_fa := hb.h_fa
  have h_la := hb.h_la
  have h_sl := hb.h_sl
  have h_nob := hb.h_nob
  have hbn := hb.hbn
  have h_bs := hb.h_bs
  have h_bz := hb.h_bz
  have hbd := hi.bd
  have hxe : xs.length = Es.length := h_es.1
  have hpe : pa.length = P.length := h_pc.1.trans (upl_len lk P)
  have hE60 := hi.2.1.1
  have hmo1 := hi.1.2.2.1
  have hmo := hi.1.2.2.2.1
  have hn := hi.1.1
  have hTb := hi.1.2.1
  have hlk := hi.1.2.2.2.2
  have hQ : pq_ok Es.length (fun e => Es.getD e dE) (upl lk P) := pq_upl hbd.1
  have hSn : qS (upl lk P) pa.length ≤ 469 := by rw [qS_upl, hpe]; exact hbd.2.1
  have hSb : ∀ i, i ≤ pa.length → qS (upl lk P) i ≤ 469 := fun i hi9 => Nat.le_trans (qS_m _ hi9) hSn
  refine ⟨M, _, _, _, _, ?_, eI_m9 (d_cut l D _ _ _ _ _ _ _ _ _ _ _ _ _ _ _ _ _ _ _ _ _ _ i1 h_dk h_tp h_by hn) (fun r L1 g1 h9 => ?_)⟩
  · exact ⟨Nat.le_refl _, hbn.2.1.2.2.2, by omega, by omega, by omega, by omega⟩
  · rcases h9 with ⟨h1, h8, rfl, rfl⟩ | ⟨h1, h2, h8, rfl, rfl⟩ | ⟨h1, h2, h8, hfr, n2, h3, h4, t1⟩
    · exact ⟨n, h, Or.inl ⟨Or.inl h1, h8, rfl⟩⟩
    · exact ⟨n, h, Or.inl ⟨Or.inr h2, h8, rfl⟩⟩
    · exact ⟨n2, ⟨a, x, xs, pa, sa, f, (h_dk.fr hfr (nm9 rfl)), t1, (h_by.fr hfr (nm9 rfl)), (h_rd.fr hfr (nm9 rfl)), (h_els.fr hfr (nm9 rfl) (nm9 rfl)), (h_es.frd hfr ⟨⟨rfl, rfl⟩, rfl, rfl⟩), (h_reo.fr hfr (nm9 rfl) (nm9 rfl)), (h_pr.fr hfr (nm9 rfl)), (h_pcs.fr hfr (nm9 rfl) (nm9 rfl)), (h_spr.fr hfr (nm9 rfl) (nm9 rfl)), (h_pc.frd hfr rfl), (h_sp.frd hfr rfl), (h_nwh.fr hfr (nm9 rfl)), (h_lf.fr hfr (nm9 rfl)), (h_gl.fr hfr (nm9 rfl)), (h_ra.fr hfr (nm9 rfl)), (h_fa.fr hfr (nm9 rfl)), (h_la.fr hfr (nm9 rfl)), (h_sl.fr hfr (nm9 rfl)), (h_nob.fr hfr (nm9 rfl)), hbn, (fun h9 => (h_bs h9).fr hfr ⟨⟨nm9 rfl, nm9 rfl⟩, nm9 rfl, nm9 rfl⟩), (h_bz.fr hfr ⟨⟨nm9 rfl, nm9 rfl⟩, nm9 rfl, nm9 rfl⟩)⟩, Or.inr ⟨h1, h2, h8, h3, h4⟩⟩
theorem C_length (l : Launch) (D : va_G) {z : Nat → Nat} {cB cI_ cO : ClassId} {L : List Nat} {g : hG} {dk : Nat} {T : Nat → Int32} {n : Nat} {Es : List E5} {P : List Q4} {mo lk gs rm M : Nat} (i1 : Int32) (h : cS z cB cI_ cO L g dk T n Es (upl lk P) mo lk gs M) (hi : dI T n Es P mo lk gs rm) : ∃ M2 fr lo mc ms, rB M M2 fr lo mc ms ∧ eI l D yX9_length cX9_length 3 (some .int) fr lo mc ms [.ref dk, .int i1] z cB cI_ cO L g (fun r L1 g1 => ∃ mo2 : Nat, cS z cB cI_ cO L1 g1 dk T n Es (upl lk P) mo2 lk gs M2 ∧ ((i1 < 10 ∧ r = (-2) ∧ mo2 = mo) ∨ (¬ i1 < 10 ∧ 40 < i1 ∧ r = (-2) ∧ mo2 = mo) ∨ (¬ i1 < 10 ∧ ¬ 40 < i1 ∧ 0 < lk ∧ r = (-3) ∧ mo2 = mo) ∨ (¬ i1 < 10 ∧ ¬ 40 < i1 ∧ lk = 0 ∧ r = nI mo ∧ i1 = nI mo2 ∧ 10 ≤ mo2 ∧ mo2 ≤ 40))) := by
  obtain ⟨a, x, xs, pa, sa, f, hb⟩ := id h
  have h_dk := hb.h_dk
  have h_tp := hb.h_tp
  have h_by := hb.h_by
  have h_rd := hb.h_rd
  have h_els := hb.h_els
  have h_es := hb.h_es
  have h_reo := hb.h_reo
  have h_pr := hb.h_pr
  have h_pcs := hb.h_pcs
  have h_spr := hb.h_spr
  have h_pc := hb.h_pc
  have h_sp := hb.h_sp
  have h_nwh := hb.h_nwh
  have h_lf := hb.h_lf
  have h_gl := hb.h_gl
  have h_ra := hb.h_ra
  have h_fa := hb.h_fa
  have h_la := hb.h_la
  have h_sl := hb.h_sl
  have h_nob := hb.h_nob
  have hbn := hb.hbn
  have h_bs := hb.h_bs
  have h_bz := hb.h_bz
  have hbd := hi.bd
  have hxe : xs.length = Es.length := h_es.1
  have hpe : pa.length = P.length := h_pc.1.trans (upl_len lk P)
  have hE60 := hi.2.1.1
  have hmo1 := hi.1.2.2.1
  have hmo := hi.1.2.2.2.1
  have hn := hi.1.1
  have hTb := hi.1.2.1
  have hlk := hi.1.2.2.2.2
  have hQ : pq_ok Es.length (fun e => Es.getD e dE) (upl lk P) := pq_upl hbd.1
  have hSn : qS (upl lk P) pa.length ≤ 469 := by rw [qS_upl, hpe]; exact hbd.2.1
  have hSb : ∀ i, i ≤ pa.length → qS (upl lk P) i ≤ 469 := fun i hi9 => Nat.le_trans (qS_m _ hi9) hSn
  obtain ⟨bop, cf, nx, bn, bs, Mb, y7, y8, y9, y10, fb, fc, fn, h_bk, h_bop, h_cf, h_nx, hMb⟩ := id h_bz
  refine ⟨M, _, _, _, _, ?_, eI_m9 (d_length l D _ _ _ _ _ _ _ _ _ _ _ _ _ _ _ _ _ _ _ _ _ _ _ _ _ _ _ _ _ i1 h_dk h_bk hlk) (fun r L1 g1 h9 => ?_)⟩
  · exact ⟨Nat.le_refl _, hbn.2.1.2.2.2, by omega, by omega, by omega, by omega⟩
  · rcases h9 with ⟨h1, h8, rfl, rfl⟩ | ⟨h1, h2, h8, rfl, rfl⟩ | ⟨h1, h2, h3, h8, rfl, rfl⟩ | ⟨h1, h2, h3, h8, hfr, t1, t2⟩
    · exact ⟨mo, h, Or.inl ⟨h1, h8, rfl⟩⟩
    · exact ⟨mo, h, Or.inr (Or.inl ⟨h1, h2, h8, rfl⟩)⟩
    · exact ⟨mo, h, Or.inr (Or.inr (Or.inl ⟨h1, h2, h3, h8, rfl⟩))⟩
    · obtain ⟨m2, e1, e2, e3⟩ := ln_in h1 h2
      rw [e1] at t1
      have b1 := h_bop.fr hfr (nm9 rfl)
      have b2 := h_cf.fr hfr (nm9 rfl)
      have b3 := h_nx.fr hfr (nm9 rfl)
      exact ⟨m2, ⟨a, x, xs, pa, sa, f, t1, (h_tp.fr hfr (nm9 rfl)), (h_by.fr hfr (nm9 rfl)), (h_rd.fr hfr (nm9 rfl)), (h_els.fr hfr (nm9 rfl) (nm9 rfl)), (h_es.frd hfr ⟨⟨rfl, rfl⟩, rfl, rfl⟩), (h_reo.fr hfr (nm9 rfl) (nm9 rfl)), (h_pr.fr hfr (nm9 rfl)), (h_pcs.fr hfr (nm9 rfl) (nm9 rfl)), (h_spr.fr hfr (nm9 rfl) (nm9 rfl)), (h_pc.frd hfr rfl), (h_sp.frd hfr rfl), (h_nwh.fr hfr (nm9 rfl)), (h_lf.fr hfr (nm9 rfl)), (h_gl.fr hfr (nm9 rfl)), (h_ra.fr hfr (nm9 rfl)), (h_fa.fr hfr (nm9 rfl)), (h_la.fr hfr (nm9 rfl)), (h_sl.fr hfr (nm9 rfl)), (h_nob.fr hfr (nm9 rfl)), hbn, (fun _ => Or.inl ⟨bop, cf, nx, bn, bs, Mb, y8, y9, y10, fb, fc, fn, t2, b1, b2, b3, hMb⟩), ⟨bop, cf, nx, bn, bs, Mb, 0, y8, y9, y10, fb, fc, fn, t2, b1, b2, b3, hMb⟩⟩, Or.inr (Or.inr (Or.inr ⟨h1, h2, h3, h8, e1, e2, e3⟩))⟩
theorem nm_eq {EE : Nat → E5} {P : List Q4} {Gp : Nat → Nat} {pn mo gg : Nat} : (gl_S EE P (rg_first Gp gg pn 0) (rg_first Gp (gg + 1) pn 0) mo).length = rs_nm (qK EE P) (qF P) (qT P) (qR EE P) Gp pn mo gg := by
  unfold gl_S rs_nm rs_num
  rw [rs_cnt_sh]
  by_cases c : rg_first Gp gg pn 0 < rg_first Gp (gg + 1) pn 0
  · rw [if_pos c, if_neg]
    show ¬ (rs_sh _ _ _ _ _ _ _ (7999 + 1) _ _).length = 0
    unfold rs_sh
    rw [if_pos c, List.length_cons]
    omega
  · rw [if_neg c, rs_sh_out c]
    rfl
theorem gl_upl {EE : Nat → E5} {P : List Q4} {mo g : Nat} : gl_S EE (upl 1 P) (rg_first (fun t => ((upl 1 P).getD t d4).2.2.2) (g + 1) P.length 0) (rg_first (fun t => ((upl 1 P).getD t d4).2.2.2) (g + 1 + 1) P.length 0) mo = gl_S EE P (rg_first (fun p => (P.getD p d4).2.2.2) g P.length 0) (rg_first (fun p => (P.getD p d4).2.2.2) (g + 1) P.length 0) mo := by
  have r1 := rg_upl (lk := 1) (g := g) (n := P.length) (P := P) (Nat.le_refl _)
  have r2 := rg_upl (lk := 1) (g := g + 1) (n := P.length) (P := P) (Nat.le_refl _)
  unfold gl_S
  rw [qK_upl, qF_upl, qT_upl, qR_upl, r1, r2]
theorem nm_upl {EE : Nat → E5} {P : List Q4} {mo g : Nat} : (gl_S EE (upl 1 P) (rg_first (fun t => ((upl 1 P).getD t d4).2.2.2) (g + 1) P.length 0) (rg_first (fun t => ((upl 1 P).getD t d4).2.2.2) (g + 1 + 1) P.length 0) mo).length = rs_nm (qK EE P) (qF P) (qT P) (qR EE P) (fun p => (P.getD p d4).2.2.2) P.length mo g := by
  rw [nm_eq, qK_upl, qF_upl, qT_upl, qR_upl]
  unfold rs_nm rs_num
  have r1 := rg_upl (lk := 1) (g := g) (n := P.length) (P := P) (Nat.le_refl _)
  have r2 := rg_upl (lk := 1) (g := g + 1) (n := P.length) (P := P) (Nat.le_refl _)
  rw [r1, r2]
theorem dI.go {T : Nat → Int32} {n : Nat} {Es : List E5} {P : List Q4} {mo lk gs rm : Nat} (hi : dI T n Es P mo lk gs rm) (c : 0 < lk) : grp_ok (fun e => Es.getD e dE) (upl lk P) P.length := by
  have h := grp_of (EE := fun e => Es.getD e dE) (prS_upl lk (hi.2.2.2.2.2 c).1)
  rw [upl_len] at h
  exact h
theorem dI.gu {T : Nat → Int32} {n : Nat} {Es : List E5} {P : List Q4} {mo lk gs rm : Nat} (hi : dI T n Es P mo lk gs rm) : ∀ t, t < P.length → ((upl lk P).getD t d4).2.2.2 ≤ 470 := by
  intro t ht
  have h1 := hi.gb t ht
  have h2 := hi.1.2.2.2.2
  rw [upl_at ht]
  show (P.getD t d4).2.2.2 + lk ≤ 470
  omega
theorem glx_9 {Es : List E5} {P : List Q4} {ne fi en mo M : Nat} (hQ : pq_ok ne (fun e => Es.getD e dE) P) (hen : en ≤ P.length) (hmo1 : 10 ≤ mo) (hmo : mo ≤ 40) (hM1 : 1 ≤ M) (hM : M ≤ 1000) (hS : qS P P.length ≤ 469) : glx M 0 (gl_S (fun e => Es.getD e dE) P fi en mo) ≤ 1000 := by
  rcases glx_b (fi := fi) hQ hen hmo1 hmo rfl hM1 with h | h | h <;> omega
theorem C_sheets (l : Launch) (D : va_G) {z : Nat → Nat} {cB cI_ cO : ClassId} {L : List Nat} {g : hG} {dk : Nat} {T : Nat → Int32} {n : Nat} {Es : List E5} {P : List Q4} {mo lk gs rm M : Nat} (i1 : Int32) (h : cS z cB cI_ cO L g dk T n Es (upl lk P) mo lk gs M) (hi : dI T n Es P mo lk gs rm) : ∃ M2 fr lo mc ms, rB M M2 fr lo mc ms ∧ eI l D yX9_sheets cX9_sheets 2 (some .int) fr lo mc ms [.ref dk, .int i1] z cB cI_ cO L g (fun r L1 g1 => cS z cB cI_ cO L1 g1 dk T n Es (upl lk P) mo lk gs M2 ∧ shC lk gs (fun g => rs_nm (qK (fun e => Es.getD e dE) P) (qF P) (qT P) (qR (fun e => Es.getD e dE) P) (fun p => (P.getD p d4).2.2.2) P.length mo g) i1 r) := by
  obtain ⟨a, x, xs, pa, sa, f, hb⟩ := id h
  have h_dk := hb.h_dk
  have h_tp := hb.h_tp
  have h_by := hb.h_by
  have h_rd := hb.h_rd
  have h_els := hb.h_els
  have h_es := hb.h_es
  have h_reo := hb.h_reo
  have h_pr := hb.h_pr
  have h_pcs := hb.h_pcs
  have h_spr := hb.h_spr
  have h_pc := hb.h_pc
  have h_sp := hb.h_sp
  have h_nwh := hb.h_nwh
  have h_lf := hb.h_lf
  have h_gl := hb.h_gl
  have h_ra := hb.h_ra
  have h_fa := hb.h_fa
  have h_la := hb.h_la
  have h_sl := hb.h_sl
  have h_nob := hb.h_nob
  have hbn := hb.hbn
  have h_bs := hb.h_bs
  have h_bz := hb.h_bz
  have hbd := hi.bd
  have hxe : xs.length = Es.length := h_es.1
  have hpe : pa.length = P.length := h_pc.1.trans (upl_len lk P)
  have hE60 := hi.2.1.1
  have hmo1 := hi.1.2.2.1
  have hmo := hi.1.2.2.2.1
  have hn := hi.1.1
  have hTb := hi.1.2.1
  have hlk := hi.1.2.2.2.2
  have hQ : pq_ok Es.length (fun e => Es.getD e dE) (upl lk P) := pq_upl hbd.1
  have hSn : qS (upl lk P) pa.length ≤ 469 := by rw [qS_upl, hpe]; exact hbd.2.1
  have hSb : ∀ i, i ≤ pa.length → qS (upl lk P) i ≤ 469 := fun i hi9 => Nat.le_trans (qS_m _ hi9) hSn
  rcases (show lk = 0 ∨ lk = 1 by omega) with c | c
  · subst c
    refine ⟨M, _, _, _, _, ?_, eI_m9 (d_sheetsU l D _ _ _ _ _ _ _ _ _ _ _ _ _ _ _ _ _ _ i1 h_dk) (fun r L1 g1 h9 => by obtain ⟨hr9, rfl, rfl⟩ := h9; exact ⟨h, Or.inl ⟨rfl, hr9⟩⟩)⟩
    exact ⟨Nat.le_refl _, hbn.2.1.2.2.2, by omega, by omega, by omega, by omega⟩
  · subst c
    have hg29 := hbn.2.2 (by decide)
    have hgsb9 := (hi.2.2.2.2.2 (by decide)).2.2.1
    by_cases c1 : i1 < 1
    · refine ⟨M, _, _, _, _, ?_, eI_m9 (d_sheetsBa l D _ _ _ _ _ _ _ _ _ _ _ _ _ _ _ _ _ _ i1 h_dk c1) (fun r L1 g1 h9 => by obtain ⟨hr9, rfl, rfl⟩ := h9; exact ⟨h, Or.inr (Or.inl ⟨by decide, gr_no1 (by omega) c1, hr9⟩)⟩)⟩
      exact ⟨Nat.le_refl _, hbn.2.1.2.2.2, by omega, by omega, by omega, by omega⟩
    by_cases c2 : nI (a 25) < i1
    · refine ⟨M, _, _, _, _, ?_, eI_m9 (d_sheetsBb l D _ _ _ _ _ _ _ _ _ _ _ _ _ _ _ _ _ _ i1 h_dk c2) (fun r L1 g1 h9 => by obtain ⟨hr9, rfl, rfl⟩ := h9; exact ⟨h, Or.inr (Or.inl ⟨by decide, gr_no2 (by omega) (by rw [← hg29]; exact c2), hr9⟩)⟩)⟩
      exact ⟨Nat.le_refl _, hbn.2.1.2.2.2, by omega, by omega, by omega, by omega⟩
    obtain ⟨j9, hj9, rfl⟩ := ig_1 (by omega) c1 c2
    have hg1 : 1 ≤ j9 + 1 := by omega
    have hgr := hi.go (by decide)
    rw [← hpe] at hgr
    have hgu := hi.gu
    rw [← hpe] at hgu
    have hrl := rg_first_le (fun t => ((upl 1 P).getD t d4).2.2.2) ((j9 + 1) + 1) pa.length 0
    have hBm := glx_9 (fi := (rg_first (fun t => ((upl 1 P).getD t d4).2.2.2) (j9 + 1) pa.length 0)) (en := (rg_first (fun t => ((upl 1 P).getD t d4).2.2.2) ((j9 + 1) + 1) pa.length 0)) (M := M) hQ (by rw [← h_pc.1]; omega) hmo1 hmo hbn.2.1.2.2.1 hbn.2.1.2.2.2 (by rw [← h_pc.1]; exact hSn)
    have hBg := glx_ge (gl_S (fun e => Es.getD e dE) (upl 1 P) (rg_first (fun t => ((upl 1 P).getD t d4).2.2.2) (j9 + 1) pa.length 0) (rg_first (fun t => ((upl 1 P).getD t d4).2.2.2) ((j9 + 1) + 1) pa.length 0) mo) M 0
    have hgs9 := hi.2.2.2.2.2 (by decide)
    have hg29 := hbn.2.2 (by decide)
    have hgsb := hgs9.2.2.1
    refine ⟨(glx M 0 (gl_S (fun e => Es.getD e dE) (upl 1 P) (rg_first (fun t => ((upl 1 P).getD t d4).2.2.2) (j9 + 1) pa.length 0) (rg_first (fun t => ((upl 1 P).getD t d4).2.2.2) ((j9 + 1) + 1) pa.length 0) mo)), _, _, _, _, ?_, eI_m9 (d_sheetsY l D _ _ _ _ _ _ _ _ _ _ _ _ _ _ _ _ _ _ _ _ _ _ _ _ _ _ _ _ _ _ _ _ _ _ _ _ _ _ _ _ _ _ _ _ _ _ _ (j9 + 1) _ _ _ h_dk h_pr h_pcs h_pc h_es.2.2 h_nwh h_gl h_lf h_ra h_fa h_la (by omega) (by rw [hxe]; exact hQ) (by omega) hmo1 hmo (by omega) (fun t ht => Nat.le_trans (hgu t ht) (by decide)) rfl rfl (hgr (j9 + 1)).1 (hgr (j9 + 1)).2 hbn.2.1.2.2.1 (by omega) rfl (by omega) hg1 (by omega)) (fun r L1 g1 h9 => ?_)⟩
    · exact ⟨hBg, hBm, by omega, by omega, by omega, by omega⟩
    · obtain ⟨S2, ra2, fa2, la2, M2, k0, k1, k2, w7, w8, w9, u1, u2, u3, u4, u5, u6, hr9, eS, hsh, hM9, hfr, t1, t2, t3, t4, t5⟩ := h9
      obtain ⟨_, rfl, hM3⟩ := hM9
      have hM4 := hBm
      have hv9 : S2.length = (fun g => rs_nm (qK (fun e => Es.getD e dE) P) (qF P) (qT P) (qR (fun e => Es.getD e dE) P) (fun p => (P.getD p d4).2.2.2) P.length mo g) j9 := by
        rw [eS, hpe]
        exact nm_upl
      exact ⟨⟨(va_up (va_up (va_up a 15 ra2) 16 fa2) 17 la2), (va_up (va_up (va_up (va_up (va_up (va_up (va_up (va_up (va_up (va_up (va_up x 2 u1) 3 u2) 4 u3) 5 u4) 6 u5) 7 u6) 8 (nI S2.length)) 9 (nI (rg_first (fun t => ((upl 1 P).getD t d4).2.2.2) ((j9 + 1) + 1) pa.length 0))) 10 w7) 11 w8) 12 w9), xs, pa, sa, (va_up (va_up (va_up f 0 k0) 1 k1) 2 k2), (h_dk.fr hfr (nm9 rfl)), (h_tp.fr hfr (nm9 rfl)), (h_by.fr hfr (nm9 rfl)), (h_rd.fr hfr (nm9 rfl)), (h_els.fr hfr (nm9 rfl) (nm9 rfl)), (h_es.frd hfr ⟨⟨rfl, rfl⟩, rfl, rfl⟩), (h_reo.fr hfr (nm9 rfl) (nm9 rfl)), (h_pr.fr hfr (nm9 rfl)), (h_pcs.fr hfr (nm9 rfl) (nm9 rfl)), (h_spr.fr hfr (nm9 rfl) (nm9 rfl)), (h_pc.frd hfr rfl), (h_sp.frd hfr rfl), (h_nwh.fr hfr (nm9 rfl)), t2, t1, t3, t4, t5, (h_sl.fr hfr (nm9 rfl)), (h_nob.fr hfr (nm9 rfl)), ⟨hbn.1, ⟨hbn.2.1.1, hbn.2.1.2.1, hM3, hM4⟩, hbn.2.2⟩, (fun h9 => (h_bs h9).fr hfr ⟨⟨nm9 rfl, nm9 rfl⟩, nm9 rfl, nm9 rfl⟩), (h_bz.fr hfr ⟨⟨nm9 rfl, nm9 rfl⟩, nm9 rfl, nm9 rfl⟩)⟩, Or.inr (Or.inr ⟨j9, by decide, by omega, rfl, by rw [hr9, hv9]⟩)⟩
theorem st_c3 {gs : Nat} {L : Nat → List I3} {pe : Nat → Int32} {i1 i2 i3 r : Int32} (hl : ∀ g, (L g).length ≤ 20000) (c3 : i3 < 0 ∨ 3 < i3 ∨ i2 < 0) (hr : r = -2) : stC 1 gs L pe i1 i2 i3 r := by
  by_cases cb : i3 < 0 ∨ 3 < i3
  · exact Or.inl ⟨cb, hr⟩
  · rcases c3 with c | c | c
    · exact absurd (Or.inl c) cb
    · exact absurd (Or.inr c) cb
    · exact Or.inr (Or.inr (Or.inl ⟨cb, by decide, st_no2 hl c, hr⟩))
theorem st_b3 {i2 i3 : Int32} (hb : ¬ (i3 < 0 ∨ 3 < i3 ∨ i2 < 0)) : ¬ (i3 < 0 ∨ 3 < i3) := fun z9 => hb (z9.elim Or.inl (fun y => Or.inr (Or.inl y)))
theorem st_bb {gs : Nat} {L : Nat → List I3} {pe : Nat → Int32} {i1 i2 i3 r : Int32} (hb : ¬ (i3 < 0 ∨ 3 < i3 ∨ i2 < 0)) (hno : ¬ (∃ g : Nat, g < gs ∧ i1 = nI (g + 1))) (hr : r = -2) : stC 1 gs L pe i1 i2 i3 r := Or.inr (Or.inr (Or.inl ⟨st_b3 hb, by decide, st_no1 hno, hr⟩))
theorem pe_upl (Es : List E5) (P : List Q4) : (fun a => (Es.getD ((upl 1 P).getD a d4).1 dE).2.1) = fun a => (Es.getD (P.getD a d4).1 dE).2.1 := funext fun a => by rw [(upl_1 1 P a).1]
theorem C_sheet (l : Launch) (D : va_G) {z : Nat → Nat} {cB cI_ cO : ClassId} {L : List Nat} {g : hG} {dk : Nat} {T : Nat → Int32} {n : Nat} {Es : List E5} {P : List Q4} {mo lk gs rm M : Nat} (i1 i2 i3 : Int32) (h : cS z cB cI_ cO L g dk T n Es (upl lk P) mo lk gs M) (hi : dI T n Es P mo lk gs rm) : ∃ M2 fr lo mc ms, rB M M2 fr lo mc ms ∧ eI l D yX9_sheet cX9_sheet 4 (some .int) fr lo mc ms [.ref dk, .int i1, .int i2, .int i3] z cB cI_ cO L g (fun r L1 g1 => cS z cB cI_ cO L1 g1 dk T n Es (upl lk P) mo lk gs M2 ∧ stC lk gs (rs_L (qK (fun e => Es.getD e dE) P) (qF P) (qT P) (qR (fun e => Es.getD e dE) P) (fun p => (P.getD p d4).2.2.2) P.length mo) (fun a => (Es.getD (P.getD a d4).1 dE).2.1) i1 i2 i3 r) := by
  obtain ⟨a, x, xs, pa, sa, f, hb⟩ := id h
  have h_dk := hb.h_dk
  have h_tp := hb.h_tp
  have h_by := hb.h_by
  have h_rd := hb.h_rd
  have h_els := hb.h_els
  have h_es := hb.h_es
  have h_reo := hb.h_reo
  have h_pr := hb.h_pr
  have h_pcs := hb.h_pcs
  have h_spr := hb.h_spr
  have h_pc := hb.h_pc
  have h_sp := hb.h_sp
  have h_nwh := hb.h_nwh
  have h_lf := hb.h_lf
  have h_gl := hb.h_gl
  have h_ra := hb.h_ra
  have h_fa := hb.h_fa
  have h_la := hb.h_la
  have h_sl := hb.h_sl
  have h_nob := hb.h_nob
  have hbn := hb.hbn
  have h_bs := hb.h_bs
  have h_bz := hb.h_bz
  have hbd := hi.bd
  have hxe : xs.length = Es.length := h_es.1
  have hpe : pa.length = P.length := h_pc.1.trans (upl_len lk P)
  have hE60 := hi.2.1.1
  have hmo1 := hi.1.2.2.1
  have hmo := hi.1.2.2.2.1
  have hn := hi.1.1
  have hTb := hi.1.2.1
  have hlk := hi.1.2.2.2.2
  have hQ : pq_ok Es.length (fun e => Es.getD e dE) (upl lk P) := pq_upl hbd.1
  have hSn : qS (upl lk P) pa.length ≤ 469 := by rw [qS_upl, hpe]; exact hbd.2.1
  have hSb : ∀ i, i ≤ pa.length → qS (upl lk P) i ≤ 469 := fun i hi9 => Nat.le_trans (qS_m _ hi9) hSn
  rcases (show lk = 0 ∨ lk = 1 by omega) with c | c
  · subst c
    refine ⟨M, _, _, _, _, ?_, eI_m9 (d_sheetU2 l D _ _ _ _ _ _ _ _ _ _ _ _ _ _ _ _ _ _ i1 i2 i3 h_dk) (fun r L1 g1 h9 => by obtain ⟨hr9, rfl, rfl⟩ := h9; exact ⟨h, hr9.elim (fun z9 => Or.inl z9) (fun z9 => Or.inr (Or.inl ⟨z9.1, rfl, z9.2⟩))⟩)⟩
    exact ⟨Nat.le_refl _, hbn.2.1.2.2.2, by omega, by omega, by omega, by omega⟩
  · subst c
    have hg29 := hbn.2.2 (by decide)
    have hgsb9 := (hi.2.2.2.2.2 (by decide)).2.2.1
    by_cases c3 : i3 < 0 ∨ 3 < i3 ∨ i2 < 0
    · refine ⟨M, _, _, _, _, ?_, eI_m9 (d_sheetC2 l D _ _ _ _ _ _ _ _ _ _ _ _ _ _ _ _ _ _ i1 i2 i3 h_dk c3) (fun r L1 g1 h9 => by obtain ⟨hr9, rfl, rfl⟩ := h9; exact ⟨h, st_c3 hi.ll c3 hr9⟩)⟩
      exact ⟨Nat.le_refl _, hbn.2.1.2.2.2, by omega, by omega, by omega, by omega⟩
    by_cases c1 : i1 < 1
    · refine ⟨M, _, _, _, _, ?_, eI_m9 (d_sheetB2 l D _ _ _ _ _ _ _ _ _ _ _ _ _ _ _ _ _ _ i1 i2 i3 h_dk (Or.inl c1)) (fun r L1 g1 h9 => by obtain ⟨hr9, rfl, rfl⟩ := h9; exact ⟨h, st_bb c3 (gr_no1 (by omega) c1) hr9⟩)⟩
      exact ⟨Nat.le_refl _, hbn.2.1.2.2.2, by omega, by omega, by omega, by omega⟩
    by_cases c2 : nI (a 25) < i1
    · refine ⟨M, _, _, _, _, ?_, eI_m9 (d_sheetB2 l D _ _ _ _ _ _ _ _ _ _ _ _ _ _ _ _ _ _ i1 i2 i3 h_dk (Or.inr c2)) (fun r L1 g1 h9 => by obtain ⟨hr9, rfl, rfl⟩ := h9; exact ⟨h, st_bb c3 (gr_no2 (by omega) (by rw [← hg29]; exact c2)) hr9⟩)⟩
      exact ⟨Nat.le_refl _, hbn.2.1.2.2.2, by omega, by omega, by omega, by omega⟩
    obtain ⟨j9, hj9, rfl⟩ := ig_1 (by omega) c1 c2
    have hg1 : 1 ≤ j9 + 1 := by omega
    have hgr := hi.go (by decide)
    rw [← hpe] at hgr
    have hgu := hi.gu
    rw [← hpe] at hgu
    have hrl := rg_first_le (fun t => ((upl 1 P).getD t d4).2.2.2) ((j9 + 1) + 1) pa.length 0
    have hBm := glx_9 (fi := (rg_first (fun t => ((upl 1 P).getD t d4).2.2.2) (j9 + 1) pa.length 0)) (en := (rg_first (fun t => ((upl 1 P).getD t d4).2.2.2) ((j9 + 1) + 1) pa.length 0)) (M := M) hQ (by rw [← h_pc.1]; omega) hmo1 hmo hbn.2.1.2.2.1 hbn.2.1.2.2.2 (by rw [← h_pc.1]; exact hSn)
    have hBg := glx_ge (gl_S (fun e => Es.getD e dE) (upl 1 P) (rg_first (fun t => ((upl 1 P).getD t d4).2.2.2) (j9 + 1) pa.length 0) (rg_first (fun t => ((upl 1 P).getD t d4).2.2.2) ((j9 + 1) + 1) pa.length 0) mo) M 0
    have hgs9 := hi.2.2.2.2.2 (by decide)
    have hg29 := hbn.2.2 (by decide)
    have hgsb := hgs9.2.2.1
    refine ⟨(glx M 0 (gl_S (fun e => Es.getD e dE) (upl 1 P) (rg_first (fun t => ((upl 1 P).getD t d4).2.2.2) (j9 + 1) pa.length 0) (rg_first (fun t => ((upl 1 P).getD t d4).2.2.2) ((j9 + 1) + 1) pa.length 0) mo)), _, _, _, _, ?_, eI_m9 (d_sheetZ2 l D _ _ _ _ _ _ _ _ _ _ _ _ _ _ _ _ _ _ _ _ _ _ _ _ _ _ _ _ _ _ _ _ _ _ _ _ _ _ _ _ _ _ _ _ _ _ _ _ _ _ (j9 + 1) _ _ _ i2 i3 h_dk h_pr h_pcs h_pc h_es.2.2 h_nwh h_nob h_gl h_lf h_ra h_fa h_la (by omega) (by rw [hxe]; exact hQ) (by omega) hmo1 hmo (by omega) (fun t ht => Nat.le_trans (hgu t ht) (by decide)) rfl rfl (hgr (j9 + 1)).1 (hgr (j9 + 1)).2 hbn.2.1.2.2.1 (by omega) rfl (by omega) hg1 (by omega) (fun z9 => c3 (Or.inl z9)) (fun z9 => c3 (Or.inr (Or.inl z9))) (fun z9 => c3 (Or.inr (Or.inr z9)))) (fun r L1 g1 h9 => ?_)⟩
    · exact ⟨hBg, hBm, by omega, by omega, by omega, by omega⟩
    · obtain ⟨S2, ra2, fa2, la2, M2, k0, k1, k2, w7, w8, w9, u1, u2, u3, u4, u5, u6, hv9, eS, hsh, hM9, hfr, t1, t2, t3, t4, t5⟩ := h9
      obtain ⟨_, rfl, hM3⟩ := hM9
      have hM4 := hBm
      have eL : S2 = (rs_L (qK (fun e => Es.getD e dE) P) (qF P) (qT P) (qR (fun e => Es.getD e dE) P) (fun p => (P.getD p d4).2.2.2) P.length mo) j9 := by rw [eS, hpe, gl_upl]; rfl
      rw [pe_upl Es P] at hv9
      have hlen := hi.ll j9
      rcases hv9 with ⟨hr9, hno9⟩ | ⟨s9, hs9, e9, hr9⟩
      · rw [eL] at hno9
        exact ⟨⟨(va_up (va_up (va_up a 15 ra2) 16 fa2) 17 la2), (va_up (va_up (va_up (va_up (va_up (va_up (va_up (va_up (va_up (va_up (va_up x 2 u1) 3 u2) 4 u3) 5 u4) 6 u5) 7 u6) 8 (nI S2.length)) 9 (nI (rg_first (fun t => ((upl 1 P).getD t d4).2.2.2) ((j9 + 1) + 1) pa.length 0))) 10 w7) 11 w8) 12 w9), xs, pa, sa, (va_up (va_up (va_up f 0 k0) 1 k1) 2 k2), (h_dk.fr hfr (nm9 rfl)), (h_tp.fr hfr (nm9 rfl)), (h_by.fr hfr (nm9 rfl)), (h_rd.fr hfr (nm9 rfl)), (h_els.fr hfr (nm9 rfl) (nm9 rfl)), (h_es.frd hfr ⟨⟨rfl, rfl⟩, rfl, rfl⟩), (h_reo.fr hfr (nm9 rfl) (nm9 rfl)), (h_pr.fr hfr (nm9 rfl)), (h_pcs.fr hfr (nm9 rfl) (nm9 rfl)), (h_spr.fr hfr (nm9 rfl) (nm9 rfl)), (h_pc.frd hfr rfl), (h_sp.frd hfr rfl), (h_nwh.fr hfr (nm9 rfl)), t2, t1, t3, t4, t5, (h_sl.fr hfr (nm9 rfl)), (h_nob.fr hfr (nm9 rfl)), ⟨hbn.1, ⟨hbn.2.1.1, hbn.2.1.2.1, hM3, hM4⟩, hbn.2.2⟩, (fun h9 => (h_bs h9).fr hfr ⟨⟨nm9 rfl, nm9 rfl⟩, nm9 rfl, nm9 rfl⟩), (h_bz.fr hfr ⟨⟨nm9 rfl, nm9 rfl⟩, nm9 rfl, nm9 rfl⟩)⟩, Or.inr (Or.inr (Or.inl ⟨st_b3 c3, by decide, st_no3 (by omega) (by omega) hlen rfl hno9, hr9⟩))⟩
      · rw [eL] at hs9 hr9
        exact ⟨⟨(va_up (va_up (va_up a 15 ra2) 16 fa2) 17 la2), (va_up (va_up (va_up (va_up (va_up (va_up (va_up (va_up (va_up (va_up (va_up x 2 u1) 3 u2) 4 u3) 5 u4) 6 u5) 7 u6) 8 (nI S2.length)) 9 (nI (rg_first (fun t => ((upl 1 P).getD t d4).2.2.2) ((j9 + 1) + 1) pa.length 0))) 10 w7) 11 w8) 12 w9), xs, pa, sa, (va_up (va_up (va_up f 0 k0) 1 k1) 2 k2), (h_dk.fr hfr (nm9 rfl)), (h_tp.fr hfr (nm9 rfl)), (h_by.fr hfr (nm9 rfl)), (h_rd.fr hfr (nm9 rfl)), (h_els.fr hfr (nm9 rfl) (nm9 rfl)), (h_es.frd hfr ⟨⟨rfl, rfl⟩, rfl, rfl⟩), (h_reo.fr hfr (nm9 rfl) (nm9 rfl)), (h_pr.fr hfr (nm9 rfl)), (h_pcs.fr hfr (nm9 rfl) (nm9 rfl)), (h_spr.fr hfr (nm9 rfl) (nm9 rfl)), (h_pc.frd hfr rfl), (h_sp.frd hfr rfl), (h_nwh.fr hfr (nm9 rfl)), t2, t1, t3, t4, t5, (h_sl.fr hfr (nm9 rfl)), (h_nob.fr hfr (nm9 rfl)), ⟨hbn.1, ⟨hbn.2.1.1, hbn.2.1.2.1, hM3, hM4⟩, hbn.2.2⟩, (fun h9 => (h_bs h9).fr hfr ⟨⟨nm9 rfl, nm9 rfl⟩, nm9 rfl, nm9 rfl⟩), (h_bz.fr hfr ⟨⟨nm9 rfl, nm9 rfl⟩, nm9 rfl, nm9 rfl⟩)⟩, Or.inr (Or.inr (Or.inr ⟨j9, s9, st_b3 c3, by decide, ⟨by omega, rfl, hs9, e9⟩, hr9⟩))⟩
theorem C_where (l : Launch) (D : va_G) {z : Nat → Nat} {cB cI_ cO : ClassId} {L : List Nat} {g : hG} {dk : Nat} {T : Nat → Int32} {n : Nat} {Es : List E5} {P : List Q4} {mo lk gs rm M : Nat} (i1 : Int32) (h : cS z cB cI_ cO L g dk T n Es (upl lk P) mo lk gs M) (hi : dI T n Es P mo lk gs rm) : ∃ M2 fr lo mc ms, rB M M2 fr lo mc ms ∧ eI l D yX9_where cX9_where 5 (some .int) fr lo mc ms [.ref dk, .int i1] z cB cI_ cO L g (fun r L1 g1 => cS z cB cI_ cO L1 g1 dk T n Es (upl lk P) mo lk gs M2 ∧ whD lk Es.length Es P (whS (fun e => Es.getD e dE) P P.length mo) i1 r) := by
  obtain ⟨a, x, xs, pa, sa, f, hb⟩ := id h
  have h_dk := hb.h_dk
  have h_tp := hb.h_tp
  have h_by := hb.h_by
  have h_rd := hb.h_rd
  have h_els := hb.h_els
  have h_es := hb.h_es
  have h_reo := hb.h_reo
  have h_pr := hb.h_pr
  have h_pcs := hb.h_pcs
  have h_spr := hb.h_spr
  have h_pc := hb.h_pc
  have h_sp := hb.h_sp
  have h_nwh := hb.h_nwh
  have h_lf := hb.h_lf
  have h_gl := hb.h_gl
  have h_ra := hb.h_ra
  have h_fa := hb.h_fa
  have h_la := hb.h_la
  have h_sl := hb.h_sl
  have h_nob := hb.h_nob
  have hbn := hb.hbn
  have h_bs := hb.h_bs
  have h_bz := hb.h_bz
  have hbd := hi.bd
  have hxe : xs.length = Es.length := h_es.1
  have hpe : pa.length = P.length := h_pc.1.trans (upl_len lk P)
  have hE60 := hi.2.1.1
  have hmo1 := hi.1.2.2.1
  have hmo := hi.1.2.2.2.1
  have hn := hi.1.1
  have hTb := hi.1.2.1
  have hlk := hi.1.2.2.2.2
  have hQ : pq_ok Es.length (fun e => Es.getD e dE) (upl lk P) := pq_upl hbd.1
  have hSn : qS (upl lk P) pa.length ≤ 469 := by rw [qS_upl, hpe]; exact hbd.2.1
  have hSb : ∀ i, i ≤ pa.length → qS (upl lk P) i ≤ 469 := fun i hi9 => Nat.le_trans (qS_m _ hi9) hSn
  by_cases ce : ∃ j : Nat, j < xs.length ∧ i1 = nI j
  · obtain ⟨j, hj, rfl⟩ := ce
    rcases (show lk = 0 ∨ lk = 1 by omega) with c | c
    · subst c
      refine ⟨M, _, _, _, _, ?_, eI_m9 (d_whereU l D _ _ _ _ _ _ _ _ _ _ _ _ _ _ _ _ _ _ _ _ _ j h_dk h_els h_es (by omega) hj) (fun r L1 g1 h9 => by obtain ⟨hr9, rfl, rfl⟩ := h9; exact ⟨h, Or.inr (Or.inl ⟨j, by omega, rfl, rfl, hr9⟩)⟩)⟩
      exact ⟨Nat.le_refl _, hbn.2.1.2.2.2, by omega, by omega, by omega, by omega⟩
    · subst c
      by_cases c1 : (Es.getD j dE).2.2.1 = 0
      · obtain ⟨pl, hpl, hplj, hfst⟩ := hi.fi j (by omega) (by decide) c1
        have hso := hi.so
        have hgr := hi.go (by decide)
        rw [← hpe] at hgr
        have hgu := hi.gu
        rw [← hpe] at hgu
        have hrl := rg_first_le (fun t => ((upl 1 P).getD t d4).2.2.2) (((P.getD pl d4).2.2.2 + 1) + 1) pa.length 0
        have hBm := glx_9 (fi := (rg_first (fun t => ((upl 1 P).getD t d4).2.2.2) ((P.getD pl d4).2.2.2 + 1) pa.length 0)) (en := (rg_first (fun t => ((upl 1 P).getD t d4).2.2.2) (((P.getD pl d4).2.2.2 + 1) + 1) pa.length 0)) (M := M) hQ (by rw [← h_pc.1]; omega) hmo1 hmo hbn.2.1.2.2.1 hbn.2.1.2.2.2 (by rw [← h_pc.1]; exact hSn)
        have hBg := glx_ge (gl_S (fun e => Es.getD e dE) (upl 1 P) (rg_first (fun t => ((upl 1 P).getD t d4).2.2.2) ((P.getD pl d4).2.2.2 + 1) pa.length 0) (rg_first (fun t => ((upl 1 P).getD t d4).2.2.2) (((P.getD pl d4).2.2.2 + 1) + 1) pa.length 0) mo) M 0
        have hgs9 := hi.2.2.2.2.2 (by decide)
        have hg29 := hbn.2.2 (by decide)
        have hgsb := hgs9.2.2.1
        refine ⟨(glx M 0 (gl_S (fun e => Es.getD e dE) (upl 1 P) (rg_first (fun t => ((upl 1 P).getD t d4).2.2.2) ((P.getD pl d4).2.2.2 + 1) pa.length 0) (rg_first (fun t => ((upl 1 P).getD t d4).2.2.2) (((P.getD pl d4).2.2.2 + 1) + 1) pa.length 0) mo)), _, _, _, _, ?_, eI_m9 (d_whereY2 l D _ _ _ _ _ _ _ _ _ _ _ _ _ _ _ _ _ _ _ _ _ _ _ _ _ _ _ _ _ _ _ _ _ _ _ _ _ _ _ _ _ _ _ _ _ _ _ ((P.getD pl d4).2.2.2 + 1) _ _ _ pl j h_dk h_pr h_pcs h_pc h_els h_es h_nwh h_gl h_lf h_ra h_fa h_la (by omega) (by rw [hxe]; exact hQ) (by omega) hmo1 hmo (by have := hi.gb pl hpl; omega) (fun t ht => Nat.le_trans (hgu t ht) (by decide)) rfl rfl (hgr ((P.getD pl d4).2.2.2 + 1)).1 (hgr ((P.getD pl d4).2.2.2 + 1)).2 hbn.2.1.2.2.1 (by omega) rfl (by omega) hj c1 (by omega) (by rw [(upl_1 1 P pl).1]; exact hplj) (fun t ht => by rw [(upl_1 1 P t).1]; exact hfst t ht) (by rw [upl_at hpl]) (fun s t h1 h2 => by rw [upl_at (show s < P.length by omega), upl_at (show t < P.length by omega)]; have := hso s t h1 (by omega); show (P.getD s d4).2.2.2 + 1 ≤ (P.getD t d4).2.2.2 + 1; omega)) (fun r L1 g1 h9 => ?_)⟩
        · exact ⟨hBg, hBm, by omega, by omega, by omega, by omega⟩
        · obtain ⟨S2, ra2, fa2, la2, M2, k0, k1, k2, w7, w8, w9, u1, u2, u3, u4, u5, u6, hv9, eS, hsh, hM9, hfr, t1, t2, t3, t4, t5⟩ := h9
          obtain ⟨_, rfl, hM3⟩ := hM9
          have hM4 := hBm
          obtain ⟨t9, hw9, hr9⟩ := hv9
          rw [eS, hpe, gl_upl] at hw9
          exact ⟨⟨(va_up (va_up (va_up a 15 ra2) 16 fa2) 17 la2), (va_up (va_up (va_up (va_up (va_up (va_up (va_up (va_up (va_up (va_up (va_up x 2 u1) 3 u2) 4 u3) 5 u4) 6 u5) 7 u6) 8 (nI S2.length)) 9 (nI (rg_first (fun t => ((upl 1 P).getD t d4).2.2.2) (((P.getD pl d4).2.2.2 + 1) + 1) pa.length 0))) 10 w7) 11 w8) 12 w9), xs, pa, sa, (va_up (va_up (va_up f 0 k0) 1 k1) 2 k2), (h_dk.fr hfr (nm9 rfl)), (h_tp.fr hfr (nm9 rfl)), (h_by.fr hfr (nm9 rfl)), (h_rd.fr hfr (nm9 rfl)), (h_els.fr hfr (nm9 rfl) (nm9 rfl)), (h_es.frd hfr ⟨⟨rfl, rfl⟩, rfl, rfl⟩), (h_reo.fr hfr (nm9 rfl) (nm9 rfl)), (h_pr.fr hfr (nm9 rfl)), (h_pcs.fr hfr (nm9 rfl) (nm9 rfl)), (h_spr.fr hfr (nm9 rfl) (nm9 rfl)), (h_pc.frd hfr rfl), (h_sp.frd hfr rfl), (h_nwh.fr hfr (nm9 rfl)), t2, t1, t3, t4, t5, (h_sl.fr hfr (nm9 rfl)), (h_nob.fr hfr (nm9 rfl)), ⟨hbn.1, ⟨hbn.2.1.1, hbn.2.1.2.1, hM3, hM4⟩, hbn.2.2⟩, (fun h9 => (h_bs h9).fr hfr ⟨⟨nm9 rfl, nm9 rfl⟩, nm9 rfl, nm9 rfl⟩), (h_bz.fr hfr ⟨⟨nm9 rfl, nm9 rfl⟩, nm9 rfl, nm9 rfl⟩)⟩, Or.inr (Or.inr (Or.inr ⟨j, pl, t9, ⟨by omega, rfl⟩, ⟨by decide, c1⟩, ⟨hplj, hfst⟩, hw9, hr9⟩))⟩
      · refine ⟨M, _, _, _, _, ?_, eI_m9 (d_whereS l D _ _ _ _ _ _ _ _ _ _ _ _ _ _ _ _ _ _ _ _ _ j h_dk h_els h_es (by omega) hj c1) (fun r L1 g1 h9 => by obtain ⟨hr9, rfl, rfl⟩ := h9; exact ⟨h, Or.inr (Or.inr (Or.inl ⟨j, by omega, rfl, by decide, c1, hr9⟩))⟩)⟩
        exact ⟨Nat.le_refl _, hbn.2.1.2.2.2, by omega, by omega, by omega, by omega⟩
  · refine ⟨M, _, _, _, _, ?_, eI_m9 (d_whereB l D _ _ _ _ _ _ _ _ _ _ _ _ _ _ _ _ _ _ _ _ _ _ i1 h_dk h_els h_es (by omega) ce) (fun r L1 g1 h9 => by obtain ⟨hr9, rfl, rfl⟩ := h9; exact ⟨h, Or.inl ⟨by rw [← hxe]; exact ce, hr9⟩⟩)⟩
    exact ⟨Nat.le_refl _, hbn.2.1.2.2.2, by omega, by omega, by omega, by omega⟩
theorem glG_9 {Es : List E5} {P : List Q4} {ne mo : Nat} (hQ : pq_ok ne (fun e => Es.getD e dE) P) (hmo1 : 10 ≤ mo) (hmo : mo ≤ 40) (hS : qS P P.length ≤ 469) : ∀ k g M, 1 ≤ M → M ≤ 1000 → glG (fun e => Es.getD e dE) P P.length mo k g M ≤ 1000 := by
  intro k
  induction k with
  | zero => intro g M _ h; exact h
  | succ k ih =>
    intro g M h1 h2
    unfold glG
    have hrl := rg_first_le (fun t => (P.getD t d4).2.2.2) (g + 1) P.length 0
    have h3 := glx_9 (fi := rg_first (fun t => (P.getD t d4).2.2.2) g P.length 0) (en := rg_first (fun t => (P.getD t d4).2.2.2) (g + 1) P.length 0) hQ (by omega) hmo1 hmo h1 h2 hS
    have h4 := glx_ge (gl_S (fun e => Es.getD e dE) P (rg_first (fun t => (P.getD t d4).2.2.2) g P.length 0) (rg_first (fun t => (P.getD t d4).2.2.2) (g + 1) P.length 0) mo) M 0
    exact ih _ _ (by omega) h3
theorem C_digest (l : Launch) (D : va_G) {z : Nat → Nat} {cB cI_ cO : ClassId} {L : List Nat} {g : hG} {dk : Nat} {T : Nat → Int32} {n : Nat} {Es : List E5} {P : List Q4} {mo lk gs rm M : Nat}  (h : cS z cB cI_ cO L g dk T n Es (upl lk P) mo lk gs M) (hi : dI T n Es P mo lk gs rm) : ∃ M2 fr lo mc ms, rB M M2 fr lo mc ms ∧ eL l D yX9_digest cX9_digest 4 (some .long) fr lo mc ms [.ref dk] z cB cI_ cO L g (fun r L1 g1 => cS z cB cI_ cO L1 g1 dk T n Es (upl lk P) mo lk gs M2) := by
  obtain ⟨a, x, xs, pa, sa, f, hb⟩ := id h
  have h_dk := hb.h_dk
  have h_tp := hb.h_tp
  have h_by := hb.h_by
  have h_rd := hb.h_rd
  have h_els := hb.h_els
  have h_es := hb.h_es
  have h_reo := hb.h_reo
  have h_pr := hb.h_pr
  have h_pcs := hb.h_pcs
  have h_spr := hb.h_spr
  have h_pc := hb.h_pc
  have h_sp := hb.h_sp
  have h_nwh := hb.h_nwh
  have h_lf := hb.h_lf
  have h_gl := hb.h_gl
  have h_ra := hb.h_ra
  have h_fa := hb.h_fa
  have h_la := hb.h_la
  have h_sl := hb.h_sl
  have h_nob := hb.h_nob
  have hbn := hb.hbn
  have h_bs := hb.h_bs
  have h_bz := hb.h_bz
  have hbd := hi.bd
  have hxe : xs.length = Es.length := h_es.1
  have hpe : pa.length = P.length := h_pc.1.trans (upl_len lk P)
  have hE60 := hi.2.1.1
  have hmo1 := hi.1.2.2.1
  have hmo := hi.1.2.2.2.1
  have hn := hi.1.1
  have hTb := hi.1.2.1
  have hlk := hi.1.2.2.2.2
  have hQ : pq_ok Es.length (fun e => Es.getD e dE) (upl lk P) := pq_upl hbd.1
  have hSn : qS (upl lk P) pa.length ≤ 469 := by rw [qS_upl, hpe]; exact hbd.2.1
  have hSb : ∀ i, i ≤ pa.length → qS (upl lk P) i ≤ 469 := fun i hi9 => Nat.le_trans (qS_m _ hi9) hSn
  rcases (show lk = 0 ∨ lk = 1 by omega) with c | c
  · obtain ⟨hU, hp60, hpi⟩ := hi.pu c
    have h_bs2 := h_bs c
    rw [← h_pc.1] at h_bs2
    subst c
    refine ⟨M, _, _, _, _, ?_, eL_m9 (d_digU l D _ _ _ _ _ _ _ _ _ _ _ _ _ _ _ _ _ _ _ _ _ _ _ _ _ _ _ _ _ _ _ _ _ _ _ _ _ h_dk h_tp h_by h_pr h_pcs h_pc h_els h_es h_lf h_bs2 (by omega) (by omega) (by omega) (by rw [hxe]; exact hQ) (hU) (fun i hi9 => Nat.le_trans (hSb i hi9) (by decide)) hmo1 hmo) (fun r L1 g1 h9 => ?_)⟩
    · exact ⟨Nat.le_refl _, hbn.2.1.2.2.2, by omega, by omega, by omega, by omega⟩
    · obtain ⟨u1, u2, u3, u4, u5, u6, hfr, hk9, hl9⟩ := h9
      exact ⟨a, (va_up (va_up (va_up (va_up (va_up (va_up x 2 u1) 3 u2) 4 u3) 5 u4) 6 u5) 7 u6), xs, pa, sa, f, (h_dk.fr hfr (nm9 rfl)), (h_tp.fr hfr (nm9 rfl)), (h_by.fr hfr (nm9 rfl)), (h_rd.fr hfr (nm9 rfl)), (h_els.fr hfr (nm9 rfl) (nm9 rfl)), (h_es.frd hfr ⟨⟨rfl, rfl⟩, rfl, rfl⟩), (h_reo.fr hfr (nm9 rfl) (nm9 rfl)), (h_pr.fr hfr (nm9 rfl)), (h_pcs.fr hfr (nm9 rfl) (nm9 rfl)), (h_spr.fr hfr (nm9 rfl) (nm9 rfl)), (h_pc.frd hfr rfl), (h_sp.frd hfr rfl), (h_nwh.fr hfr (nm9 rfl)), hl9, (h_gl.fr hfr (nm9 rfl)), (h_ra.fr hfr (nm9 rfl)), (h_fa.fr hfr (nm9 rfl)), (h_la.fr hfr (nm9 rfl)), (h_sl.fr hfr (nm9 rfl)), (h_nob.fr hfr (nm9 rfl)), hbn, (fun _ => by rw [← h_pc.1]; exact hk9), hk9.z⟩
  · subst c
    have hgr := hi.go (by decide)
    rw [← hpe] at hgr
    have hgu := hi.gu
    rw [← hpe] at hgu
    have hgsb := (hi.2.2.2.2.2 (by decide)).2.2.1
    have hg29 := hbn.2.2 (by decide)
    have hBm := glG_9 hQ hmo1 hmo (by rw [← h_pc.1]; exact hSn) gs 1 M hbn.2.1.2.2.1 hbn.2.1.2.2.2
    rw [← h_pc.1] at hBm
    have hBg := glG_ge (EE := fun e => Es.getD e dE) (P := upl 1 P) (n := pa.length) (mo := mo) gs 1 M
    rw [hg29] at h_dk
    refine ⟨(glG (fun e => Es.getD e dE) (upl 1 P) pa.length mo gs 1 M), _, _, _, _, ?_, eL_m9 (d_digL l D _ _ _ _ _ _ _ _ _ _ _ _ _ _ _ _ _ gs _ _ _ _ _ _ _ _ _ _ _ _ _ _ _ _ _ _ _ _ _ _ _ _ _ _ _ _ _ _ _ _ _ h_dk h_tp h_by h_pr h_pcs h_pc h_els h_es h_nwh h_gl h_lf h_ra h_fa h_la (by omega) (by omega) (by rw [hxe]; exact hQ) (by omega) hmo1 hmo (by omega) (fun t ht => Nat.le_trans (hgu t ht) (by decide)) hgr hbn.2.1.2.2.1 (by have := hbn.2.1.2.2.2; omega) rfl) (fun r L1 g1 h9 => ?_)⟩
    · exact ⟨hBg, hBm, by omega, by omega, by omega, by omega⟩
    · obtain ⟨ra2, fa2, la2, k0, k1, k2, w5, w6, w7, w8, w9, u1, u2, u3, u4, u5, u6, hfr, t1, t2, t3, t4, t5⟩ := h9
      have t0 := h_dk.fr hfr (nm9 rfl)
      rw [← hg29] at t0
      exact ⟨(va_up (va_up (va_up a 15 ra2) 16 fa2) 17 la2), (va_up (va_up (va_up (va_up (va_up (va_up (va_up (va_up (va_up (va_up (va_up x 2 u1) 3 u2) 4 u3) 5 u4) 6 u5) 7 u6) 8 w5) 9 w6) 10 w7) 11 w8) 12 w9), xs, pa, sa, (va_up (va_up (va_up f 0 k0) 1 k1) 2 k2), t0, (h_tp.fr hfr (nm9 rfl)), (h_by.fr hfr (nm9 rfl)), (h_rd.fr hfr (nm9 rfl)), (h_els.fr hfr (nm9 rfl) (nm9 rfl)), (h_es.frd hfr ⟨⟨rfl, rfl⟩, rfl, rfl⟩), (h_reo.fr hfr (nm9 rfl) (nm9 rfl)), (h_pr.fr hfr (nm9 rfl)), (h_pcs.fr hfr (nm9 rfl) (nm9 rfl)), (h_spr.fr hfr (nm9 rfl) (nm9 rfl)), (h_pc.frd hfr rfl), (h_sp.frd hfr rfl), (h_nwh.fr hfr (nm9 rfl)), t2, t1, t3, t4, t5, (h_sl.fr hfr (nm9 rfl)), (h_nob.fr hfr (nm9 rfl)), ⟨hbn.1, ⟨hbn.2.1.1, hbn.2.1.2.1, by have := hbn.2.1.2.2.1; omega, hBm⟩, hbn.2.2⟩, (fun h9 => (h_bs h9).fr hfr ⟨⟨nm9 rfl, nm9 rfl⟩, nm9 rfl, nm9 rfl⟩), (h_bz.fr hfr ⟨⟨nm9 rfl, nm9 rfl⟩, nm9 rfl, nm9 rfl⟩)⟩
theorem nd_inj9 {xs : List Nat} (h : xs.Nodup) {i j : Nat} (hi : i < xs.length) (hj : j < xs.length) (e : xs.getD i 0 = xs.getD j 0) : i = j := by
  rw [List.getD_eq_getElem?_getD, List.getD_eq_getElem?_getD, List.getElem?_eq_getElem hi, List.getElem?_eq_getElem hj] at e
  have e : xs[i] = xs[j] := e
  exact (List.getElem_inj h).mp e
theorem C_strike (l : Launch) (D : va_G) {z : Nat → Nat} {cB cI_ cO : ClassId} {L : List Nat} {g : hG} {dk : Nat} {T : Nat → Int32} {n : Nat} {Es : List E5} {P : List Q4} {mo lk gs rm M : Nat} (i1 : Int32) (h : cS z cB cI_ cO L g dk T n Es (upl lk P) mo lk gs M) (hi : dI T n Es P mo lk gs rm) : ∃ M2 fr lo mc ms, rB M M2 fr lo mc ms ∧ eI l D yX9_strike cX9_strike 3 (some .int) fr lo mc ms [.ref dk, .int i1] z cB cI_ cO L g (fun r L1 g1 => (((¬ (∃ j : Nat, j < Es.length ∧ i1 = nI j) ∧ r = (-2)) ∨ (∃ j : Nat, j < Es.length ∧ i1 = nI j ∧ (lk = 0 ∨ ¬ (Es.getD j dE).2.2.1 = 0) ∧ r = (-3))) ∧ cS z cB cI_ cO L1 g1 dk T n Es (upl lk P) mo lk gs M2) ∨ (∃ j : Nat, j < Es.length ∧ i1 = nI j ∧ 0 < lk ∧ (Es.getD j dE).2.2.1 = 0 ∧ r = 1 ∧ cS z cB cI_ cO L1 g1 dk T n (stE Es j) (upl lk (flI j P P.length)) mo lk gs M2)) := by
  obtain ⟨a, x, xs, pa, sa, f, hb⟩ := id h
  have h_dk := hb.h_dk
  have h_tp := hb.h_tp
  have h_by := hb.h_by
  have h_rd := hb.h_rd
  have h_els := hb.h_els
  have h_es := hb.h_es
  have h_reo := hb.h_reo
  have h_pr := hb.h_pr
  have h_pcs := hb.h_pcs
  have h_spr := hb.h_spr
  have h_pc := hb.h_pc
  have h_sp := hb.h_sp
  have h_nwh := hb.h_nwh
  have h_lf := hb.h_lf
  have h_gl := hb.h_gl
  have h_ra := hb.h_ra
  have h_fa := hb.h_fa
  have h_la := hb.h_la
  have h_sl := hb.h_sl
  have h_nob := hb.h_nob
  have hbn := hb.hbn
  have h_bs := hb.h_bs
  have h_bz := hb.h_bz
  have hbd := hi.bd
  have hxe : xs.length = Es.length := h_es.1
  have hpe : pa.length = P.length := h_pc.1.trans (upl_len lk P)
  have hE60 := hi.2.1.1
  have hmo1 := hi.1.2.2.1
  have hmo := hi.1.2.2.2.1
  have hn := hi.1.1
  have hTb := hi.1.2.1
  have hlk := hi.1.2.2.2.2
  have hQ : pq_ok Es.length (fun e => Es.getD e dE) (upl lk P) := pq_upl hbd.1
  have hSn : qS (upl lk P) pa.length ≤ 469 := by rw [qS_upl, hpe]; exact hbd.2.1
  have hSb : ∀ i, i ≤ pa.length → qS (upl lk P) i ≤ 469 := fun i hi9 => Nat.le_trans (qS_m _ hi9) hSn
  by_cases ce : ∃ j : Nat, j < xs.length ∧ i1 = nI j
  · obtain ⟨j, hj, rfl⟩ := ce
    by_cases c1 : lk = 0 ∨ ¬ (Es.getD j dE).2.2.1 = 0
    · refine ⟨M, _, _, _, _, ?_, eI_m9 (d_strN l D _ _ _ _ _ _ _ _ _ _ _ _ _ _ _ _ _ _ _ _ _ lk j h_dk h_els h_es (by omega) hj hlk c1) (fun r L1 g1 h9 => by obtain ⟨hr9, rfl, rfl⟩ := h9; exact Or.inl ⟨Or.inr ⟨j, by omega, rfl, c1, hr9⟩, h⟩)⟩
      exact ⟨Nat.le_refl _, hbn.2.1.2.2.2, by omega, by omega, by omega, by omega⟩
    · have c2 : lk = 1 := by rcases (show lk = 0 ∨ lk = 1 by omega) with c | c; (exact absurd (Or.inl c) c1); exact c
      subst c2
      have c3 : (Es.getD j dE).2.2.1 = 0 := Classical.byContradiction (fun z9 => c1 (Or.inr z9))
      refine ⟨M, _, _, _, _, ?_, eI_m9 (d_strY l D _ _ _ _ _ _ _ _ _ _ _ _ _ _ _ _ _ _ _ _ _ _ _ _ _ _ 800 530 j _ _ _ h_dk h_pr h_pcs h_spr h_pc h_sp h_els h_es (by omega) (by omega) (by decide) (by decide) hbn.1.2.2.2 (by decide) hbn.2.1.1 hbn.2.1.2.1 hj c3) (fun r L1 g1 h9 => ?_)⟩
      · exact ⟨Nat.le_refl _, hbn.2.1.2.2.2, by omega, by omega, by omega, by omega⟩
      · obtain ⟨hr9, p2, s2, P2, c2, e2, h1, h2, h3, hfr, t1, t2, t3, t4, t5⟩ := h9
        have hinj : ∀ x9, x9 ∈ upl 1 P → (xs.getD x9.1 0 = xs.getD j 0 ↔ x9.1 = j) := by
          intro x9 hx9
          obtain ⟨i9, hi9, e9⟩ := gq_ex hx9
          rw [upl_len] at hi9
          have h8 := (hbd.1 i9 hi9).1
          rw [← (upl_1 1 P i9).1, e9] at h8
          exact ⟨fun z9 => nd_inj9 h_es.2.1 (by omega) hj z9, fun z9 => by rw [z9]⟩
        have e3 : P2 = upl 1 (flI j P P.length) := by
          rw [e2, show pa.length = (upl 1 P).length by rw [upl_len]; exact hpe, rmv_fl (ea := fun e => xs.getD e 0) hinj, upl_len, flI_upl]
        rw [e3] at t3
        refine Or.inr ⟨j, by omega, rfl, by decide, c3, hr9, ⟨(va_up a 24 c2), x, xs, p2, s2, f, (h_dk.fr hfr (nm9 rfl)), (h_tp.fr hfr (nm9 rfl)), (h_by.fr hfr (nm9 rfl)), (h_rd.fr hfr (nm9 rfl)), (h_els.fr hfr (nm9 rfl) (nm9 rfl)), t5, (h_reo.fr hfr (nm9 rfl) (nm9 rfl)), (h_pr.fr hfr (nm9 rfl)), t1, t2, t3, t4, (h_nwh.fr hfr (nm9 rfl)), (h_lf.fr hfr (nm9 rfl)), (h_gl.fr hfr (nm9 rfl)), (h_ra.fr hfr (nm9 rfl)), (h_fa.fr hfr (nm9 rfl)), (h_la.fr hfr (nm9 rfl)), (h_sl.fr hfr (nm9 rfl)), (h_nob.fr hfr (nm9 rfl)), ⟨⟨hbn.1.1, hbn.1.2.1, hbn.1.2.2.1, h3⟩, ⟨by omega, h1, hbn.2.1.2.2⟩, hbn.2.2⟩, (fun h9 => absurd h9 (by decide)), (h_bz.fr hfr ⟨⟨nm9 rfl, nm9 rfl⟩, nm9 rfl, nm9 rfl⟩)⟩⟩
  · refine ⟨M, _, _, _, _, ?_, eI_m9 (d_strB l D _ _ _ _ _ _ _ _ _ _ _ _ _ _ _ _ _ _ _ _ _ _ i1 h_dk h_els h_es (by omega) ce) (fun r L1 g1 h9 => by obtain ⟨hr9, rfl, rfl⟩ := h9; exact Or.inl ⟨Or.inl ⟨by rw [← hxe]; exact ce, hr9⟩, h⟩)⟩
    exact ⟨Nat.le_refl _, hbn.2.1.2.2.2, by omega, by omega, by omega, by omega⟩
theorem C_read (l : Launch) (D : va_G) {z : Nat → Nat} {cB cI_ cO : ClassId} {L : List Nat} {g : hG} {dk : Nat} {T : Nat → Int32} {n : Nat} {Es : List E5} {P : List Q4} {mo lk gs rm M : Nat}  (h : cS z cB cI_ cO L g dk T n Es (upl lk P) mo lk gs M) (hi : dI T n Es P mo lk gs rm) : ∃ M2 fr lo mc ms, rB M M2 fr lo mc ms ∧ eI l D yX9_read cX9_read 1 (some .int) fr lo mc ms [.ref dk] z cB cI_ cO L g (fun r L1 g1 => (60 < tx_cnt T (tx_ln T n (n + 1) 0) (tx_ln T n (n + 1) 0).length ∧ r = (-4) ∧ cS z cB cI_ cO L1 g1 dk T n Es (upl lk P) mo lk gs M2) ∨ (tx_cnt T (tx_ln T n (n + 1) 0) (tx_ln T n (n + 1) 0).length ≤ 60 ∧ r = nI (tx_acc T (tx_ln T n (n + 1) 0) (tx_ln T n (n + 1) 0).length).length ∧ ∃ Es2 : List E5, tx_acc T (tx_ln T n (n + 1) 0) (tx_ln T n (n + 1) 0).length = acE Es2 ∧ nmR Es2 ∧ cS z cB cI_ cO L1 g1 dk T 0 Es2 (upl 0 (upP Es2 Es2.length)) mo 0 gs M2)) := by
  obtain ⟨a, x, xs, pa, sa, f, hb⟩ := id h
  have h_dk := hb.h_dk
  have h_tp := hb.h_tp
  have h_by := hb.h_by
  have h_rd := hb.h_rd
  have h_els := hb.h_els
  have h_es := hb.h_es
  have h_reo := hb.h_reo
  have h_pr := hb.h_pr
  have h_pcs := hb.h_pcs
  have h_spr := hb.h_spr
  have h_pc := hb.h_pc
  have h_sp := hb.h_sp
  have h_nwh := hb.h_nwh
  have h_lf := hb.h_lf
  have h_gl := hb.h_gl
  have h_ra := hb.h_ra
  have h_fa := hb.h_fa
  have h_la := hb.h_la
  have h_sl := hb.h_sl
  have h_nob := hb.h_nob
  have hbn := hb.hbn
  have h_bs := hb.h_bs
  have h_bz := hb.h_bz
  have hbd := hi.bd
  have hxe : xs.length = Es.length := h_es.1
  have hpe : pa.length = P.length := h_pc.1.trans (upl_len lk P)
  have hE60 := hi.2.1.1
  have hmo1 := hi.1.2.2.1
  have hmo := hi.1.2.2.2.1
  have hn := hi.1.1
  have hTb := hi.1.2.1
  have hlk := hi.1.2.2.2.2
  have hQ : pq_ok Es.length (fun e => Es.getD e dE) (upl lk P) := pq_upl hbd.1
  have hSn : qS (upl lk P) pa.length ≤ 469 := by rw [qS_upl, hpe]; exact hbd.2.1
  have hSb : ∀ i, i ≤ pa.length → qS (upl lk P) i ≤ 469 := fun i hi9 => Nat.le_trans (qS_m _ hi9) hSn
  obtain ⟨bop, cf, nx, bn, bs, Mb, y7, y8, y9, y10, fb, fc, fn, h_bk, h_bop, h_cf, h_nx, hMb⟩ := id h_bz
  have hLl := tx_ln_len T n (n + 1) 0
  refine ⟨M, _, _, _, _, ?_, eI_m9 (d_read l D _ _ _ _ _ _ _ _ _ _ _ _ _ _ _ _ _ _ _ _ _ _ _ _ _ _ _ _ _ 800 530 _ _ _ _ _ _ _ _ _ _ _ _ _ _ _ _ _ _ _ _ _ h_dk h_pr h_pcs h_spr h_pc h_sp h_els h_es h_bk h_rd h_tp h_by (by omega) hbn.1.1 (by decide) (by decide) (by decide) (by decide) hbn.1.2.2.2 hbn.1.2.2.1 (by decide) hbn.2.1.1 hbn.2.1.2.1 hn hTb rfl (by omega)) (fun r L1 g1 h9 => ?_)⟩
  · exact ⟨Nat.le_refl _, hbn.2.1.2.2.2, by omega, by omega, by omega, by omega⟩
  · rcases h9 with ⟨h1, hr9, z1, z2, z3, k1, k2, hfr, t1⟩ | ⟨h1, cap2, t1, t2, t3, cp2, cs2, k3, k4, xs2, pa2, sa2, Es2, hr9, h2, h3, h4, h5, h6, h7, hfr, s1, s2, s3, s4, s5, tb, s6, s7, s8, s9⟩
    · exact Or.inl ⟨h1, hr9, ⟨(va_up (va_up (va_up a 18 z1) 19 z2) 20 z3), (va_up (va_up x 0 k1) 1 k2), xs, pa, sa, f, (h_dk.fr hfr (nm9 rfl)), (h_tp.fr hfr (nm9 rfl)), (h_by.fr hfr (nm9 rfl)), t1, (h_els.fr hfr (nm9 rfl) (nm9 rfl)), (h_es.frd hfr ⟨⟨rfl, rfl⟩, rfl, rfl⟩), (h_reo.fr hfr (nm9 rfl) (nm9 rfl)), (h_pr.fr hfr (nm9 rfl)), (h_pcs.fr hfr (nm9 rfl) (nm9 rfl)), (h_spr.fr hfr (nm9 rfl) (nm9 rfl)), (h_pc.frd hfr rfl), (h_sp.frd hfr rfl), (h_nwh.fr hfr (nm9 rfl)), (h_lf.fr hfr (nm9 rfl)), (h_gl.fr hfr (nm9 rfl)), (h_ra.fr hfr (nm9 rfl)), (h_fa.fr hfr (nm9 rfl)), (h_la.fr hfr (nm9 rfl)), (h_sl.fr hfr (nm9 rfl)), (h_nob.fr hfr (nm9 rfl)), hbn, (fun h9 => (h_bs h9).fr hfr ⟨⟨nm9 rfl, nm9 rfl⟩, nm9 rfl, nm9 rfl⟩), (h_bz.fr hfr ⟨⟨nm9 rfl, nm9 rfl⟩, nm9 rfl, nm9 rfl⟩)⟩⟩
    · have hx2 : xs2.length = Es2.length := s7.1
      refine Or.inr ⟨h1, by rw [hr9, h2, acE_len, hx2], Es2, h2, h3, ?_⟩
      have b1 := h_bop.fr hfr (nm9 rfl)
      have b2 := h_cf.fr hfr (nm9 rfl)
      have b3 := h_nx.fr hfr (nm9 rfl)
      rw [hx2] at s4
      rw [upl_0]
      exact ⟨(va_up (va_up (va_up (va_up (va_up (va_up (va_up a 21 cap2) 18 t1) 19 t2) 20 t3) 23 cp2) 24 cs2) 25 0), (va_up (va_up x 0 k3) 1 k4), xs2, pa2, sa2, f, s1, s9, (h_by.fr hfr (nm9 rfl)), s8, s6, s7, (h_reo.fr hfr (nm9 rfl) (nm9 rfl)), (h_pr.fr hfr (nm9 rfl)), s2, s3, s4, s5, (h_nwh.fr hfr (nm9 rfl)), (h_lf.fr hfr (nm9 rfl)), (h_gl.fr hfr (nm9 rfl)), (h_ra.fr hfr (nm9 rfl)), (h_fa.fr hfr (nm9 rfl)), (h_la.fr hfr (nm9 rfl)), (h_sl.fr hfr (nm9 rfl)), (h_nob.fr hfr (nm9 rfl)), ⟨⟨h4, hbn.1.2.1, h6.2.2, h7⟩, ⟨h6.2.1, h5, hbn.2.1.2.2⟩, fun h8 => absurd h8 (Nat.lt_irrefl 0)⟩, (fun _ => Or.inl ⟨bop, cf, nx, bn, bs, Mb, y8, y9, y10, fb, fc, fn, tb, b1, b2, b3, hMb⟩), ⟨bop, cf, nx, bn, bs, Mb, 0, y8, y9, y10, fb, fc, fn, tb, b1, b2, b3, hMb⟩⟩
theorem C_merge (l : Launch) (D : va_G) {z : Nat → Nat} {cB cI_ cO : ClassId} {L : List Nat} {g : hG} {dk : Nat} {T : Nat → Int32} {n : Nat} {Es : List E5} {P : List Q4} {mo lk gs rm M : Nat}  (h : cS z cB cI_ cO L g dk T n Es (upl lk P) mo lk gs M) (hi : dI T n Es P mo lk gs rm) : ∃ M2 fr lo mc ms, rB M M2 fr lo mc ms ∧ eI l D yX9_merge cX9_merge 3 (some .int) fr lo mc ms [.ref dk] z cB cI_ cO L g (fun r L1 g1 => (lk = 0 ∧ r = (-3) ∧ cS z cB cI_ cO L1 g1 dk T n Es (upl lk P) mo lk gs M2) ∨ (0 < lk ∧ r = nI (mgN P P.length).length ∧ cS z cB cI_ cO L1 g1 dk T n (rnm ((mgN P P.length).map (fun e => Es.getD e dE)) (mgN P P.length).length) (upl 0 (upP (rnm ((mgN P P.length).map (fun e => Es.getD e dE)) (mgN P P.length).length) (rnm ((mgN P P.length).map (fun e => Es.getD e dE)) (mgN P P.length).length).length)) mo 0 gs M2)) := by
  obtain ⟨a, x, xs, pa, sa, f, hb⟩ := id h
  have h_dk := hb.h_dk
  have h_tp := hb.h_tp
  have h_by := hb.h_by
  have h_rd := hb.h_rd
  have h_els := hb.h_els
  have h_es := hb.h_es
  have h_reo := hb.h_reo
  have h_pr := hb.h_pr
  have h_pcs := hb.h_pcs
  have h_spr := hb.h_spr
  have h_pc := hb.h_pc
  have h_sp := hb.h_sp
  have h_nwh := hb.h_nwh
  have h_lf := hb.h_lf
  have h_gl := hb.h_gl
  have h_ra := hb.h_ra
  have h_fa := hb.h_fa
  have h_la := hb.h_la
  have h_sl := hb.h_sl
  have h_nob := hb.h_nob
  have hbn := hb.hbn
  have h_bs := hb.h_bs
  have h_bz := hb.h_bz
  have hbd := hi.bd
  have hxe : xs.length = Es.length := h_es.1
  have hpe : pa.length = P.length := h_pc.1.trans (upl_len lk P)
  have hE60 := hi.2.1.1
  have hmo1 := hi.1.2.2.1
  have hmo := hi.1.2.2.2.1
  have hn := hi.1.1
  have hTb := hi.1.2.1
  have hlk := hi.1.2.2.2.2
  have hQ : pq_ok Es.length (fun e => Es.getD e dE) (upl lk P) := pq_upl hbd.1
  have hSn : qS (upl lk P) pa.length ≤ 469 := by rw [qS_upl, hpe]; exact hbd.2.1
  have hSb : ∀ i, i ≤ pa.length → qS (upl lk P) i ≤ 469 := fun i hi9 => Nat.le_trans (qS_m _ hi9) hSn
  rcases (show lk = 0 ∨ lk = 1 by omega) with c | c
  · subst c
    refine ⟨M, _, _, _, _, ?_, eI_m9 (d_mergeU l D _ _ _ _ _ _ _ _ _ _ _ _ _ _ _ _ _ _ h_dk) (fun r L1 g1 h9 => by obtain ⟨hr9, rfl, rfl⟩ := h9; exact Or.inl ⟨rfl, hr9, h⟩)⟩
    exact ⟨Nat.le_refl _, hbn.2.1.2.2.2, by omega, by omega, by omega, by omega⟩
  · subst c
    obtain ⟨bop, cf, nx, bn, bs, Mb, y7, y8, y9, y10, fb, fc, fn, h_bk, h_bop, h_cf, h_nx, hMb⟩ := id h_bz
    have hmi := hi.mI (by decide)
    have hmj : mgI (upl 1 P) pa.length = mgN P P.length := by rw [mgI_upl, hpe]; exact hmi
    have hmk := hi.m6
    rw [hmi] at hmk
    refine ⟨M, _, _, _, _, ?_, eI_m9 (d_mergeL l D _ _ _ _ _ _ _ _ _ _ _ _ _ _ _ _ _ _ _ _ _ _ _ _ _ _ _ _ _ _ 800 530 _ _ _ _ _ _ _ _ _ _ h_dk h_pr h_pcs h_spr h_pc h_sp h_els h_es h_reo h_bk (by omega) (by omega) (by rw [hxe]; exact hQ) (by decide) (by decide) (by decide) (by decide) hbn.1.2.2.2 hbn.1.2.2.1 hbn.1.1 hbn.1.2.1 (by decide) hbn.2.1.1 hbn.2.1.2.1 (by rw [hmj]; exact mgN_nd P P.length) (by rw [hmj]; exact hmk)) (fun r L1 g1 h9 => ?_)⟩
    · exact ⟨Nat.le_refl _, hbn.2.1.2.2.2, by omega, by omega, by omega, by omega⟩
    · obtain ⟨pa2, sa2, ys, Ms2, cp2, cs2, cap2, c72, hr9, h1, h2, h3, h4, h5, h6, h7, hfr, s1, s2, s3, s4, s5, tb, s6, s7, s8⟩ := h9
      rw [hmj] at h1 h2
      have hyl : ys.length = (mgN P P.length).length := by rw [h1, List.length_map]
      rw [hyl] at h2
      have hx2 : ys.length = Ms2.length := s7.1
      have b1 := h_bop.fr hfr (nm9 rfl)
      have b2 := h_cf.fr hfr (nm9 rfl)
      have b3 := h_nx.fr hfr (nm9 rfl)
      rw [hx2] at s4
      refine Or.inr ⟨by decide, by rw [hr9, hyl], ?_⟩
      rw [← h2, upl_0]
      exact ⟨(va_up (va_up (va_up (va_up (va_up a 21 cap2) 22 c72) 23 cp2) 24 cs2) 25 0), x, ys, pa2, sa2, f, s1, (h_tp.fr hfr (nm9 rfl)), (h_by.fr hfr (nm9 rfl)), (h_rd.fr hfr (nm9 rfl)), s6, s7, s8, (h_pr.fr hfr (nm9 rfl)), s2, s3, s4, s5, (h_nwh.fr hfr (nm9 rfl)), (h_lf.fr hfr (nm9 rfl)), (h_gl.fr hfr (nm9 rfl)), (h_ra.fr hfr (nm9 rfl)), (h_fa.fr hfr (nm9 rfl)), (h_la.fr hfr (nm9 rfl)), (h_sl.fr hfr (nm9 rfl)), (h_nob.fr hfr (nm9 rfl)), ⟨⟨h3, h4, h6.2.2, h7⟩, ⟨h6.2.1, h5, hbn.2.1.2.2⟩, fun h8 => absurd h8 (Nat.lt_irrefl 0)⟩, (fun _ => Or.inl ⟨bop, cf, nx, bn, bs, Mb, y8, y9, y10, fb, fc, fn, tb, b1, b2, b3, hMb⟩), ⟨bop, cf, nx, bn, bs, Mb, 0, y8, y9, y10, fb, fc, fn, tb, b1, b2, b3, hMb⟩⟩
theorem C_lock (l : Launch) (D : va_G) {z : Nat → Nat} {cB cI_ cO : ClassId} {L : List Nat} {g : hG} {dk : Nat} {T : Nat → Int32} {n : Nat} {Es : List E5} {P : List Q4} {mo lk gs rm M : Nat}  (h : cS z cB cI_ cO L g dk T n Es (upl lk P) mo lk gs M) (hi : dI T n Es P mo lk gs rm) : ∃ M2 fr lo mc ms, rB M M2 fr lo mc ms ∧ eI l D yX9_lock cX9_lock 2 (some .int) fr lo mc ms [.ref dk] z cB cI_ cO L g (fun r L1 g1 => (0 < lk ∧ r = (-3) ∧ cS z cB cI_ cO L1 g1 dk T n Es (upl lk P) mo lk gs M2) ∨ (lk = 0 ∧ (pgl (fun e => Es.getD e dE) P P.length mo).length = 0 ∧ r = (-3) ∧ cS z cB cI_ cO L1 g1 dk T n Es (upl lk P) mo lk gs M2) ∨ (lk = 0 ∧ 0 < (pgl (fun e => Es.getD e dE) P P.length mo).length ∧ r = nI (pgl (fun e => Es.getD e dE) P P.length mo).length ∧ cS z cB cI_ cO L1 g1 dk T n Es (upl 1 (lk_pcs (qF P) (qT P) (pg_B P.length (pgl (fun e => Es.getD e dE) P P.length mo)) (pg_R P.length (pgl (fun e => Es.getD e dE) P P.length mo)) (pgl (fun e => Es.getD e dE) P P.length mo).length)) mo 1 (pgl (fun e => Es.getD e dE) P P.length mo).length M2)) := by
  obtain ⟨a, x, xs, pa, sa, f, hb⟩ := id h
  have h_dk := hb.h_dk
  have h_tp := hb.h_tp
  have h_by := hb.h_by
  have h_rd := hb.h_rd
  have h_els := hb.h_els
  have h_es := hb.h_es
  have h_reo := hb.h_reo
  have h_pr := hb.h_pr
  have h_pcs := hb.h_pcs
  have h_spr := hb.h_spr
  have h_pc := hb.h_pc
  have h_sp := hb.h_sp
  have h_nwh := hb.h_nwh
  have h_lf := hb.h_lf
  have h_gl := hb.h_gl
  have h_ra := hb.h_ra
  have h_fa := hb.h_fa
  have h_la := hb.h_la
  have h_sl := hb.h_sl
  have h_nob := hb.h_nob
  have hbn := hb.hbn
  have h_bs := hb.h_bs
  have h_bz := hb.h_bz
  have hbd := hi.bd
  have hxe : xs.length = Es.length := h_es.1
  have hpe : pa.length = P.length := h_pc.1.trans (upl_len lk P)
  have hE60 := hi.2.1.1
  have hmo1 := hi.1.2.2.1
  have hmo := hi.1.2.2.2.1
  have hn := hi.1.1
  have hTb := hi.1.2.1
  have hlk := hi.1.2.2.2.2
  have hQ : pq_ok Es.length (fun e => Es.getD e dE) (upl lk P) := pq_upl hbd.1
  have hSn : qS (upl lk P) pa.length ≤ 469 := by rw [qS_upl, hpe]; exact hbd.2.1
  have hSb : ∀ i, i ≤ pa.length → qS (upl lk P) i ≤ 469 := fun i hi9 => Nat.le_trans (qS_m _ hi9) hSn
  rcases (show lk = 0 ∨ lk = 1 by omega) with c | c
  · obtain ⟨hU, hp60, hpi⟩ := hi.pu c
    have h_bs2 := h_bs c
    rw [← h_pc.1] at h_bs2
    subst c
    have hPU : ∀ i, i < pa.length → ((upl 0 P).getD i d4).2.1 = 0 ∧ ((upl 0 P).getD i d4).2.2.1 = eRw (Es.getD i dE) := fun i hi9 => by
      have h8 := hU i (by rw [upl_len]; omega)
      rw [hpi i (by omega)] at h8
      exact h8
    rw [upl_0] at h_pc h_bs2 hQ hSn hSb hU hPU
    refine ⟨M, _, _, _, _, ?_, eI_m9 (d_lockU l D _ _ _ _ _ _ _ _ _ _ _ _ _ _ _ _ _ _ _ _ _ _ _ _ 800 530 _ _ _ _ _ _ _ _ _ _ _ _ h_dk h_pr h_pcs h_spr h_pc h_sp h_els h_es h_lf h_bs2 (by omega) (by omega) (by rw [hxe]; exact hQ) hU hPU (fun i hi9 => Nat.le_trans (hSb i hi9) (by decide)) hmo1 hmo (by decide) (by decide) (by decide) hbn.1.2.2.2 hbn.1.2.2.1 (by decide) hbn.2.1.1 hbn.2.1.2.1 (by omega)) (fun r L1 g1 h9 => ?_)⟩
    · exact ⟨Nat.le_refl _, hbn.2.1.2.2.2, by omega, by omega, by omega, by omega⟩
    · rcases h9 with ⟨h1, hr9, y9, y10, u1, u2, u3, u4, u5, u6, C, cn, hfr, hk9, hl9, s1, s2, s3, s4, s5⟩ | ⟨h1, hr9, qa2, sa2, cp2, cs2, u1, u2, u3, u4, u5, u6, h2, h3, hfr, s1, s2, s3, s4, s5, hl9, hz9⟩
      · rw [hpe] at h1
        refine Or.inr (Or.inl ⟨rfl, h1, hr9, ?_⟩)
        rw [upl_0]
        exact ⟨a, (va_up (va_up (va_up (va_up (va_up (va_up x 2 u1) 3 u2) 4 u3) 5 u4) 6 u5) 7 u6), xs, pa, sa, f, s1, (h_tp.fr hfr (nm9 rfl)), (h_by.fr hfr (nm9 rfl)), (h_rd.fr hfr (nm9 rfl)), (h_els.fr hfr (nm9 rfl) (nm9 rfl)), (h_es.frd hfr ⟨⟨rfl, rfl⟩, rfl, rfl⟩), (h_reo.fr hfr (nm9 rfl) (nm9 rfl)), (h_pr.fr hfr (nm9 rfl)), s2, s3, s4, s5, (h_nwh.fr hfr (nm9 rfl)), hl9, (h_gl.fr hfr (nm9 rfl)), (h_ra.fr hfr (nm9 rfl)), (h_fa.fr hfr (nm9 rfl)), (h_la.fr hfr (nm9 rfl)), (h_sl.fr hfr (nm9 rfl)), (h_nob.fr hfr (nm9 rfl)), hbn, (fun _ => by rw [← h_pc.1]; exact Or.inr ⟨y9, y10, C, cn, hk9⟩), hk9.z⟩
      · rw [hpe] at h1 s1 s4 hr9
        refine Or.inr (Or.inr ⟨rfl, h1, hr9, ?_⟩)
        rw [← lk_cls_upl]
        exact ⟨(va_up (va_up (va_up a 23 cp2) 24 cs2) 25 (pgl (fun e => Es.getD e dE) P P.length mo).length), (va_up (va_up (va_up (va_up (va_up (va_up x 2 u1) 3 u2) 4 u3) 5 u4) 6 u5) 7 u6), xs, qa2, sa2, f, s1, (h_tp.fr hfr (nm9 rfl)), (h_by.fr hfr (nm9 rfl)), (h_rd.fr hfr (nm9 rfl)), (h_els.fr hfr (nm9 rfl) (nm9 rfl)), (h_es.frd hfr ⟨⟨rfl, rfl⟩, rfl, rfl⟩), (h_reo.fr hfr (nm9 rfl) (nm9 rfl)), (h_pr.fr hfr (nm9 rfl)), s2, s3, s4, s5, (h_nwh.fr hfr (nm9 rfl)), hl9, (h_gl.fr hfr (nm9 rfl)), (h_ra.fr hfr (nm9 rfl)), (h_fa.fr hfr (nm9 rfl)), (h_la.fr hfr (nm9 rfl)), (h_sl.fr hfr (nm9 rfl)), (h_nob.fr hfr (nm9 rfl)), ⟨⟨hbn.1.1, hbn.1.2.1, h3.2.1, h3.2.2.1⟩, ⟨h3.1, h2, hbn.2.1.2.2⟩, fun _ => rfl⟩, (fun h8 => absurd h8 (by decide)), hz9⟩
  · subst c
    refine ⟨M, _, _, _, _, ?_, eI_m9 (d_lockL l D _ _ _ _ _ _ _ _ _ _ _ _ _ _ _ _ _ _ h_dk) (fun r L1 g1 h9 => by obtain ⟨hr9, rfl, rfl⟩ := h9; exact Or.inl ⟨by decide, hr9, h⟩)⟩
    exact ⟨Nat.le_refl _, hbn.2.1.2.2.2, by omega, by omega, by omega, by omega⟩
theorem gt5 {x : Int32} (h : 5 < x) : ¬ x < 6 := by
  rw [Int32.lt_iff_toInt_lt] at h ⊢
  have e5 : (5 : Int32).toInt = 5 := by decide
  have e6 : (6 : Int32).toInt = 6 := by decide
  omega
theorem lt6 {x : Int32} (h : ¬ 5 < x) : x < 6 := by
  rw [Int32.lt_iff_toInt_lt] at h ⊢
  have e5 : (5 : Int32).toInt = 5 := by decide
  have e6 : (6 : Int32).toInt = 6 := by decide
  omega
theorem C_insert (l : Launch) (D : va_G) {z : Nat → Nat} {cB cI_ cO : ClassId} {L : List Nat} {g : hG} {dk : Nat} {T : Nat → Int32} {n : Nat} {Es : List E5} {P : List Q4} {mo lk gs rm M : Nat} (i1 i2 : Int32) (h : cS z cB cI_ cO L g dk T n Es (upl lk P) mo lk gs M) (hi : dI T n Es P mo lk gs rm) : ∃ M2 fr lo mc ms, rB M M2 fr lo mc ms ∧ eI l D yX9_insert cX9_insert 7 (some .int) fr lo mc ms [.ref dk, .int i1, .int i2] z cB cI_ cO L g (fun r L1 g1 => ((¬ (∃ j : Nat, j < Es.length ∧ i1 = nI j) ∨ i2 < 0 ∨ 5 < i2) ∧ r = (-2) ∧ cS z cB cI_ cO L1 g1 dk T n Es (upl lk P) mo lk gs M2) ∨ (∃ j : Nat, (j < Es.length ∧ i1 = nI j ∧ kd6 i2) ∧ (lk = 0 ∨ ¬ (Es.getD j dE).2.2.1 = 0 ∨ ¬ (∃ i, i < n ∧ ¬ tx_gap (T i))) ∧ r = (-3) ∧ cS z cB cI_ cO L1 g1 dk T n Es (upl lk P) mo lk gs M2) ∨ (∃ j : Nat, (j < Es.length ∧ i1 = nI j ∧ kd6 i2) ∧ 0 < lk ∧ (Es.getD j dE).2.2.1 = 0 ∧ (∃ i, i < n ∧ ¬ tx_gap (T i)) ∧ Es.length = 60 ∧ r = (-4) ∧ cS z cB cI_ cO L1 g1 dk T n Es (upl lk P) mo lk gs M2) ∨ (∃ (j pl : Nat), (j < Es.length ∧ i1 = nI j ∧ kd6 i2) ∧ (0 < lk ∧ (Es.getD j dE).2.2.1 = 0 ∧ (∃ i, i < n ∧ ¬ tx_gap (T i)) ∧ Es.length < 60) ∧ (pl < P.length ∧ (P.getD pl d4).1 = j ∧ ∀ i, pl < i → i < P.length → ¬ (P.getD i d4).1 = j) ∧ ((27 < rs_nm (qK (fun e => (Es ++ [(insE T n i2 Es.length)]).getD e dE) (lsJ P (pl + 1) (Es.length, 0, eRw (insE T n i2 Es.length), (P.getD pl d4).2.2.2))) (qF (lsJ P (pl + 1) (Es.length, 0, eRw (insE T n i2 Es.length), (P.getD pl d4).2.2.2))) (qT (lsJ P (pl + 1) (Es.length, 0, eRw (insE T n i2 Es.length), (P.getD pl d4).2.2.2))) (qR (fun e => (Es ++ [(insE T n i2 Es.length)]).getD e dE) (lsJ P (pl + 1) (Es.length, 0, eRw (insE T n i2 Es.length), (P.getD pl d4).2.2.2))) (fun p => ((lsJ P (pl + 1) (Es.length, 0, eRw (insE T n i2 Es.length), (P.getD pl d4).2.2.2)).getD p d4).2.2.2) (P.length + 1) mo (P.getD pl d4).2.2.2 ∧ r = (-4) ∧ cS z cB cI_ cO L1 g1 dk T n Es (upl lk P) mo lk gs M2) ∨ (rs_nm (qK (fun e => (Es ++ [(insE T n i2 Es.length)]).getD e dE) (lsJ P (pl + 1) (Es.length, 0, eRw (insE T n i2 Es.length), (P.getD pl d4).2.2.2))) (qF (lsJ P (pl + 1) (Es.length, 0, eRw (insE T n i2 Es.length), (P.getD pl d4).2.2.2))) (qT (lsJ P (pl + 1) (Es.length, 0, eRw (insE T n i2 Es.length), (P.getD pl d4).2.2.2))) (qR (fun e => (Es ++ [(insE T n i2 Es.length)]).getD e dE) (lsJ P (pl + 1) (Es.length, 0, eRw (insE T n i2 Es.length), (P.getD pl d4).2.2.2))) (fun p => ((lsJ P (pl + 1) (Es.length, 0, eRw (insE T n i2 Es.length), (P.getD pl d4).2.2.2)).getD p d4).2.2.2) (P.length + 1) mo (P.getD pl d4).2.2.2 ≤ 27 ∧ r = nI Es.length ∧ cS z cB cI_ cO L1 g1 dk T 0 (Es ++ [(insE T n i2 Es.length)]) (upl lk (lsJ P (pl + 1) (Es.length, 0, eRw (insE T n i2 Es.length), (P.getD pl d4).2.2.2))) mo lk gs M2)))) := by
  obtain ⟨a, x, xs, pa, sa, f, hb⟩ := id h
  have h_dk := hb.h_dk
  have h_tp := hb.h_tp
  have h_by := hb.h_by
  have h_rd := hb.h_rd
  have h_els := hb.h_els
  have h_es := hb.h_es
  have h_reo := hb.h_reo
  have h_pr := hb.h_pr
  have h_pcs := hb.h_pcs
  have h_spr := hb.h_spr
  have h_pc := hb.h_pc
  have h_sp := hb.h_sp
  have h_nwh := hb.h_nwh
  have h_lf := hb.h_lf
  have h_gl := hb.h_gl
  have h_ra := hb.h_ra
  have h_fa := hb.h_fa
  have h_la := hb.h_la
  have h_sl := hb.h_sl
  have h_nob := hb.h_nob
  have hbn := hb.hbn
  have h_bs := hb.h_bs
  have h_bz := hb.h_bz
  have hbd := hi.bd
  have hxe : xs.length = Es.length := h_es.1
  have hpe : pa.length = P.length := h_pc.1.trans (upl_len lk P)
  have hE60 := hi.2.1.1
  have hmo1 := hi.1.2.2.1
  have hmo := hi.1.2.2.2.1
  have hn := hi.1.1
  have hTb := hi.1.2.1
  have hlk := hi.1.2.2.2.2
  have hQ : pq_ok Es.length (fun e => Es.getD e dE) (upl lk P) := pq_upl hbd.1
  have hSn : qS (upl lk P) pa.length ≤ 469 := by rw [qS_upl, hpe]; exact hbd.2.1
  have hSb : ∀ i, i ≤ pa.length → qS (upl lk P) i ≤ 469 := fun i hi9 => Nat.le_trans (qS_m _ hi9) hSn
  by_cases ce : ∃ j : Nat, j < xs.length ∧ i1 = nI j
  · obtain ⟨j, hj, rfl⟩ := ce
    by_cases ck : i2 < 0 ∨ 5 < i2
    · refine ⟨M, _, _, _, _, ?_, eI_m9 (d_insR2 l D _ _ _ _ _ _ _ _ _ _ _ _ _ _ _ _ _ _ _ _ _ lk j _ _ _ i2 h_dk h_els h_es h_tp h_by (by omega) hn hj hlk (ck.elim Or.inl (fun z9 => Or.inr (gt5 z9)))) (fun r L1 g1 h9 => by obtain ⟨hr9, rfl, rfl⟩ := h9; exact Or.inl ⟨Or.inr ck, hr9, h⟩)⟩
      exact ⟨Nat.le_refl _, hbn.2.1.2.2.2, by omega, by omega, by omega, by omega⟩
    have hk0 : ¬ i2 < 0 := fun z9 => ck (Or.inl z9)
    have hk7 : i2 < 6 := lt6 (fun z9 => ck (Or.inr z9))
    have hk6 : kd6 i2 := in6 (fun z9 => ck (Or.inl z9)) (fun z9 => ck (Or.inr z9))
    by_cases c1 : lk = 0 ∨ ¬ (Es.getD j dE).2.2.1 = 0 ∨ ¬ (∃ i, i < n ∧ ¬ tx_gap (T i))
    · refine ⟨M, _, _, _, _, ?_, eI_m9 (d_insR3 l D _ _ _ _ _ _ _ _ _ _ _ _ _ _ _ _ _ _ _ _ _ lk j _ _ _ i2 h_dk h_els h_es h_tp h_by (by omega) hn hj hlk hk0 hk7 (c1.elim Or.inl (fun z9 => Or.inr (z9.elim Or.inl (fun z8 => Or.inr (fun z7 => z8 (wd_ex.mp z7))))))) (fun r L1 g1 h9 => by obtain ⟨hr9, rfl, rfl⟩ := h9; exact Or.inr (Or.inl ⟨j, ⟨by omega, rfl, hk6⟩, c1, hr9, h⟩))⟩
      exact ⟨Nat.le_refl _, hbn.2.1.2.2.2, by omega, by omega, by omega, by omega⟩
    have c2 : lk = 1 := by
      rcases (show lk = 0 ∨ lk = 1 by omega) with c | c
      · exact absurd (Or.inl c) c1
      · exact c
    have c3 : (Es.getD j dE).2.2.1 = 0 := Classical.byContradiction (fun z9 => c1 (Or.inr (Or.inl z9)))
    have c4 : (∃ i, i < n ∧ ¬ tx_gap (T i)) := Classical.byContradiction (fun z9 => c1 (Or.inr (Or.inr z9)))
    by_cases c5 : Es.length = 60
    · refine ⟨M, _, _, _, _, ?_, eI_m9 (d_insR4 l D _ _ _ _ _ _ _ _ _ _ _ _ _ _ _ _ _ _ _ _ _ lk j _ _ _ i2 h_dk h_els h_es h_tp h_by (by omega) hn hj hlk hk0 hk7 (by omega) c3 (wd_ex.mpr c4) (by omega)) (fun r L1 g1 h9 => by obtain ⟨hr9, rfl, rfl⟩ := h9; exact Or.inr (Or.inr (Or.inl ⟨j, ⟨by omega, rfl, hk6⟩, by omega, c3, c4, c5, hr9, h⟩)))⟩
      exact ⟨Nat.le_refl _, hbn.2.1.2.2.2, by omega, by omega, by omega, by omega⟩
    subst c2
    have hin := insE_in (kd := i2) (en := Es.length) c4
    obtain ⟨pl, hpl, hplj, hlst⟩ := hi.la j (by omega) (by decide) c3
    have hi2 := hi.ins (Nat.le_refl rm) (show Es.length < 60 by omega) hin.1 hin.2 hpl hplj hlst
    have hl2 : (lsJ P (pl + 1) (Es.length, 0, eRw (insE T n i2 Es.length), (P.getD pl d4).2.2.2)).length = P.length + 1 := lsJ_len (by omega)
    have hE2 : (Es ++ [(insE T n i2 Es.length)]).length = Es.length + 1 := by rw [List.length_append]; rfl
    have e2 : lsJ (upl 1 P) (pl + 1) (Es.length, 0, (tx_rows i2 (tx_sc T n 0 0 0 []).2).length, (P.getD pl d4).2.2.2 + 1) = upl 1 (lsJ P (pl + 1) (Es.length, 0, eRw (insE T n i2 Es.length), (P.getD pl d4).2.2.2)) := lsJ_upl 1 P (pl + 1) _ _ _ _
    have hgr := hi2.go (by decide)
    rw [hl2] at hgr
    have hgu := hi2.gu
    rw [hl2] at hgu
    have hb2 := hi2.bd
    have hQ2 := pq_upl (lk := 1) hb2.1
    rw [hE2] at hQ2
    have hS2 : qS (upl 1 (lsJ P (pl + 1) (Es.length, 0, eRw (insE T n i2 Es.length), (P.getD pl d4).2.2.2))) (P.length + 1) ≤ 469 := by rw [qS_upl, ← hl2]; exact hb2.2.1
    have hrl := rg_first_le (fun t => ((upl 1 (lsJ P (pl + 1) (Es.length, 0, eRw (insE T n i2 Es.length), (P.getD pl d4).2.2.2))).getD t d4).2.2.2) ((P.getD pl d4).2.2.2 + 1 + 1) (P.length + 1) 0
    have hBm := glx_9 (Es := (Es ++ [(insE T n i2 Es.length)])) (fi := (rg_first (fun t => ((upl 1 (lsJ P (pl + 1) (Es.length, 0, eRw (insE T n i2 Es.length), (P.getD pl d4).2.2.2))).getD t d4).2.2.2) ((P.getD pl d4).2.2.2 + 1) (P.length + 1) 0)) (en := (rg_first (fun t => ((upl 1 (lsJ P (pl + 1) (Es.length, 0, eRw (insE T n i2 Es.length), (P.getD pl d4).2.2.2))).getD t d4).2.2.2) ((P.getD pl d4).2.2.2 + 1 + 1) (P.length + 1) 0)) (M := M) (pq_upl (lk := 1) hb2.1) (by rw [upl_len, hl2]; omega) hmo1 hmo hbn.2.1.2.2.1 hbn.2.1.2.2.2 (by rw [upl_len, qS_upl]; exact hb2.2.1)
    have hBg := glx_ge (gl_S (fun e => (Es ++ [(insE T n i2 Es.length)]).getD e dE) (upl 1 (lsJ P (pl + 1) (Es.length, 0, eRw (insE T n i2 Es.length), (P.getD pl d4).2.2.2))) (rg_first (fun t => ((upl 1 (lsJ P (pl + 1) (Es.length, 0, eRw (insE T n i2 Es.length), (P.getD pl d4).2.2.2))).getD t d4).2.2.2) ((P.getD pl d4).2.2.2 + 1) (P.length + 1) 0) (rg_first (fun t => ((upl 1 (lsJ P (pl + 1) (Es.length, 0, eRw (insE T n i2 Es.length), (P.getD pl d4).2.2.2))).getD t d4).2.2.2) ((P.getD pl d4).2.2.2 + 1 + 1) (P.length + 1) 0) mo) M 0
    have hgb9 := hi.gb pl hpl
    have hpn9 := hi2.bd.2.2.1
    rw [hl2] at hpn9
    have hns : (gl_S (fun e => (Es ++ [(insE T n i2 Es.length)]).getD e dE) (upl 1 (lsJ P (pl + 1) (Es.length, 0, eRw (insE T n i2 Es.length), (P.getD pl d4).2.2.2))) (rg_first (fun t => ((upl 1 (lsJ P (pl + 1) (Es.length, 0, eRw (insE T n i2 Es.length), (P.getD pl d4).2.2.2))).getD t d4).2.2.2) ((P.getD pl d4).2.2.2 + 1) (P.length + 1) 0) (rg_first (fun t => ((upl 1 (lsJ P (pl + 1) (Es.length, 0, eRw (insE T n i2 Es.length), (P.getD pl d4).2.2.2))).getD t d4).2.2.2) ((P.getD pl d4).2.2.2 + 1 + 1) (P.length + 1) 0) mo).length = rs_nm (qK (fun e => (Es ++ [(insE T n i2 Es.length)]).getD e dE) (lsJ P (pl + 1) (Es.length, 0, eRw (insE T n i2 Es.length), (P.getD pl d4).2.2.2))) (qF (lsJ P (pl + 1) (Es.length, 0, eRw (insE T n i2 Es.length), (P.getD pl d4).2.2.2))) (qT (lsJ P (pl + 1) (Es.length, 0, eRw (insE T n i2 Es.length), (P.getD pl d4).2.2.2))) (qR (fun e => (Es ++ [(insE T n i2 Es.length)]).getD e dE) (lsJ P (pl + 1) (Es.length, 0, eRw (insE T n i2 Es.length), (P.getD pl d4).2.2.2))) (fun p => ((lsJ P (pl + 1) (Es.length, 0, eRw (insE T n i2 Es.length), (P.getD pl d4).2.2.2)).getD p d4).2.2.2) (P.length + 1) mo (P.getD pl d4).2.2.2 := by
      rw [nm_eq, qK_upl, qF_upl, qT_upl, qR_upl]
      unfold rs_nm rs_num
      have r1 := rg_upl (lk := 1) (g := (P.getD pl d4).2.2.2) (n := P.length + 1) (P := (lsJ P (pl + 1) (Es.length, 0, eRw (insE T n i2 Es.length), (P.getD pl d4).2.2.2))) (by omega)
      have r2 := rg_upl (lk := 1) (g := (P.getD pl d4).2.2.2 + 1) (n := P.length + 1) (P := (lsJ P (pl + 1) (Es.length, 0, eRw (insE T n i2 Es.length), (P.getD pl d4).2.2.2))) (by omega)
      rw [r1, r2]
    refine ⟨(glx M 0 (gl_S (fun e => (Es ++ [(insE T n i2 Es.length)]).getD e dE) (upl 1 (lsJ P (pl + 1) (Es.length, 0, eRw (insE T n i2 Es.length), (P.getD pl d4).2.2.2))) (rg_first (fun t => ((upl 1 (lsJ P (pl + 1) (Es.length, 0, eRw (insE T n i2 Es.length), (P.getD pl d4).2.2.2))).getD t d4).2.2.2) ((P.getD pl d4).2.2.2 + 1) (P.length + 1) 0) (rg_first (fun t => ((upl 1 (lsJ P (pl + 1) (Es.length, 0, eRw (insE T n i2 Es.length), (P.getD pl d4).2.2.2))).getD t d4).2.2.2) ((P.getD pl d4).2.2.2 + 1 + 1) (P.length + 1) 0) mo)), _, _, _, _, ?_, eI_m9 (d_insY l D _ _ _ _ _ _ _ _ _ _ _ _ _ _ _ _ _ _ _ _ _ _ _ _ _ _ _ _ _ _ _ _ _ _ _ _ _ _ _ _ _ _ _ _ _ _ _ _ _ _ _ _ ((P.getD pl d4).2.2.2 + 1) (rg_first (fun t => ((upl 1 (lsJ P (pl + 1) (Es.length, 0, eRw (insE T n i2 Es.length), (P.getD pl d4).2.2.2))).getD t d4).2.2.2) ((P.getD pl d4).2.2.2 + 1) (P.length + 1) 0) (rg_first (fun t => ((upl 1 (lsJ P (pl + 1) (Es.length, 0, eRw (insE T n i2 Es.length), (P.getD pl d4).2.2.2))).getD t d4).2.2.2) ((P.getD pl d4).2.2.2 + 1 + 1) (P.length + 1) 0) 800 (glx M 0 (gl_S (fun e => (Es ++ [(insE T n i2 Es.length)]).getD e dE) (upl 1 (lsJ P (pl + 1) (Es.length, 0, eRw (insE T n i2 Es.length), (P.getD pl d4).2.2.2))) (rg_first (fun t => ((upl 1 (lsJ P (pl + 1) (Es.length, 0, eRw (insE T n i2 Es.length), (P.getD pl d4).2.2.2))).getD t d4).2.2.2) ((P.getD pl d4).2.2.2 + 1) (P.length + 1) 0) (rg_first (fun t => ((upl 1 (lsJ P (pl + 1) (Es.length, 0, eRw (insE T n i2 Es.length), (P.getD pl d4).2.2.2))).getD t d4).2.2.2) ((P.getD pl d4).2.2.2 + 1 + 1) (P.length + 1) 0) mo)) 530 pl j i2 h_dk h_tp h_by h_pr h_pcs h_spr h_pc h_sp h_els h_es h_nwh h_gl h_lf h_ra h_fa h_la hn hTb hk6 (by omega) (by omega) (by rw [hxe]; exact hQ) (by rw [hxe, e2]; exact hQ2) (by rw [hxe, hpe, e2]; exact Nat.le_trans hS2 (by decide)) hmo1 hmo (by omega) (by rw [hxe, hpe, e2]; exact fun t ht => Nat.le_trans (hgu t ht) (by decide)) (by rw [hxe, hpe, e2]) (by rw [hxe, hpe, e2]) (by rw [hxe, e2]; exact (hgr _).1) (by rw [hxe, e2]; exact (hgr _).2) hbn.2.1.2.2.1 (by omega) (by rw [hxe, e2]; rfl) hj c3 (wd_ex.mpr c4) (by omega) (by rw [(upl_1 1 P pl).1]; exact hplj) (fun t h1 h2 => by rw [(upl_1 1 P t).1]; exact hlst t h1 (by omega)) (by rw [upl_at hpl]) (by decide) (by decide) (by decide) hbn.1.2.2.2 hbn.1.2.2.1 hbn.1.1 (by decide) hbn.2.1.1 (by omega) hbn.2.1.2.1) (fun r L1 g1 h9 => ?_)⟩
    · exact ⟨hBg, hBm, by omega, by omega, by omega, by omega⟩
    · rw [hxe, e2] at h9
      obtain ⟨ra2, fa2, la2, k0, k1, k2, w7, w8, w9, u1, u2, u3, u4, u5, u6, p2, s2, c2, cp2, hfr, q1, q2, t1, t2, t3, t4, t5, t6, t7, t8, h9⟩ := h9
      refine Or.inr (Or.inr (Or.inr ⟨j, pl, ⟨by omega, rfl, hk6⟩, ⟨by decide, c3, c4, by omega⟩, ⟨hpl, hplj, hlst⟩, ?_⟩))
      rcases h9 with ⟨h1, hr9, s1, s2_, s3, s4, s5⟩ | ⟨h1, hr9, q_el, cap2, h2, s1, s2_, s3, s4, s5⟩
      · exact Or.inl ⟨by rw [← hns]; exact h1, hr9, ⟨(va_up (va_up (va_up (va_up (va_up a 15 ra2) 16 fa2) 17 la2) 23 cp2) 24 c2), (va_up (va_up (va_up (va_up (va_up (va_up (va_up (va_up (va_up (va_up (va_up x 2 u1) 3 u2) 4 u3) 5 u4) 6 u5) 7 u6) 8 (nI (gl_S (fun e => (Es ++ [(insE T n i2 Es.length)]).getD e dE) (upl 1 (lsJ P (pl + 1) (Es.length, 0, eRw (insE T n i2 Es.length), (P.getD pl d4).2.2.2))) (rg_first (fun t => ((upl 1 (lsJ P (pl + 1) (Es.length, 0, eRw (insE T n i2 Es.length), (P.getD pl d4).2.2.2))).getD t d4).2.2.2) ((P.getD pl d4).2.2.2 + 1) (P.length + 1) 0) (rg_first (fun t => ((upl 1 (lsJ P (pl + 1) (Es.length, 0, eRw (insE T n i2 Es.length), (P.getD pl d4).2.2.2))).getD t d4).2.2.2) ((P.getD pl d4).2.2.2 + 1 + 1) (P.length + 1) 0) mo).length)) 9 (nI (rg_first (fun t => ((upl 1 (lsJ P (pl + 1) (Es.length, 0, eRw (insE T n i2 Es.length), (P.getD pl d4).2.2.2))).getD t d4).2.2.2) ((P.getD pl d4).2.2.2 + 1 + 1) (P.length + 1) 0))) 10 w7) 11 w8) 12 w9), xs, p2, s2, (va_up (va_up (va_up f 0 k0) 1 k1) 2 k2), (h_dk.fr hfr (nm9 rfl)), s4, s5, (h_rd.fr hfr (nm9 rfl)), s2_, s3, (h_reo.fr hfr (nm9 rfl) (nm9 rfl)), (h_pr.fr hfr (nm9 rfl)), t6, t7, s1, t8, (h_nwh.fr hfr (nm9 rfl)), t2, t1, t3, t4, t5, (h_sl.fr hfr (nm9 rfl)), (h_nob.fr hfr (nm9 rfl)), ⟨⟨hbn.1.1, hbn.1.2.1, q2.2.2.1, q2.2.1⟩, ⟨q2.1, q1, q2.2.2.2, hBm⟩, hbn.2.2⟩, (fun z9 => absurd z9 (by decide)), (h_bz.fr hfr ⟨⟨nm9 rfl, nm9 rfl⟩, nm9 rfl, nm9 rfl⟩)⟩⟩
      · exact Or.inr ⟨by rw [← hns]; exact h1, hr9, ⟨(va_up (va_up (va_up (va_up (va_up (va_up a 15 ra2) 16 fa2) 17 la2) 23 cp2) 24 c2) 21 cap2), (va_up (va_up (va_up (va_up (va_up (va_up (va_up (va_up (va_up (va_up (va_up x 2 u1) 3 u2) 4 u3) 5 u4) 6 u5) 7 u6) 8 (nI (gl_S (fun e => (Es ++ [(insE T n i2 Es.length)]).getD e dE) (upl 1 (lsJ P (pl + 1) (Es.length, 0, eRw (insE T n i2 Es.length), (P.getD pl d4).2.2.2))) (rg_first (fun t => ((upl 1 (lsJ P (pl + 1) (Es.length, 0, eRw (insE T n i2 Es.length), (P.getD pl d4).2.2.2))).getD t d4).2.2.2) ((P.getD pl d4).2.2.2 + 1) (P.length + 1) 0) (rg_first (fun t => ((upl 1 (lsJ P (pl + 1) (Es.length, 0, eRw (insE T n i2 Es.length), (P.getD pl d4).2.2.2))).getD t d4).2.2.2) ((P.getD pl d4).2.2.2 + 1 + 1) (P.length + 1) 0) mo).length)) 9 (nI (rg_first (fun t => ((upl 1 (lsJ P (pl + 1) (Es.length, 0, eRw (insE T n i2 Es.length), (P.getD pl d4).2.2.2))).getD t d4).2.2.2) ((P.getD pl d4).2.2.2 + 1 + 1) (P.length + 1) 0))) 10 w7) 11 w8) 12 w9), (xs ++ [q_el]), p2, s2, (va_up (va_up (va_up f 0 k0) 1 k1) 2 k2), (h_dk.fr hfr (nm9 rfl)), s4, s5, (h_rd.fr hfr (nm9 rfl)), s2_, s3, (h_reo.fr hfr (nm9 rfl) (nm9 rfl)), (h_pr.fr hfr (nm9 rfl)), t6, t7, s1, t8, (h_nwh.fr hfr (nm9 rfl)), t2, t1, t3, t4, t5, (h_sl.fr hfr (nm9 rfl)), (h_nob.fr hfr (nm9 rfl)), ⟨⟨h2, hbn.1.2.1, q2.2.2.1, q2.2.1⟩, ⟨q2.1, q1, q2.2.2.2, hBm⟩, hbn.2.2⟩, (fun z9 => absurd z9 (by decide)), (h_bz.fr hfr ⟨⟨nm9 rfl, nm9 rfl⟩, nm9 rfl, nm9 rfl⟩)⟩⟩
  · refine ⟨M, _, _, _, _, ?_, eI_m9 (d_insB l D _ _ _ _ _ _ _ _ _ _ _ _ _ _ _ _ _ _ _ _ _ _ i1 i2 h_dk h_els h_es (by omega) ce) (fun r L1 g1 h9 => by obtain ⟨hr9, rfl, rfl⟩ := h9; exact Or.inl ⟨Or.inl (by rw [← hxe]; exact ce), hr9, h⟩)⟩
    exact ⟨Nat.le_refl _, hbn.2.1.2.2.2, by omega, by omega, by omega, by omega⟩
