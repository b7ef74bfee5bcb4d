theorem pgc_nx {P : List Q4} {pn : Nat} {C : Nat → Option Q4} {fc fn : Nat → Int32} {p r : Nat} {y : Q4} (hz : ∀ p, p < pn → 0 < qT P p - qF P p) (htab : cf_tab P pn C 0 fc fn) (hcl : bk_cl (qF P) (qT P) pn C 0) (hp : p < pn) (hr : r < qT P p - qF P p) (hy : C (qS P p + r) = some y) : pg_at (qF P) (qT P) pn C y.2.1 y.2.2.1 ∧ qS P p + r < qS P y.2.1 + y.2.2.1 ∧ qS P y.2.1 + y.2.2.1 ≤ qS P pn := by
  have h1 := qS_in P hp
  have hr2 : r < (P.getD p d4).2.2.1 - (P.getD p d4).2.1 := hr
  have h2 := (htab.1 (qS P p + r) (Nat.zero_le _) (by omega)).2 y hy
  refine ⟨⟨h2.2.2.1, h2.2.2.2.2.1, fun h3 => ⟨h2.2.2.2.1 h3, ?_⟩⟩, h2.2.2.2.2.2, rs_S_end h2.2.2.1 h2.2.2.2.1 h2.2.2.2.2.1⟩
  rcases hcl _ y (Nat.zero_le _) (show rs_S (qF P) (qT P) p + r < rs_S (qF P) (qT P) pn from (show qS P p + r < qS P pn by omega)) hy with h4 | h4
  · exact absurd (rs_S_pn hz h2.2.2.1 h2.2.2.2.1 h4) (by omega)
  · exact h4
theorem cf_some {P : List Q4} {b : Option Q4} {v1 v2 : Int32} {y : Q4} (h : cf_is P b v1 v2) (hb : b = some y) : v1 = nI y.1 ∧ v2 = nI (qS P y.2.1 + y.2.2.1) := by rw [hb] at h; exact h
theorem cf_none {P : List Q4} {b : Option Q4} {v1 v2 : Int32} (h : cf_is P b v1 v2) (hb : b = none) : v1 = -1 ∧ v2 = -1 := by rw [hb] at h; exact h
theorem pz_of {ne : Nat} {EE : Nat → E5} {P : List Q4} {n : Nat} (hQ : pq_ok ne EE P) (h : n ≤ P.length) : ∀ p, p < n → 0 < qT P p - qF P p := fun p hp => by
  have h2 := hQ p (by omega)
  show 0 < (P.getD p d4).2.2.1 - (P.getD p d4).2.1
  omega
abbrev cX0_countPages : ByteArray := prog_2_method_18_code
def yX0_countPages : MethodName := ⟨RX0, "countPages", "()V"⟩
abbrev cX0_placeBehind : ByteArray := prog_2_method_19_code
def yX0_placeBehind : MethodName := ⟨RX0, "placeBehind", "(I)I"⟩
theorem k_30 : (Cond.selects RX0 yX0_placeBehind yX0_placeBehind) ∈ gT := gT_i 30 (by decide +kernel) rfl
theorem k_356 : (Cond.fieldLink RX0 64 "ScriptDesk$Breaking" "pageCount" "I") ∈ gT := gT_i 356 (by decide +kernel) rfl
theorem k_855 : (Cond.methodLink RX0 70 yX0_placeBehind) ∈ gT := gT_i 855 (by decide +kernel) rfl
theorem k_857 : (Cond.instanceMethod yX0_placeBehind) ∈ gT := gT_i 857 (by decide +kernel) rfl
theorem k_858 : (Cond.code yX0_placeBehind cX0_placeBehind 2 (some .int)) ∈ gT := gT_i 858 (by decide +kernel) rfl
theorem dX0_placeBehind_0 : decode cX0_placeBehind 0 = .ok (.iload_n 1, 1) := by decide +kernel
theorem dX0_placeBehind_1 : decode cX0_placeBehind 1 = .ok (.ifCond .lt 21, 3) := by decide +kernel
theorem dX0_placeBehind_4 : decode cX0_placeBehind 4 = .ok (.iload_n 1, 1) := by decide +kernel
theorem dX0_placeBehind_5 : decode cX0_placeBehind 5 = .ok (.aload_n 0, 1) := by decide +kernel
theorem dX0_placeBehind_6 : decode cX0_placeBehind 6 = .ok (.getfield 39, 3) := by decide +kernel
theorem dX0_placeBehind_9 : decode cX0_placeBehind 9 = .ok (.if_icmp .ge 13, 3) := by decide +kernel
theorem dX0_placeBehind_12 : decode cX0_placeBehind 12 = .ok (.aload_n 0, 1) := by decide +kernel
theorem dX0_placeBehind_13 : decode cX0_placeBehind 13 = .ok (.getfield 18, 3) := by decide +kernel
theorem dX0_placeBehind_16 : decode cX0_placeBehind 16 = .ok (.iload_n 1, 1) := by decide +kernel
theorem dX0_placeBehind_17 : decode cX0_placeBehind 17 = .ok (.iaload, 1) := by decide +kernel
theorem dX0_placeBehind_18 : decode cX0_placeBehind 18 = .ok (.iconst (-1), 1) := by decide +kernel
theorem dX0_placeBehind_19 : decode cX0_placeBehind 19 = .ok (.if_icmp .ne 8, 3) := by decide +kernel
theorem dX0_placeBehind_27 : decode cX0_placeBehind 27 = .ok (.aload_n 0, 1) := by decide +kernel
theorem dX0_placeBehind_28 : decode cX0_placeBehind 28 = .ok (.getfield 18, 3) := by decide +kernel
theorem dX0_placeBehind_31 : decode cX0_placeBehind 31 = .ok (.iload_n 1, 1) := by decide +kernel
theorem dX0_placeBehind_32 : decode cX0_placeBehind 32 = .ok (.iaload, 1) := by decide +kernel
theorem dX0_placeBehind_33 : decode cX0_placeBehind 33 = .ok (.ireturn, 1) := by decide +kernel
theorem dX0_countPages_20 : decode cX0_countPages 20 = .ok (.iload_n 2, 1) := by decide +kernel
theorem dX0_countPages_21 : decode cX0_countPages 21 = .ok (.aload_n 0, 1) := by decide +kernel
theorem dX0_countPages_22 : decode cX0_countPages 22 = .ok (.getfield 39, 3) := by decide +kernel
theorem dX0_countPages_25 : decode cX0_countPages 25 = .ok (.if_icmp .ge 33, 3) := by decide +kernel
theorem dX0_countPages_28 : decode cX0_countPages 28 = .ok (.iload_n 1, 1) := by decide +kernel
theorem dX0_countPages_29 : decode cX0_countPages 29 = .ok (.aload_n 0, 1) := by decide +kernel
theorem dX0_countPages_30 : decode cX0_countPages 30 = .ok (.getfield 39, 3) := by decide +kernel
theorem dX0_countPages_33 : decode cX0_countPages 33 = .ok (.if_icmp .ge 25, 3) := by decide +kernel
theorem dX0_countPages_36 : decode cX0_countPages 36 = .ok (.aload_n 0, 1) := by decide +kernel
theorem dX0_countPages_37 : decode cX0_countPages 37 = .ok (.iload_n 1, 1) := by decide +kernel
theorem dX0_countPages_38 : decode cX0_countPages 38 = .ok (.invokevirtual 70, 3) := by decide +kernel
theorem dX0_countPages_41 : decode cX0_countPages 41 = .ok (.istore_n 1, 1) := by decide +kernel
theorem dX0_countPages_42 : decode cX0_countPages 42 = .ok (.aload_n 0, 1) := by decide +kernel
theorem dX0_countPages_43 : decode cX0_countPages 43 = .ok (.dup, 1) := by decide +kernel
theorem dX0_countPages_44 : decode cX0_countPages 44 = .ok (.getfield 64, 3) := by decide +kernel
theorem dX0_countPages_47 : decode cX0_countPages 47 = .ok (.iconst 1, 1) := by decide +kernel
theorem dX0_countPages_48 : decode cX0_countPages 48 = .ok (.iadd, 1) := by decide +kernel
theorem dX0_countPages_49 : decode cX0_countPages 49 = .ok (.putfield 64, 3) := by decide +kernel
theorem dX0_countPages_52 : decode cX0_countPages 52 = .ok (.iinc 2 1, 3) := by decide +kernel
theorem dX0_countPages_55 : decode cX0_countPages 55 = .ok (.goto (-35), 3) := by decide +kernel
theorem dX0_countPages_0 : decode cX0_countPages 0 = .ok (.aload_n 0, 1) := by decide +kernel
theorem dX0_countPages_1 : decode cX0_countPages 1 = .ok (.iconst 0, 1) := by decide +kernel
theorem dX0_countPages_2 : decode cX0_countPages 2 = .ok (.putfield 64, 3) := by decide +kernel
theorem dX0_countPages_5 : decode cX0_countPages 5 = .ok (.aload_n 0, 1) := by decide +kernel
theorem dX0_countPages_6 : decode cX0_countPages 6 = .ok (.getfield 15, 3) := by decide +kernel
theorem dX0_countPages_9 : decode cX0_countPages 9 = .ok (.iconst 0, 1) := by decide +kernel
theorem dX0_countPages_10 : decode cX0_countPages 10 = .ok (.iaload, 1) := by decide +kernel
theorem dX0_countPages_11 : decode cX0_countPages 11 = .ok (.iconst (-1), 1) := by decide +kernel
theorem dX0_countPages_12 : decode cX0_countPages 12 = .ok (.if_icmp .ne 4, 3) := by decide +kernel
theorem dX0_countPages_16 : decode cX0_countPages 16 = .ok (.iconst 0, 1) := by decide +kernel
theorem dX0_countPages_17 : decode cX0_countPages 17 = .ok (.istore_n 1, 1) := by decide +kernel
theorem dX0_countPages_18 : decode cX0_countPages 18 = .ok (.iconst 0, 1) := by decide +kernel
theorem dX0_countPages_19 : decode cX0_countPages 19 = .ok (.istore_n 2, 1) := by decide +kernel
theorem dX0_countPages_58 : decode cX0_countPages 58 = .ok (.return_, 1) := by decide +kernel
theorem dX0_countPages_15 : decode cX0_countPages 15 = .ok (.return_, 1) := by decide +kernel
set_option maxHeartbeats 1000000 in
set_option maxRecDepth 100000 in
theorem bk_roomC (l : Launch) (D : va_G) (z : Nat → Nat) (cB cI_ cO : ClassId) (L0 : List Nat) (g0 : hG) (pr : Nat) (bk lf bop cf nx bn bs : Nat) (y7 y8 y9 y10 : Int32) (M : Nat) (fc fn : Nat → Int32) (h_bk : ho L0 g0 bk 21 (.inr (1, [.ref pr, .ref lf, .ref bop, .int (nI bn), .int (nI bs), .ref cf, .ref nx, .int y7, .int y8, .int y9, .int y10]))) (h_cf : ho L0 g0 cf 23 (.inl (cI_, M, .inl fc))) (h_nx : ho L0 g0 nx 24 (.inl (cI_, M, .inl fn))) (hM : M ≤ 60000) (hbs : bs < M) : eV l D yX0_makeRoom cX0_makeRoom 1 none 0 0 2 (4 * bs) [.ref bk] z cB cI_ cO L0 g0 (fun L g => ∃ (c2 n2 M2 : Nat) (f1 f2 : Nat → Int32), bs < M2 ∧ M2 ≤ 60000 ∧ fr [21, 23, 24] L0 g0 L g ∧ ho L g bk 21 (.inr (1, [.ref pr, .ref lf, .ref bop, .int (nI bn), .int (nI bs), .ref c2, .ref n2, .int y7, .int y8, .int y9, .int y10])) ∧ ho L g c2 23 (.inl (cI_, M2, .inl f1)) ∧ ho L g n2 24 (.inl (cI_, M2, .inl f2))) := by
  refine o_sv (by decide) (Nat.le_of_ble_eq_true rfl) ?_
  intro p e s m below meth c A ls hf hr hlocks hin hK hP hD hS hA hZ hN hl
  obtain ⟨hx, hb, hml, hown, hts⟩ := id hf
  have hl : lv_has ls 1 [(0, .ref bk)] := hl
  refine lv_aload_n hx hb dX0_makeRoom_0 rfl (lv_at hl 0 rfl) ?_
  refine o_get (D := D) (ci := 1) (v := .int (nI bs)) (C := RX0) (T := TX0) (N := 11) hx hb hts inX0 hown hK hP h_bk rfl 4 (by decide) (hts _ k_352) (fun _ h9 => h9) rfl dX0_makeRoom_1 ?_
  refine lv_aload_n hx hb dX0_makeRoom_4 rfl (lv_at hl 0 rfl) ?_
  refine o_get (D := D) (ci := 1) (v := .ref cf) (C := RX0) (T := TX0) (N := 11) hx hb hts inX0 hown hK hP h_bk rfl 5 (by decide) (hts _ k_353) (fun _ h9 => h9) rfl dX0_makeRoom_5 ?_
  refine o_leni hx hb hK hP h_cf dX0_makeRoom_8 ?_
  refine lv_icmp_lt (tgt := 36) hx hb dX0_makeRoom_9 (by decide) (fun c_1 => ?_) (fun c_1 => ?_)
  · have c_1 := q_lt (a := bs) (b := M) (by omega) (by omega) c_1
    exact o_rv hf hr hlocks hK hP hD hS (show 0 ≤ 2 by omega) (show 0 ≤ 4 * bs by omega) ⟨cf, nx, M, fc, fn, hbs, hM, fr.rf, h_bk, h_cf, h_nx⟩ dX0_makeRoom_36
  · have c_1 := q_nlt (a := bs) (b := M) (by omega) (by omega) c_1
    exact False.elim (by omega)
theorem bk_room (l : Launch) (D : va_G) (z : Nat → Nat) (cB cI_ cO : ClassId) (L0 : List Nat) (g0 : hG) (pr : Nat) (bk lf bop cf nx bn bs : Nat) (y7 y8 y9 y10 : Int32) (M : Nat) (fc fn : Nat → Int32) (h_bk : ho L0 g0 bk 21 (.inr (1, [.ref pr, .ref lf, .ref bop, .int (nI bn), .int (nI bs), .ref cf, .ref nx, .int y7, .int y8, .int y9, .int y10]))) (h_cf : ho L0 g0 cf 23 (.inl (cI_, M, .inl fc))) (h_nx : ho L0 g0 nx 24 (.inl (cI_, M, .inl fn))) (hM : M ≤ 60000) (hM1 : 1 ≤ M) (hb2 : bs ≤ 8000) : eV l D yX0_makeRoom cX0_makeRoom 1 none 0 0 2 (4 * bs) [.ref bk] z cB cI_ cO L0 g0 (fun L g => ∃ (c2 n2 M2 : Nat) (f1 f2 : Nat → Int32), bs < M2 ∧ M2 ≤ 60000 ∧ fr [21, 23, 24] L0 g0 L g ∧ ho L g bk 21 (.inr (1, [.ref pr, .ref lf, .ref bop, .int (nI bn), .int (nI bs), .ref c2, .ref n2, .int y7, .int y8, .int y9, .int y10])) ∧ ho L g c2 23 (.inl (cI_, M2, .inl f1)) ∧ ho L g n2 24 (.inl (cI_, M2, .inl f2))) := by
  by_cases hbs : bs < M
  · exact bk_roomC l D z cB cI_ cO L0 g0 pr bk lf bop cf nx bn bs y7 y8 y9 y10 M fc fn h_bk h_cf h_nx hM hbs
  · refine eV_mo (bk_roomB l D z cB cI_ cO L0 g0 pr bk lf bop cf nx bn bs y7 y8 y9 y10 M fc fn h_bk h_cf h_nx hM (by omega) hb2) (fun L g h => ?_)
    obtain ⟨c2, n2, h1, h2, h3, h4⟩ := h
    exact ⟨c2, n2, 2 * bs, _, _, by omega, by omega, h1, h2, h3, h4⟩
set_option maxHeartbeats 1000000 in
set_option maxRecDepth 100000 in
theorem bk_beh (l : Launch) (D : va_G) (z : Nat → Nat) (cB cI_ cO : ClassId) (L0 : List Nat) (g0 : hG) (pr : Nat) (bk lf bop cf nx bn bs : Nat) (y7 y8 y9 y10 : Int32) (M : Nat) (fn : Nat → Int32) (pl vn : Nat) (h_bk : ho L0 g0 bk 21 (.inr (1, [.ref pr, .ref lf, .ref bop, .int (nI bn), .int (nI bs), .ref cf, .ref nx, .int y7, .int y8, .int y9, .int y10]))) (h_nx : ho L0 g0 nx 24 (.inl (cI_, M, .inl fn))) (hM : M ≤ 60000) (hbs : bs < M) (hpl : pl < bs) (hvn : fn pl = nI vn) (hv : vn ≤ 20000) : eIs l D yX0_placeBehind cX0_placeBehind 2 (some .int) 0 0 0 0 [.ref bk, .int (nI pl)] z cB cI_ cO L0 g0 (fun r => r = nI vn) := by
  refine o_si (by decide) (Nat.le_of_ble_eq_true rfl) ?_
  intro p e s m below meth c A ls hf hr hlocks hin hK hP hD hS hA hZ hN hl
  obtain ⟨hx, hb, hml, hown, hts⟩ := id hf
  have hl : lv_has ls 2 [(0, .ref bk), (1, .int (nI pl))] := hl
  refine lv_iload_n hx hb dX0_placeBehind_0 rfl (lv_at hl 1 rfl) ?_
  refine lv_if_lt (tgt := 22) hx hb dX0_placeBehind_1 (by decide) (fun c_1 => ?_) (fun c_1 => ?_)
  · have c_1 := q_lt (a := pl) (b := 0) (by omega) (by omega) c_1
    exact False.elim (by omega)
  · have c_1 := q_nlt (a := pl) (b := 0) (by omega) (by omega) c_1
    refine lv_iload_n hx hb dX0_placeBehind_4 rfl (lv_at hl 1 rfl) ?_
    refine lv_aload_n hx hb dX0_placeBehind_5 rfl (lv_at hl 0 rfl) ?_
    refine o_get (D := D) (ci := 1) (v := .int (nI bs)) (C := RX0) (T := TX0) (N := 11) hx hb hts inX0 hown hK hP h_bk rfl 4 (by decide) (hts _ k_352) (fun _ h9 => h9) rfl dX0_placeBehind_6 ?_
    refine lv_icmp_ge (tgt := 22) hx hb dX0_placeBehind_9 (by decide) (fun c_2 => ?_) (fun c_2 => ?_)
    · have c_2 := q_le (a := bs) (b := pl) (by omega) (by omega) c_2
      exact False.elim (by omega)
    · have c_2 := q_nle (a := bs) (b := pl) (by omega) (by omega) c_2
      refine lv_aload_n hx hb dX0_placeBehind_12 rfl (lv_at hl 0 rfl) ?_
      refine o_get (D := D) (ci := 1) (v := .ref nx) (C := RX0) (T := TX0) (N := 11) hx hb hts inX0 hown hK hP h_bk rfl 6 (by decide) (hts _ k_354) (fun _ h9 => h9) rfl dX0_placeBehind_13 ?_
      refine lv_iload_n hx hb dX0_placeBehind_16 rfl (lv_at hl 1 rfl) ?_
      refine o_ild (X := pl) hx hb hK hP h_nx (by omega) (by omega) dX0_placeBehind_17 ?_
      refine q_seti (y := (nI vn)) hvn ?_
      refine lv_iconst (v := (-1)) hx hb dX0_placeBehind_18 (by decide) ?_
      refine lv_icmp_ne (tgt := 27) hx hb dX0_placeBehind_19 (by decide) (fun _ => ?_) (fun hno => absurd hno (q_nem (by decide) (by omega)))
      refine lv_aload_n hx hb dX0_placeBehind_27 rfl (lv_at hl 0 rfl) ?_
      refine o_get (D := D) (ci := 1) (v := .ref nx) (C := RX0) (T := TX0) (N := 11) hx hb hts inX0 hown hK hP h_bk rfl 6 (by decide) (hts _ k_354) (fun _ h9 => h9) rfl dX0_placeBehind_28 ?_
      refine lv_iload_n hx hb dX0_placeBehind_31 rfl (lv_at hl 1 rfl) ?_
      refine o_ild (X := pl) hx hb hK hP h_nx (by omega) (by omega) dX0_placeBehind_32 ?_
      refine q_seti (y := (nI vn)) hvn ?_
      exact o_ri hf hr rfl hlocks hK hP hD hS (show 0 ≤ 0 by omega) (show 0 ≤ 0 by omega) ⟨rfl, rfl, rfl⟩ dX0_placeBehind_33
set_option maxHeartbeats 1000000 in
set_option maxRecDepth 100000 in
theorem cp_loop {p : Program} {l : Launch} {e : Env} {R : Room} {s : State} {m : MethodId} {args : Array Value} {below : List Frame} {meth : Method} {c : Code} {Q : State → Prop} {D : va_G} {A : Nat → Prop} {z : Nat → Nat} {cB cI_ cO : ClassId} {L0 : List Nat} {g0 : hG} {pr : Nat} {pa : List Nat} {P : List Q4} {bk lf bop cf nx : Nat} {y7 y9 y10 : Int32} {M : Nat} {fc fn : Nat → Int32} {C : Nat → Option Q4} (hz : ∀ p, p < pa.length → 0 < qT P p - qF P p) (hSn : qS P pa.length ≤ 8000) (hMs : qS P pa.length < M) (hM : M ≤ 60000) (hC : cf_tab P pa.length C 0 fc fn) (hcl : bk_cl (qF P) (qT P) pa.length C 0) (hRf : 8 ≤ R.frames) (hRl : 120 ≤ R.locals) (hA : ∀ q : Nat, s.heap.size ≤ q → A q) (hf : CallFix p m c cX0_countPages 3 s args gT yX0_countPages.cls) (hK : va_K D vcl (dT cB cI_ cO) s) (hZ : zA z A s s.heap) (hN : zB z s) :
    ∀ (k : Nat) (pq : Nat) (rr : Nat) (cc : Nat) (j : Nat) (cells slots : Nat) (L : List Nat) (g : hG) (H : Heap) (locs : List Loc) (ls : Array Slot), pg_at (qF P) (qT P) pa.length C pq rr → qS P pa.length ≤ k + (qS P pq + rr) → j ≤ qS P pq + rr ∧ qS P pq + rr ≤ qS P pa.length → cc ≤ j → cells ≤ R.cells → slots ≤ R.slots → ho L g bk 21 (.inr (1, [.ref pr, .ref lf, .ref bop, .int (nI (pa.length)), .int (nI ((qS P pa.length))), .ref cf, .ref nx, .int y7, .int (nI cc), .int y9, .int y10])) → ho L g cf 23 (.inl (cI_, M, .inl fc)) → ho L g nx 24 (.inl (cI_, M, .inl fn)) → fr [21] L0 g0 L g → va_P D vcl (dW L g) H → va_D A (dW L g) → va_S A s.heap H locs → lv_has ls 3 [(2, .int (nI j)), (1, .int (nI ((qS P pq + rr)))), (0, .ref bk)] →
    (∀ (c2 : Nat)  (L : List Nat) (g : hG) (H : Heap) (locs : List Loc) (ls : Array Slot), c2 = cc + (bk_pg (qF P) (qT P) pa.length C k pq rr).length → ho L g bk 21 (.inr (1, [.ref pr, .ref lf, .ref bop, .int (nI (pa.length)), .int (nI ((qS P pa.length))), .ref cf, .ref nx, .int y7, .int (nI c2), .int y9, .int y10])) → ho L g cf 23 (.inl (cI_, M, .inl fc)) → ho L g nx 24 (.inl (cI_, M, .inl fn)) → fr [21] L0 g0 L g → va_P D vcl (dW L g) H → va_D A (dW L g) → va_S A s.heap H locs → lv_has ls 3 [(0, .ref bk)] → W p l e R s m args below meth c H locs cells slots Q (F0 m 58 ls [])) →
    W p l e R s m args below meth c H locs cells slots Q (F0 m 20 ls []) := by
  obtain ⟨hx, hb, hml, hown, hts⟩ := id hf
  intro k
  induction k with
  | zero =>
    intro pq rr cc j cells slots L g H locs ls hat hfu hj hcc hRc hRs h_bk h_cf h_nx hfr hP hD hS hl kk
    refine lv_iload_n hx hb dX0_countPages_20 rfl (lv_at hl 0 rfl) ?_
    refine lv_aload_n hx hb dX0_countPages_21 rfl (lv_at hl 2 rfl) ?_
    refine o_get (D := D) (ci := 1) (v := .int (nI ((qS P pa.length)))) (C := RX0) (T := TX0) (N := 11) hx hb hts inX0 hown hK hP h_bk rfl 4 (by decide) (hts _ k_352) (fun _ h9 => h9) rfl dX0_countPages_22 ?_
    refine lv_icmp_ge (tgt := 58) hx hb dX0_countPages_25 (by decide) (fun c_1 => ?_) (fun c_1 => ?_)
    · have c_1 := q_le (a := (qS P pa.length)) (b := j) (by omega) (by omega) c_1
      have hpe : ¬ pq < pa.length := fun h9 => by have h8 := qS_in P h9; have h7 : rr < (P.getD pq d4).2.2.1 - (P.getD pq d4).2.1 := (hat.2.2 h9).1; omega
      exact kk cc _ _ H locs ls (by rw [bk_pg_out hpe]; rfl) h_bk h_cf h_nx hfr hP hD hS (lv_sub hl (l' := [(0, .ref bk)]) [2] rfl)
    · have c_1 := q_nle (a := (qS P pa.length)) (b := j) (by omega) (by omega) c_1
      refine lv_iload_n hx hb dX0_countPages_28 rfl (lv_at hl 1 rfl) ?_
      refine lv_aload_n hx hb dX0_countPages_29 rfl (lv_at hl 2 rfl) ?_
      refine o_get (D := D) (ci := 1) (v := .int (nI ((qS P pa.length)))) (C := RX0) (T := TX0) (N := 11) hx hb hts inX0 hown hK hP h_bk rfl 4 (by decide) (hts _ k_352) (fun _ h9 => h9) rfl dX0_countPages_30 ?_
      refine lv_icmp_ge (tgt := 58) hx hb dX0_countPages_33 (by decide) (fun c_2 => ?_) (fun c_2 => ?_)
      · have c_2 := q_le (a := (qS P pa.length)) (b := (qS P pq + rr)) (by omega) (by omega) c_2
        have hpe : ¬ pq < pa.length := fun h9 => by have h8 := qS_in P h9; have h7 : rr < (P.getD pq d4).2.2.1 - (P.getD pq d4).2.1 := (hat.2.2 h9).1; omega
        exact kk cc _ _ H locs ls (by rw [bk_pg_out hpe]; rfl) h_bk h_cf h_nx hfr hP hD hS (lv_sub hl (l' := [(0, .ref bk)]) [2] rfl)
      · have c_2 := q_nle (a := (qS P pa.length)) (b := (qS P pq + rr)) (by omega) (by omega) c_2
        exact False.elim (by omega)
  | succ k ih =>
    intro pq rr cc j cells slots L g H locs ls hat hfu hj hcc hRc hRs h_bk h_cf h_nx hfr hP hD hS hl kk
    refine lv_iload_n hx hb dX0_countPages_20 rfl (lv_at hl 0 rfl) ?_
    refine lv_aload_n hx hb dX0_countPages_21 rfl (lv_at hl 2 rfl) ?_
    refine o_get (D := D) (ci := 1) (v := .int (nI ((qS P pa.length)))) (C := RX0) (T := TX0) (N := 11) hx hb hts inX0 hown hK hP h_bk rfl 4 (by decide) (hts _ k_352) (fun _ h9 => h9) rfl dX0_countPages_22 ?_
    refine lv_icmp_ge (tgt := 58) hx hb dX0_countPages_25 (by decide) (fun c_1 => ?_) (fun c_1 => ?_)
    · have c_1 := q_le (a := (qS P pa.length)) (b := j) (by omega) (by omega) c_1
      have hpe : ¬ pq < pa.length := fun h9 => by have h8 := qS_in P h9; have h7 : rr < (P.getD pq d4).2.2.1 - (P.getD pq d4).2.1 := (hat.2.2 h9).1; omega
      exact kk cc _ _ H locs ls (by rw [bk_pg_out hpe]; rfl) h_bk h_cf h_nx hfr hP hD hS (lv_sub hl (l' := [(0, .ref bk)]) [2] rfl)
    · have c_1 := q_nle (a := (qS P pa.length)) (b := j) (by omega) (by omega) c_1
      refine lv_iload_n hx hb dX0_countPages_28 rfl (lv_at hl 1 rfl) ?_
      refine lv_aload_n hx hb dX0_countPages_29 rfl (lv_at hl 2 rfl) ?_
      refine o_get (D := D) (ci := 1) (v := .int (nI ((qS P pa.length)))) (C := RX0) (T := TX0) (N := 11) hx hb hts inX0 hown hK hP h_bk rfl 4 (by decide) (hts _ k_352) (fun _ h9 => h9) rfl dX0_countPages_30 ?_
      refine lv_icmp_ge (tgt := 58) hx hb dX0_countPages_33 (by decide) (fun c_2 => ?_) (fun c_2 => ?_)
      · have c_2 := q_le (a := (qS P pa.length)) (b := (qS P pq + rr)) (by omega) (by omega) c_2
        have hpe : ¬ pq < pa.length := fun h9 => by have h8 := qS_in P h9; have h7 : rr < (P.getD pq d4).2.2.1 - (P.getD pq d4).2.1 := (hat.2.2 h9).1; omega
        exact kk cc _ _ H locs ls (by rw [bk_pg_out hpe]; rfl) h_bk h_cf h_nx hfr hP hD hS (lv_sub hl (l' := [(0, .ref bk)]) [2] rfl)
      · have c_2 := q_nle (a := (qS P pa.length)) (b := (qS P pq + rr)) (by omega) (by omega) c_2
        have hpn : pq < pa.length := by
          by_cases h9 : pq = pa.length
          · have h8 := hat.2.1 h9; rw [h9, h8] at c_2; omega
          · have h8 := hat.1; omega
        obtain ⟨hr9, y, hy⟩ := hat.2.2 hpn
        have hyv := cf_some (hC.1 (qS P pq + rr) (Nat.zero_le _) (by omega)).1 hy
        have hnx := pgc_nx hz hC hcl hpn hr9 hy
        refine lv_aload_n hx hb dX0_countPages_36 rfl (lv_at hl 2 rfl) ?_
        refine lv_iload_n hx hb dX0_countPages_37 rfl (lv_at hl 1 rfl) ?_
        refine o_cis (k := cells) (n := slots) hK hP hD hS hA (o_rV (As := [.int (nI ((qS P pq + rr)))]) (rest := []) hf (bk_beh _ _ _ _ _ _ _ _ pr bk lf bop cf nx (pa.length) ((qS P pa.length)) y7 (nI cc) y9 y10 M fn ((qS P pq + rr)) (qS P y.2.1 + y.2.2.1) h_bk h_nx hM hMs (by omega) hyv.2 (by omega) _) k_858 k_855 k_857 k_30 k_95 (nA := 1) (by decide +kernel) ⟨Nat.le_trans (by decide) hRf, Nat.le_trans (by decide) hRl⟩ hK hP hD hS hA hZ hN h_bk rfl rfl rfl hl.1 rfl (Nat.le_of_ble_eq_true rfl) dX0_countPages_38 ⟨(show cells + 0 ≤ R.cells by omega), (show slots + 0 ≤ R.slots by omega)⟩) (Nat.le_refl _) (Nat.le_refl _) (fun r H locs hw hP hD hS => ?_)
        obtain rfl := hw
        refine lv_istore_n (lv' := [(1, .int (nI ((qS P y.2.1 + y.2.2.1)))), (2, .int (nI j)), (0, .ref bk)]) hx hb dX0_countPages_41 rfl hl (by decide) rfl (fun ls hl => ?_)
        refine lv_aload_n hx hb dX0_countPages_42 rfl (lv_at hl 2 rfl) ?_
        refine lv_dup hx hb dX0_countPages_43 rfl ?_
        refine o_get (D := D) (ci := 1) (v := .int (nI cc)) (C := RX0) (T := TX0) (N := 11) hx hb hts inX0 hown hK hP h_bk rfl 8 (by decide) (hts _ k_356) (fun _ h9 => h9) rfl dX0_countPages_44 ?_
        refine lv_iconst (v := 1) hx hb dX0_countPages_47 (by decide) ?_
        refine lv_iadd hx hb dX0_countPages_48 ?_
        refine q_seti (y := nI (cc + 1)) (nI_addE (a := cc) (b := 1) (by omega)) ?_
        refine o_put (D := D) (ci := 1) (v := .int (nI (cc + 1))) (ty := .int) (C := RX0) (T := TX0) (N := 11) (fs1 := [.ref pr, .ref lf, .ref bop, .int (nI (pa.length)), .int (nI ((qS P pa.length))), .ref cf, .ref nx, .int y7, .int (nI (cc + 1)), .int y9, .int y10]) hx hb hts inX0 tyX0 tyX0_ok nmX0 hown hK hP hD hS h_bk rfl 8 (by decide) (hts _ k_356) (fun _ h9 => h9) rfl (by decide +kernel) rfl rfl (Nat.le_of_ble_eq_true rfl) rfl dX0_countPages_49 (fun g H locs h_bk hu hP hD hS => ?_)
        have h_cf := h_cf.up hu (by decide)
        have h_nx := h_nx.up hu (by decide)
        have hfr := hfr.up hu (by decide)
        refine lv_iinc (v := nI (j + 1)) (lv' := [(2, .int (nI (j + 1))), (1, .int (nI ((qS P y.2.1 + y.2.2.1)))), (0, .ref bk)]) hx hb dX0_countPages_52 hl (k := 1) rfl (nI_addE (a := j) (b := 1) (by omega)) (by decide) rfl (fun ls hl => ?_)
        refine lv_goto (tgt := 20) hx hb dX0_countPages_55 (by decide) ?_
        exact ih y.2.1 y.2.2.1 (cc + 1) (j + 1) cells slots _ _ H locs ls hnx.1 (by omega) (by omega) (by omega) hRc hRs h_bk h_cf h_nx hfr hP hD hS (lv_sub hl (l' := [(2, .int (nI (j + 1))), (1, .int (nI ((qS P y.2.1 + y.2.2.1)))), (0, .ref bk)]) [0, 1, 2] rfl) (fun c2 L g H locs ls a1 => kk c2 L g H locs ls (a1.trans (by rw [bk_pg_in hpn hy, List.length_cons]; omega)))
set_option maxHeartbeats 1000000 in
set_option maxRecDepth 100000 in
theorem bk_cntS (l : Launch) (D : va_G) (z : Nat → Nat) (cB cI_ cO : ClassId) (L0 : List Nat) (g0 : hG) (pr : Nat) (pa : List Nat) (P : List Q4) (bk lf bop cf nx : Nat) (y7 y8 y9 y10 : Int32) (M : Nat) (fc fn : Nat → Int32) (C : Nat → Option Q4) (h_bk : ho L0 g0 bk 21 (.inr (1, [.ref pr, .ref lf, .ref bop, .int (nI (pa.length)), .int (nI ((qS P pa.length))), .ref cf, .ref nx, .int y7, .int y8, .int y9, .int y10]))) (h_cf : ho L0 g0 cf 23 (.inl (cI_, M, .inl fc))) (h_nx : ho L0 g0 nx 24 (.inl (cI_, M, .inl fn))) (hz : ∀ p, p < pa.length → 0 < qT P p - qF P p) (hSn : qS P pa.length ≤ 8000) (hMs : qS P pa.length < M) (hM : M ≤ 60000) (hC : cf_tab P pa.length C 0 fc fn) (hcl : bk_cl (qF P) (qT P) pa.length C 0) (v0 : Nat) (hv0 : v0 ≤ 20000000) (h0v : fc 0 = nI v0) (hC0 : 0 < pa.length → ∃ y, C (qS P 0 + 0) = some y) : eV l D yX0_countPages cX0_countPages 3 none 8 120 0 0 [.ref bk] z cB cI_ cO L0 g0 (fun L g => ∃ c2 : Nat, c2 = (bk_pg (qF P) (qT P) pa.length C 8000 0 0).length ∧ fr [21] L0 g0 L g ∧ ho L g bk 21 (.inr (1, [.ref pr, .ref lf, .ref bop, .int (nI (pa.length)), .int (nI ((qS P pa.length))), .ref cf, .ref nx, .int y7, .int (nI c2), .int y9, .int y10])) ∧ ho L g cf 23 (.inl (cI_, M, .inl fc)) ∧ ho L g nx 24 (.inl (cI_, M, .inl fn))) := by
  refine o_sv (by decide) (Nat.le_of_ble_eq_true rfl) ?_
  intro p e s m below meth c A ls hf hr hlocks hin hK hP hD hS hA hZ hN hl
  obtain ⟨hx, hb, hml, hown, hts⟩ := id hf
  have hl : lv_has ls 3 [(0, .ref bk)] := hl
  have hfr : fr [21] L0 g0 L0 g0 := fr.rf
  refine lv_aload_n hx hb dX0_countPages_0 rfl (lv_at hl 0 rfl) ?_
  refine lv_iconst (v := 0) hx hb dX0_countPages_1 (by decide) ?_
  refine o_put (D := D) (ci := 1) (v := .int 0) (ty := .int) (C := RX0) (T := TX0) (N := 11) (fs1 := [.ref pr, .ref lf, .ref bop, .int (nI (pa.length)), .int (nI ((qS P pa.length))), .ref cf, .ref nx, .int y7, .int 0, .int y9, .int y10]) hx hb hts inX0 tyX0 tyX0_ok nmX0 hown hK hP hD hS h_bk rfl 8 (by decide) (hts _ k_356) (fun _ h9 => h9) rfl (by decide +kernel) rfl rfl (Nat.le_of_ble_eq_true rfl) rfl dX0_countPages_2 (fun g H locs h_bk hu hP hD hS => ?_)
  have h_cf := h_cf.up hu (by decide)
  have h_nx := h_nx.up hu (by decide)
  have hfr := hfr.up hu (by decide)
  refine lv_aload_n hx hb dX0_countPages_5 rfl (lv_at hl 0 rfl) ?_
  refine o_get (D := D) (ci := 1) (v := .ref cf) (C := RX0) (T := TX0) (N := 11) hx hb hts inX0 hown hK hP h_bk rfl 5 (by decide) (hts _ k_353) (fun _ h9 => h9) rfl dX0_countPages_6 ?_
  refine lv_iconst (v := 0) hx hb dX0_countPages_9 (by decide) ?_
  refine o_ild (X := 0) hx hb hK hP h_cf (by omega) (by omega) dX0_countPages_10 ?_
  refine q_seti (y := (nI v0)) h0v ?_
  refine lv_iconst (v := (-1)) hx hb dX0_countPages_11 (by decide) ?_
  refine lv_icmp_ne (tgt := 16) hx hb dX0_countPages_12 (by decide) (fun _ => ?_) (fun hno => absurd hno (q_nem (by decide) (by omega)))
  refine lv_iconst (v := 0) hx hb dX0_countPages_16 (by decide) ?_
  refine lv_istore_n (lv' := [(1, .int 0), (0, .ref bk)]) hx hb dX0_countPages_17 rfl hl (by decide) rfl (fun ls hl => ?_)
  refine lv_iconst (v := 0) hx hb dX0_countPages_18 (by decide) ?_
  refine lv_istore_n (lv' := [(2, .int 0), (1, .int 0), (0, .ref bk)]) hx hb dX0_countPages_19 rfl hl (by decide) rfl (fun ls hl => ?_)
  have hat : pg_at (qF P) (qT P) pa.length C 0 0 := ⟨Nat.zero_le _, fun _ => rfl, fun h9 => ⟨hz 0 h9, hC0 h9⟩⟩
  refine cp_loop (L0 := L0) (g0 := g0) hz hSn hMs hM hC hcl (Nat.le_of_ble_eq_true rfl) (Nat.le_of_ble_eq_true rfl) hA hf hK hZ hN 8000 0 0 0 0 0 0 _ _ _ _ ls hat (by omega) ⟨Nat.zero_le _, Nat.zero_le _⟩ (Nat.le_refl _) (Nat.zero_le _) (Nat.zero_le _) h_bk h_cf h_nx hfr hP hD hS (lv_sub hl (l' := [(2, .int 0), (1, .int 0), (0, .ref bk)]) [0, 1, 2] rfl) (fun c2 L g H locs ls a1 h_bk h_cf h_nx hfr hP hD hS hl => ?_)
  rw [Nat.zero_add] at a1
  exact o_rv hf hr hlocks hK hP hD hS (show 0 ≤ 0 by omega) (show 0 ≤ 0 by omega) ⟨c2, a1, hfr, h_bk, h_cf, h_nx⟩ dX0_countPages_58
set_option maxHeartbeats 1000000 in
set_option maxRecDepth 100000 in
theorem bk_cntN (l : Launch) (D : va_G) (z : Nat → Nat) (cB cI_ cO : ClassId) (L0 : List Nat) (g0 : hG) (pr : Nat) (pa : List Nat) (P : List Q4) (bk lf bop cf nx : Nat) (y7 y8 y9 y10 : Int32) (M : Nat) (fc fn : Nat → Int32) (C : Nat → Option Q4) (h_bk : ho L0 g0 bk 21 (.inr (1, [.ref pr, .ref lf, .ref bop, .int (nI (pa.length)), .int (nI ((qS P pa.length))), .ref cf, .ref nx, .int y7, .int y8, .int y9, .int y10]))) (h_cf : ho L0 g0 cf 23 (.inl (cI_, M, .inl fc))) (h_nx : ho L0 g0 nx 24 (.inl (cI_, M, .inl fn))) (hz : ∀ p, p < pa.length → 0 < qT P p - qF P p) (hSn : qS P pa.length ≤ 8000) (hMs : qS P pa.length < M) (hM : M ≤ 60000) (hC : cf_tab P pa.length C 0 fc fn) (hcl : bk_cl (qF P) (qT P) pa.length C 0) (h0v : fc 0 = -1) (hC0 : C 0 = none) : eV l D yX0_countPages cX0_countPages 3 none 8 120 0 0 [.ref bk] z cB cI_ cO L0 g0 (fun L g => ∃ c2 : Nat, c2 = (bk_pg (qF P) (qT P) pa.length C 8000 0 0).length ∧ fr [21] L0 g0 L g ∧ ho L g bk 21 (.inr (1, [.ref pr, .ref lf, .ref bop, .int (nI (pa.length)), .int (nI ((qS P pa.length))), .ref cf, .ref nx, .int y7, .int (nI c2), .int y9, .int y10])) ∧ ho L g cf 23 (.inl (cI_, M, .inl fc)) ∧ ho L g nx 24 (.inl (cI_, M, .inl fn))) := by
  refine o_sv (by decide) (Nat.le_of_ble_eq_true rfl) ?_
  intro p e s m below meth c A ls hf hr hlocks hin hK hP hD hS hA hZ hN hl
  obtain ⟨hx, hb, hml, hown, hts⟩ := id hf
  have hl : lv_has ls 3 [(0, .ref bk)] := hl
  have hfr : fr [21] L0 g0 L0 g0 := fr.rf
  refine lv_aload_n hx hb dX0_countPages_0 rfl (lv_at hl 0 rfl) ?_
  refine lv_iconst (v := 0) hx hb dX0_countPages_1 (by decide) ?_
  refine o_put (D := D) (ci := 1) (v := .int 0) (ty := .int) (C := RX0) (T := TX0) (N := 11) (fs1 := [.ref pr, .ref lf, .ref bop, .int (nI (pa.length)), .int (nI ((qS P pa.length))), .ref cf, .ref nx, .int y7, .int 0, .int y9, .int y10]) hx hb hts inX0 tyX0 tyX0_ok nmX0 hown hK hP hD hS h_bk rfl 8 (by decide) (hts _ k_356) (fun _ h9 => h9) rfl (by decide +kernel) rfl rfl (Nat.le_of_ble_eq_true rfl) rfl dX0_countPages_2 (fun g H locs h_bk hu hP hD hS => ?_)
  have h_cf := h_cf.up hu (by decide)
  have h_nx := h_nx.up hu (by decide)
  have hfr := hfr.up hu (by decide)
  refine lv_aload_n hx hb dX0_countPages_5 rfl (lv_at hl 0 rfl) ?_
  refine o_get (D := D) (ci := 1) (v := .ref cf) (C := RX0) (T := TX0) (N := 11) hx hb hts inX0 hown hK hP h_bk rfl 5 (by decide) (hts _ k_353) (fun _ h9 => h9) rfl dX0_countPages_6 ?_
  refine lv_iconst (v := 0) hx hb dX0_countPages_9 (by decide) ?_
  refine o_ild (X := 0) hx hb hK hP h_cf (by omega) (by omega) dX0_countPages_10 ?_
  refine q_seti (y := (-1)) h0v ?_
  refine lv_iconst (v := (-1)) hx hb dX0_countPages_11 (by decide) ?_
  refine lv_icmp_ne (tgt := 16) hx hb dX0_countPages_12 (by decide) (fun hno => absurd hno (by decide)) (fun _ => ?_)
  exact o_rv hf hr hlocks hK hP hD hS (show 0 ≤ 0 by omega) (show 0 ≤ 0 by omega) ⟨0, by rw [bk_pg_n (show C (rs_S (qF P) (qT P) 0 + 0) = none from hC0)]; rfl, hfr, h_bk, h_cf, h_nx⟩ dX0_countPages_15
theorem bk_cnt (l : Launch) (D : va_G) (z : Nat → Nat) (cB cI_ cO : ClassId) (L0 : List Nat) (g0 : hG) (pr : Nat) (pa : List Nat) (P : List Q4) (bk lf bop cf nx : Nat) (y7 y8 y9 y10 : Int32) (M : Nat) (fc fn : Nat → Int32) (C : Nat → Option Q4) (h_bk : ho L0 g0 bk 21 (.inr (1, [.ref pr, .ref lf, .ref bop, .int (nI (pa.length)), .int (nI ((qS P pa.length))), .ref cf, .ref nx, .int y7, .int y8, .int y9, .int y10]))) (h_cf : ho L0 g0 cf 23 (.inl (cI_, M, .inl fc))) (h_nx : ho L0 g0 nx 24 (.inl (cI_, M, .inl fn))) (hz : ∀ p, p < pa.length → 0 < qT P p - qF P p) (hSn : qS P pa.length ≤ 8000) (hMs : qS P pa.length < M) (hM : M ≤ 60000) (hC : cf_tab P pa.length C 0 fc fn) (hcl : bk_cl (qF P) (qT P) pa.length C 0) : eV l D yX0_countPages cX0_countPages 3 none 8 120 0 0 [.ref bk] z cB cI_ cO L0 g0 (fun L g => ∃ c2 : Nat, c2 = (bk_pg (qF P) (qT P) pa.length C 8000 0 0).length ∧ fr [21] L0 g0 L g ∧ ho L g bk 21 (.inr (1, [.ref pr, .ref lf, .ref bop, .int (nI (pa.length)), .int (nI ((qS P pa.length))), .ref cf, .ref nx, .int y7, .int (nI c2), .int y9, .int y10])) ∧ ho L g cf 23 (.inl (cI_, M, .inl fc)) ∧ ho L g nx 24 (.inl (cI_, M, .inl fn))) := by
  by_cases hp : 0 < pa.length
  · have h1 := qS_in P hp
    have h2 := hz 0 hp
    have h2 : 0 < (P.getD 0 d4).2.2.1 - (P.getD 0 d4).2.1 := h2
    obtain ⟨h3, h4⟩ := hC.1 0 (Nat.le_refl _) (by omega)
    cases hc : C 0 with
    | none => exact bk_cntN l D z cB cI_ cO L0 g0 pr pa P bk lf bop cf nx y7 y8 y9 y10 M fc fn C h_bk h_cf h_nx hz hSn hMs hM hC hcl (cf_none h3 hc).1 hc
    | some y =>
      have h5 := (h4 y hc).1
      have h6 : rs_S (qF P) (qT P) pa.length = qS P pa.length := rfl
      exact bk_cntS l D z cB cI_ cO L0 g0 pr pa P bk lf bop cf nx y7 y8 y9 y10 M fc fn C h_bk h_cf h_nx hz hSn hMs hM hC hcl y.1 (by omega) (cf_some h3 hc).1 (fun _ => ⟨y, hc⟩)
  · have h0 : pa.length = 0 := by omega
    have h1 := hC.2.1
    rw [h0] at h1
    exact bk_cntS l D z cB cI_ cO L0 g0 pr pa P bk lf bop cf nx y7 y8 y9 y10 M fc fn C h_bk h_cf h_nx hz hSn hMs hM hC hcl 0 (Nat.zero_le _) h1 (fun h9 => absurd h9 hp)
