theorem bk_pg_c {Fm To : Nat → Nat} {pn : Nat} {C : Nat → Option Q4} {f p r : Nat} (h : bk_pg Fm To pn C f p r ≠ []) : ∃ (f2 : Nat) (y : Q4), f = f2 + 1 ∧ p < pn ∧ C (rs_S Fm To p + r) = some y ∧ bk_pg Fm To pn C f p r = (p, r, y.2.2.2) :: bk_pg Fm To pn C f2 y.2.1 y.2.2.1 := by
  cases f with
  | zero => exact absurd rfl h
  | succ f2 =>
    by_cases hp : p < pn
    · cases hc : C (rs_S Fm To p + r) with
      | none => exact absurd (bk_pg_n hc) h
      | some y => exact ⟨f2, y, rfl, hp, rfl, bk_pg_in hp hc⟩
    · exact absurd (bk_pg_out hp) h
theorem dr_ne {α : Type} {A : List α} {j : Nat} (h : j < A.length) : A.drop j ≠ [] := fun z => by
  have h2 := congrArg List.length z
  rw [List.length_drop] at h2
  have h2 : A.length - j = 0 := h2
  omega
theorem dr_s {α : Type} {A B : List α} {a : α} {j : Nat} (h : A.drop j = a :: B) : A.drop (j + 1) = B := by
  have h2 : (A.drop j).drop 1 = B := by rw [h]; rfl
  rw [List.drop_drop] at h2
  exact h2
theorem dr_g {α : Type} {A B : List α} {a d : α} {j : Nat} (h : A.drop j = a :: B) : A.getD j d = a := by
  have h2 : (A.drop j).getD 0 d = a := by rw [h]; rfl
  rw [List.getD_eq_getElem?_getD, List.getElem?_drop] at h2
  rw [List.getD_eq_getElem?_getD]
  exact h2
abbrev cX0_pieceWithPlace : ByteArray := prog_2_method_21_code
def yX0_pieceWithPlace : MethodName := ⟨RX0, "pieceWithPlace", "(I)I"⟩
abbrev cX0_turnTo : ByteArray := prog_2_method_6_code
def yX0_turnTo : MethodName := ⟨RX0, "turnTo", "(I)V"⟩
theorem k_357 : (Cond.fieldLink RX0 67 "ScriptDesk$Breaking" "pageBegin" "I") ∈ gT := gT_i 357 (by decide +kernel) rfl
theorem k_358 : (Cond.fieldLink RX0 74 "ScriptDesk$Breaking" "pageEnd" "I") ∈ gT := gT_i 358 (by decide +kernel) rfl
theorem dX0_turnTo_7 : decode cX0_turnTo 7 = .ok (.iload_n 2, 1) := by decide +kernel
theorem dX0_turnTo_8 : decode cX0_turnTo 8 = .ok (.iload_n 1, 1) := by decide +kernel
theorem dX0_turnTo_9 : decode cX0_turnTo 9 = .ok (.if_icmp .ge 29, 3) := by decide +kernel
theorem dX0_turnTo_12 : decode cX0_turnTo 12 = .ok (.iload_n 2, 1) := by decide +kernel
theorem dX0_turnTo_13 : decode cX0_turnTo 13 = .ok (.aload_n 0, 1) := by decide +kernel
theorem dX0_turnTo_14 : decode cX0_turnTo 14 = .ok (.getfield 64, 3) := by decide +kernel
theorem dX0_turnTo_17 : decode cX0_turnTo 17 = .ok (.if_icmp .ge 21, 3) := by decide +kernel
theorem dX0_turnTo_20 : decode cX0_turnTo 20 = .ok (.aload_n 0, 1) := by decide +kernel
theorem dX0_turnTo_21 : decode cX0_turnTo 21 = .ok (.aload_n 0, 1) := by decide +kernel
theorem dX0_turnTo_22 : decode cX0_turnTo 22 = .ok (.aload_n 0, 1) := by decide +kernel
theorem dX0_turnTo_23 : decode cX0_turnTo 23 = .ok (.getfield 67, 3) := by decide +kernel
theorem dX0_turnTo_26 : decode cX0_turnTo 26 = .ok (.invokevirtual 70, 3) := by decide +kernel
theorem dX0_turnTo_29 : decode cX0_turnTo 29 = .ok (.putfield 67, 3) := by decide +kernel
theorem dX0_turnTo_32 : decode cX0_turnTo 32 = .ok (.iinc 2 1, 3) := by decide +kernel
theorem dX0_turnTo_35 : decode cX0_turnTo 35 = .ok (.goto (-28), 3) := by decide +kernel
theorem dX0_turnTo_0 : decode cX0_turnTo 0 = .ok (.aload_n 0, 1) := by decide +kernel
theorem dX0_turnTo_1 : decode cX0_turnTo 1 = .ok (.iconst 0, 1) := by decide +kernel
theorem dX0_turnTo_2 : decode cX0_turnTo 2 = .ok (.putfield 67, 3) := by decide +kernel
theorem dX0_turnTo_5 : decode cX0_turnTo 5 = .ok (.iconst 0, 1) := by decide +kernel
theorem dX0_turnTo_6 : decode cX0_turnTo 6 = .ok (.istore_n 2, 1) := by decide +kernel
theorem dX0_turnTo_38 : decode cX0_turnTo 38 = .ok (.aload_n 0, 1) := by decide +kernel
theorem dX0_turnTo_39 : decode cX0_turnTo 39 = .ok (.aload_n 0, 1) := by decide +kernel
theorem dX0_turnTo_40 : decode cX0_turnTo 40 = .ok (.aload_n 0, 1) := by decide +kernel
theorem dX0_turnTo_41 : decode cX0_turnTo 41 = .ok (.getfield 67, 3) := by decide +kernel
theorem dX0_turnTo_44 : decode cX0_turnTo 44 = .ok (.invokevirtual 70, 3) := by decide +kernel
theorem dX0_turnTo_47 : decode cX0_turnTo 47 = .ok (.putfield 74, 3) := by decide +kernel
theorem dX0_turnTo_50 : decode cX0_turnTo 50 = .ok (.return_, 1) := by decide +kernel
theorem dX0_pieceWithPlace_7 : decode cX0_pieceWithPlace 7 = .ok (.iload_n 2, 1) := by decide +kernel
theorem dX0_pieceWithPlace_8 : decode cX0_pieceWithPlace 8 = .ok (.ifCond .le 21, 3) := by decide +kernel
theorem dX0_pieceWithPlace_11 : decode cX0_pieceWithPlace 11 = .ok (.aload_n 0, 1) := by decide +kernel
theorem dX0_pieceWithPlace_12 : decode cX0_pieceWithPlace 12 = .ok (.getfield 9, 3) := by decide +kernel
theorem dX0_pieceWithPlace_15 : decode cX0_pieceWithPlace 15 = .ok (.iload_n 2, 1) := by decide +kernel
theorem dX0_pieceWithPlace_16 : decode cX0_pieceWithPlace 16 = .ok (.iaload, 1) := by decide +kernel
theorem dX0_pieceWithPlace_17 : decode cX0_pieceWithPlace 17 = .ok (.iload_n 1, 1) := by decide +kernel
theorem dX0_pieceWithPlace_18 : decode cX0_pieceWithPlace 18 = .ok (.if_icmp .gt 5, 3) := by decide +kernel
theorem dX0_pieceWithPlace_23 : decode cX0_pieceWithPlace 23 = .ok (.iinc 2 (-1), 3) := by decide +kernel
theorem dX0_pieceWithPlace_26 : decode cX0_pieceWithPlace 26 = .ok (.goto (-19), 3) := by decide +kernel
theorem dX0_pieceWithPlace_0 : decode cX0_pieceWithPlace 0 = .ok (.aload_n 0, 1) := by decide +kernel
theorem dX0_pieceWithPlace_1 : decode cX0_pieceWithPlace 1 = .ok (.getfield 43, 3) := by decide +kernel
theorem dX0_pieceWithPlace_4 : decode cX0_pieceWithPlace 4 = .ok (.iconst 1, 1) := by decide +kernel
theorem dX0_pieceWithPlace_5 : decode cX0_pieceWithPlace 5 = .ok (.isub, 1) := by decide +kernel
theorem dX0_pieceWithPlace_6 : decode cX0_pieceWithPlace 6 = .ok (.istore_n 2, 1) := by decide +kernel
theorem dX0_pieceWithPlace_21 : decode cX0_pieceWithPlace 21 = .ok (.iload_n 2, 1) := by decide +kernel
theorem dX0_pieceWithPlace_22 : decode cX0_pieceWithPlace 22 = .ok (.ireturn, 1) := by decide +kernel
theorem dX0_pieceWithPlace_29 : decode cX0_pieceWithPlace 29 = .ok (.iconst 0, 1) := by decide +kernel
theorem dX0_pieceWithPlace_30 : decode cX0_pieceWithPlace 30 = .ok (.ireturn, 1) := by decide +kernel
set_option maxHeartbeats 1000000 in
set_option maxRecDepth 100000 in
theorem tt_loop {p : Program} {l : Launch} {e : Env} {R : Room} {s : State} {m : MethodId} {args : Array Value} {below : List Frame} {meth : Method} {c : Code} {Q : State → Prop} {D : va_G} {A : Nat → Prop} {z : Nat → Nat} {cB cI_ cO : ClassId} {L0 : List Nat} {g0 : hG} {pr : Nat} {pa : List Nat} {P : List Q4} {bk lf bop cf nx : Nat} {y7 y10 : Int32} {M cn pg : Nat} {fc fn : Nat → Int32} {C : Nat → Option Q4} (hz : ∀ p, p < pa.length → 0 < qT P p - qF P p) (hSn : qS P pa.length ≤ 8000) (hMs : qS P pa.length < M) (hM : M ≤ 60000) (hC : cf_tab P pa.length C 0 fc fn) (hcl : bk_cl (qF P) (qT P) pa.length C 0) (ecn : cn = (bk_pg (qF P) (qT P) pa.length C 8000 0 0).length) (hpg : pg < cn) (hcn : cn ≤ 8000) (hRf : 8 ≤ R.frames) (hRl : 120 ≤ R.locals) (hA : ∀ q : Nat, s.heap.size ≤ q → A q) (hf : CallFix p m c cX0_turnTo 3 s args gT yX0_turnTo.cls) (hK : va_K D vcl (dT cB cI_ cO) s) (hZ : zA z A s s.heap) (hN : zB z s) :
    ∀ (k : Nat) (pq : Nat) (rr : Nat) (j : Nat) (f : Nat) (cells slots : Nat) (L : List Nat) (g : hG) (H : Heap) (locs : List Loc) (ls : Array Slot), j + k = pg → pg_at (qF P) (qT P) pa.length C pq rr → (bk_pg (qF P) (qT P) pa.length C 8000 0 0).drop j = bk_pg (qF P) (qT P) pa.length C f pq rr → cells ≤ R.cells → slots ≤ R.slots → ho L g bk 21 (.inr (1, [.ref pr, .ref lf, .ref bop, .int (nI (pa.length)), .int (nI ((qS P pa.length))), .ref cf, .ref nx, .int y7, .int (nI cn), .int (nI ((qS P pq + rr))), .int y10])) → ho L g nx 24 (.inl (cI_, M, .inl fn)) → fr [21] L0 g0 L g → va_P D vcl (dW L g) H → va_D A (dW L g) → va_S A s.heap H locs → lv_has ls 3 [(2, .int (nI j)), (1, .int (nI pg)), (0, .ref bk)] →
    (∀ (p2 : Nat) (r2 : Nat) (f2 : Nat)  (L : List Nat) (g : hG) (H : Heap) (locs : List Loc) (ls : Array Slot), pg_at (qF P) (qT P) pa.length C p2 r2 → (bk_pg (qF P) (qT P) pa.length C 8000 0 0).drop pg = bk_pg (qF P) (qT P) pa.length C f2 p2 r2 → ho L g bk 21 (.inr (1, [.ref pr, .ref lf, .ref bop, .int (nI (pa.length)), .int (nI ((qS P pa.length))), .ref cf, .ref nx, .int y7, .int (nI cn), .int (nI ((qS P p2 + r2))), .int y10])) → ho L g nx 24 (.inl (cI_, M, .inl fn)) → fr [21] L0 g0 L g → va_P D vcl (dW L g) H → va_D A (dW L g) → va_S A s.heap H locs → lv_has ls 3 [(0, .ref bk)] → W p l e R s m args below meth c H locs cells slots Q (F0 m 38 ls [])) →
    W p l e R s m args below meth c H locs cells slots Q (F0 m 7 ls []) := by
  obtain ⟨hx, hb, hml, hown, hts⟩ := id hf
  intro k
  induction k with
  | zero =>
    intro pq rr j f cells slots L g H locs ls hjk hat hdr hRc hRs h_bk h_nx hfr hP hD hS hl kk
    refine lv_iload_n hx hb dX0_turnTo_7 rfl (lv_at hl 0 rfl) ?_
    refine lv_iload_n hx hb dX0_turnTo_8 rfl (lv_at hl 1 rfl) ?_
    refine lv_icmp_ge (tgt := 38) hx hb dX0_turnTo_9 (by decide) (fun c_1 => ?_) (fun c_1 => ?_)
    · have c_1 := q_le (a := pg) (b := j) (by omega) (by omega) c_1
      obtain rfl : pg = j := by omega
      exact kk pq rr f _ _ H locs ls hat hdr h_bk h_nx hfr hP hD hS (lv_sub hl (l' := [(0, .ref bk)]) [2] rfl)
    · have c_1 := q_nle (a := pg) (b := j) (by omega) (by omega) c_1
      refine lv_iload_n hx hb dX0_turnTo_12 rfl (lv_at hl 0 rfl) ?_
      refine lv_aload_n hx hb dX0_turnTo_13 rfl (lv_at hl 2 rfl) ?_
      refine o_get (D := D) (ci := 1) (v := .int (nI cn)) (C := RX0) (T := TX0) (N := 11) hx hb hts inX0 hown hK hP h_bk rfl 8 (by decide) (hts _ k_356) (fun _ h9 => h9) rfl dX0_turnTo_14 ?_
      refine lv_icmp_ge (tgt := 38) hx hb dX0_turnTo_17 (by decide) (fun c_2 => ?_) (fun c_2 => ?_)
      · have c_2 := q_le (a := cn) (b := j) (by omega) (by omega) c_2
        obtain rfl : pg = j := by omega
        exact kk pq rr f _ _ H locs ls hat hdr h_bk h_nx hfr hP hD hS (lv_sub hl (l' := [(0, .ref bk)]) [2] rfl)
      · have c_2 := q_nle (a := cn) (b := j) (by omega) (by omega) c_2
        exact False.elim (by omega)
  | succ k ih =>
    intro pq rr j f cells slots L g H locs ls hjk hat hdr hRc hRs h_bk h_nx hfr hP hD hS hl kk
    refine lv_iload_n hx hb dX0_turnTo_7 rfl (lv_at hl 0 rfl) ?_
    refine lv_iload_n hx hb dX0_turnTo_8 rfl (lv_at hl 1 rfl) ?_
    refine lv_icmp_ge (tgt := 38) hx hb dX0_turnTo_9 (by decide) (fun c_1 => ?_) (fun c_1 => ?_)
    · have c_1 := q_le (a := pg) (b := j) (by omega) (by omega) c_1
      exact False.elim (by omega)
    · have c_1 := q_nle (a := pg) (b := j) (by omega) (by omega) c_1
      refine lv_iload_n hx hb dX0_turnTo_12 rfl (lv_at hl 0 rfl) ?_
      refine lv_aload_n hx hb dX0_turnTo_13 rfl (lv_at hl 2 rfl) ?_
      refine o_get (D := D) (ci := 1) (v := .int (nI cn)) (C := RX0) (T := TX0) (N := 11) hx hb hts inX0 hown hK hP h_bk rfl 8 (by decide) (hts _ k_356) (fun _ h9 => h9) rfl dX0_turnTo_14 ?_
      refine lv_icmp_ge (tgt := 38) hx hb dX0_turnTo_17 (by decide) (fun c_2 => ?_) (fun c_2 => ?_)
      · have c_2 := q_le (a := cn) (b := j) (by omega) (by omega) c_2
        exact False.elim (by omega)
      · have c_2 := q_nle (a := cn) (b := j) (by omega) (by omega) c_2
        have hne : bk_pg (qF P) (qT P) pa.length C f pq rr ≠ [] := by rw [← hdr]; exact dr_ne (by omega)
        obtain ⟨f9, y, ef9, hpn, hy, hcons⟩ := bk_pg_c hne
        have hy : C (qS P pq + rr) = some y := hy
        obtain ⟨hr9, _⟩ := hat.2.2 hpn
        have hr8 : rr < (P.getD pq d4).2.2.1 - (P.getD pq d4).2.1 := hr9
        have hSi := qS_in P hpn
        have hyv := cf_some (hC.1 (qS P pq + rr) (Nat.zero_le _) (by omega)).1 hy
        have hnx := pgc_nx hz hC hcl hpn hr9 hy
        refine lv_aload_n hx hb dX0_turnTo_20 rfl (lv_at hl 2 rfl) ?_
        refine lv_aload_n hx hb dX0_turnTo_21 rfl (lv_at hl 2 rfl) ?_
        refine lv_aload_n hx hb dX0_turnTo_22 rfl (lv_at hl 2 rfl) ?_
        refine o_get (D := D) (ci := 1) (v := .int (nI ((qS P pq + rr)))) (C := RX0) (T := TX0) (N := 11) hx hb hts inX0 hown hK hP h_bk rfl 9 (by decide) (hts _ k_357) (fun _ h9 => h9) rfl dX0_turnTo_23 ?_
        refine o_cis (k := cells) (n := slots) hK hP hD hS hA (o_rV (As := [.int (nI ((qS P pq + rr)))]) (rest := [.ref bk]) hf (bk_beh _ _ _ _ _ _ _ _ pr bk lf bop cf nx (pa.length) ((qS P pa.length)) y7 (nI cn) (nI ((qS P pq + rr))) y10 M fn ((qS P pq + rr)) (qS P y.2.1 + y.2.2.1) h_bk h_nx hM hMs (by omega) hyv.2 (by omega) _) k_858 k_855 k_857 k_30 k_95 (nA := 1) (by decide +kernel) ⟨Nat.le_trans (by decide) hRf, Nat.le_trans (by decide) hRl⟩ hK hP hD hS hA hZ hN h_bk rfl rfl rfl hl.1 rfl (Nat.le_of_ble_eq_true rfl) dX0_turnTo_26 ⟨(show cells + 0 ≤ R.cells by omega), (show slots + 0 ≤ R.slots by omega)⟩) (Nat.le_refl _) (Nat.le_refl _) (fun r H locs hw hP hD hS => ?_)
        obtain rfl := hw
        refine o_put (D := D) (ci := 1) (v := .int (nI ((qS P y.2.1 + y.2.2.1)))) (ty := .int) (C := RX0) (T := TX0) (N := 11) (fs1 := [.ref pr, .ref lf, .ref bop, .int (nI (pa.length)), .int (nI ((qS P pa.length))), .ref cf, .ref nx, .int y7, .int (nI cn), .int (nI ((qS P y.2.1 + y.2.2.1))), .int y10]) hx hb hts inX0 tyX0 tyX0_ok nmX0 hown hK hP hD hS h_bk rfl 9 (by decide) (hts _ k_357) (fun _ h9 => h9) rfl (by decide +kernel) rfl rfl (Nat.le_of_ble_eq_true rfl) rfl dX0_turnTo_29 (fun g H locs h_bk hu hP hD hS => ?_)
        have h_nx := h_nx.up hu (by decide)
        have hfr := hfr.up hu (by decide)
        refine lv_iinc (v := nI (j + 1)) (lv' := [(2, .int (nI (j + 1))), (1, .int (nI pg)), (0, .ref bk)]) hx hb dX0_turnTo_32 hl (k := 0) rfl (nI_addE (a := j) (b := 1) (by omega)) (by decide) rfl (fun ls hl => ?_)
        refine lv_goto (tgt := 7) hx hb dX0_turnTo_35 (by decide) ?_
        exact ih y.2.1 y.2.2.1 (j + 1) f9 cells slots _ _ H locs ls (by omega) hnx.1 (dr_s (hdr.trans hcons)) hRc hRs h_bk h_nx hfr hP hD hS (lv_sub hl (l' := [(2, .int (nI (j + 1))), (1, .int (nI pg)), (0, .ref bk)]) [0, 1, 2] rfl) kk
set_option maxHeartbeats 1000000 in
set_option maxRecDepth 100000 in
theorem bk_turn (l : Launch) (D : va_G) (z : Nat → Nat) (cB cI_ cO : ClassId) (L0 : List Nat) (g0 : hG) (pr : Nat) (pa : List Nat) (P : List Q4) (bk lf bop cf nx : Nat) (y7 y9 y10 : Int32) (M : Nat) (fc fn : Nat → Int32) (C : Nat → Option Q4) (cn pg : Nat) (h_bk : ho L0 g0 bk 21 (.inr (1, [.ref pr, .ref lf, .ref bop, .int (nI (pa.length)), .int (nI ((qS P pa.length))), .ref cf, .ref nx, .int y7, .int (nI cn), .int y9, .int y10]))) (h_nx : ho L0 g0 nx 24 (.inl (cI_, M, .inl fn))) (hz : ∀ p, p < pa.length → 0 < qT P p - qF P p) (hSn : qS P pa.length ≤ 8000) (hMs : qS P pa.length < M) (hM : M ≤ 60000) (hC : cf_tab P pa.length C 0 fc fn) (hcl : bk_cl (qF P) (qT P) pa.length C 0) (ecn : cn = (bk_pg (qF P) (qT P) pa.length C 8000 0 0).length) (hpg : pg < cn) (hcn : cn ≤ 8000) : eV l D yX0_turnTo cX0_turnTo 3 none 8 120 0 0 [.ref bk, .int (nI pg)] z cB cI_ cO L0 g0 (fun L g => ∃ (pq rr f : Nat) (y : Q4), (bk_pg (qF P) (qT P) pa.length C 8000 0 0).getD pg (0, 0, 0) = (pq, rr, y.2.2.2) ∧ (bk_pg (qF P) (qT P) pa.length C 8000 0 0).drop (pg + 1) = bk_pg (qF P) (qT P) pa.length C f y.2.1 y.2.2.1 ∧ pq < pa.length ∧ rr < qT P pq - qF P pq ∧ C (qS P pq + rr) = some y ∧ pg_at (qF P) (qT P) pa.length C y.2.1 y.2.2.1 ∧ qS P pq + rr < qS P y.2.1 + y.2.2.1 ∧ qS P y.2.1 + y.2.2.1 ≤ qS P pa.length ∧ fr [21] L0 g0 L g ∧ ho L g bk 21 (.inr (1, [.ref pr, .ref lf, .ref bop, .int (nI (pa.length)), .int (nI ((qS P pa.length))), .ref cf, .ref nx, .int y7, .int (nI cn), .int (nI ((qS P pq + rr))), .int (nI ((qS P y.2.1 + y.2.2.1)))]))) := by
  refine o_sv (by decide) (Nat.le_of_ble_eq_true rfl) ?_
  intro p e s m below meth c A ls hf hr hlocks hin hK hP hD hS hA hZ hN hl
  obtain ⟨hx, hb, hml, hown, hts⟩ := id hf
  have hl : lv_has ls 3 [(0, .ref bk), (1, .int (nI pg))] := hl
  have hfr : fr [21] L0 g0 L0 g0 := fr.rf
  refine lv_aload_n hx hb dX0_turnTo_0 rfl (lv_at hl 0 rfl) ?_
  refine lv_iconst (v := 0) hx hb dX0_turnTo_1 (by decide) ?_
  refine o_put (D := D) (ci := 1) (v := .int 0) (ty := .int) (C := RX0) (T := TX0) (N := 11) (fs1 := [.ref pr, .ref lf, .ref bop, .int (nI (pa.length)), .int (nI ((qS P pa.length))), .ref cf, .ref nx, .int y7, .int (nI cn), .int 0, .int y10]) hx hb hts inX0 tyX0 tyX0_ok nmX0 hown hK hP hD hS h_bk rfl 9 (by decide) (hts _ k_357) (fun _ h9 => h9) rfl (by decide +kernel) rfl rfl (Nat.le_of_ble_eq_true rfl) rfl dX0_turnTo_2 (fun g H locs h_bk hu hP hD hS => ?_)
  have h_nx := h_nx.up hu (by decide)
  have hfr := hfr.up hu (by decide)
  refine lv_iconst (v := 0) hx hb dX0_turnTo_5 (by decide) ?_
  refine lv_istore_n (lv' := [(2, .int 0), (0, .ref bk), (1, .int (nI pg))]) hx hb dX0_turnTo_6 rfl hl (by decide) rfl (fun ls hl => ?_)
  have hne0 : (bk_pg (qF P) (qT P) pa.length C 8000 0 0) ≠ [] := fun z9 => by have h9 := congrArg List.length z9; rw [← ecn] at h9; have h9 : cn = 0 := h9; omega
  obtain ⟨f8, y8, ef8, hp8, hy8, _⟩ := bk_pg_c hne0
  have hat : pg_at (qF P) (qT P) pa.length C 0 0 := ⟨Nat.zero_le _, fun _ => rfl, fun h9 => ⟨hz 0 h9, y8, hy8⟩⟩
  refine tt_loop (L0 := L0) (g0 := g0) hz hSn hMs hM hC hcl ecn hpg hcn (Nat.le_of_ble_eq_true rfl) (Nat.le_of_ble_eq_true rfl) hA hf hK hZ hN pg 0 0 0 8000 0 0 _ _ _ _ ls (by omega) hat rfl (Nat.zero_le _) (Nat.zero_le _) h_bk h_nx hfr hP hD hS (lv_sub hl (l' := [(2, .int 0), (1, .int (nI pg)), (0, .ref bk)]) [0, 2, 1] rfl) (fun pq rr f L g H locs ls hat hdr h_bk h_nx hfr hP hD hS hl => ?_)
  have hne : bk_pg (qF P) (qT P) pa.length C f pq rr ≠ [] := by rw [← hdr]; exact dr_ne (by omega)
  obtain ⟨f9, y, ef9, hpn, hy, hcons⟩ := bk_pg_c hne
  have hy : C (qS P pq + rr) = some y := hy
  obtain ⟨hr9, _⟩ := hat.2.2 hpn
  have hr8 : rr < (P.getD pq d4).2.2.1 - (P.getD pq d4).2.1 := hr9
  have hSi := qS_in P hpn
  have hyv := cf_some (hC.1 (qS P pq + rr) (Nat.zero_le _) (by omega)).1 hy
  have hnx := pgc_nx hz hC hcl hpn hr9 hy
  refine lv_aload_n hx hb dX0_turnTo_38 rfl (lv_at hl 0 rfl) ?_
  refine lv_aload_n hx hb dX0_turnTo_39 rfl (lv_at hl 0 rfl) ?_
  refine lv_aload_n hx hb dX0_turnTo_40 rfl (lv_at hl 0 rfl) ?_
  refine o_get (D := D) (ci := 1) (v := .int (nI ((qS P pq + rr)))) (C := RX0) (T := TX0) (N := 11) hx hb hts inX0 hown hK hP h_bk rfl 9 (by decide) (hts _ k_357) (fun _ h9 => h9) rfl dX0_turnTo_41 ?_
  refine o_cis (k := 0) (n := 0) hK hP hD hS hA (o_rV (As := [.int (nI ((qS P pq + rr)))]) (rest := [.ref bk]) hf (bk_beh _ _ _ _ _ _ _ _ pr bk lf bop cf nx (pa.length) ((qS P pa.length)) y7 (nI cn) (nI ((qS P pq + rr))) y10 M fn ((qS P pq + rr)) (qS P y.2.1 + y.2.2.1) h_bk h_nx hM hMs (by omega) hyv.2 (by omega) _) k_858 k_855 k_857 k_30 k_95 (nA := 1) (by decide +kernel) ⟨Nat.le_of_ble_eq_true rfl, Nat.le_of_ble_eq_true rfl⟩ hK hP hD hS hA hZ hN h_bk rfl rfl rfl hl.1 rfl (Nat.le_of_ble_eq_true rfl) dX0_turnTo_44 ⟨(show 0 + 0 ≤ 0 by omega), (show 0 + 0 ≤ 0 by omega)⟩) (Nat.le_refl _) (Nat.le_refl _) (fun r H locs hw hP hD hS => ?_)
  obtain rfl := hw
  refine o_put (D := D) (ci := 1) (v := .int (nI ((qS P y.2.1 + y.2.2.1)))) (ty := .int) (C := RX0) (T := TX0) (N := 11) (fs1 := [.ref pr, .ref lf, .ref bop, .int (nI (pa.length)), .int (nI ((qS P pa.length))), .ref cf, .ref nx, .int y7, .int (nI cn), .int (nI ((qS P pq + rr))), .int (nI ((qS P y.2.1 + y.2.2.1)))]) hx hb hts inX0 tyX0 tyX0_ok nmX0 hown hK hP hD hS h_bk rfl 10 (by decide) (hts _ k_358) (fun _ h9 => h9) rfl (by decide +kernel) rfl rfl (Nat.le_of_ble_eq_true rfl) rfl dX0_turnTo_47 (fun g H locs h_bk hu hP hD hS => ?_)
  have h_nx := h_nx.up hu (by decide)
  have hfr := hfr.up hu (by decide)
  exact o_rv hf hr hlocks hK hP hD hS (show 0 ≤ 0 by omega) (show 0 ≤ 0 by omega) ⟨pq, rr, f9, y, dr_g (hdr.trans hcons), dr_s (hdr.trans hcons), hpn, hr9, hy, hnx.1, hnx.2.1, hnx.2.2, hfr, h_bk⟩ dX0_turnTo_50
set_option maxHeartbeats 1000000 in
set_option maxRecDepth 100000 in
theorem pw_loop {p : Program} {l : Launch} {e : Env} {R : Room} {s : State} {m : MethodId} {args : Array Value} {below : List Frame} {meth : Method} {c : Code} {Q : State → Prop} {D : va_G} {A : Nat → Prop} {z : Nat → Nat} {cB cI_ cO : ClassId} {L0 : List Nat} {g0 : hG} {cells slots : Nat} {pr : Nat} {pa : List Nat} {P : List Q4} {bk lf bop cf nx : Nat} {y7 y8 y9 y10 : Int32} {fb : Nat → Int32} {pq pl : Nat} (h_bk : ho L0 g0 bk 21 (.inr (1, [.ref pr, .ref lf, .ref bop, .int (nI (pa.length)), .int (nI ((qS P pa.length))), .ref cf, .ref nx, .int y7, .int y8, .int y9, .int y10]))) (h_bop : ho L0 g0 bop 22 (.inl (cI_, 61, .inl fb))) (hpa60 : pa.length ≤ 60) (hFb : ∀ i, i ≤ pa.length → fb i = nI (qS P i)) (hSb : ∀ i, i ≤ pa.length → qS P i ≤ 8000) (hpn : pq < pa.length) (hpl : qS P pq ≤ pl) (hpl2 : pl < qS P (pq + 1)) (hRf : 1 ≤ R.frames) (hRl : 30 ≤ R.locals) (hRc : cells ≤ R.cells) (hRs : slots ≤ R.slots) (hA : ∀ q : Nat, s.heap.size ≤ q → A q) (hf : CallFix p m c cX0_pieceWithPlace 3 s args gT yX0_pieceWithPlace.cls) (hK : va_K D vcl (dT cB cI_ cO) s) (hZ : zA z A s s.heap) (hN : zB z s) :
    ∀ (k : Nat) (i : Nat) (H : Heap) (locs : List Loc) (ls : Array Slot), i = pq + k ∧ i < pa.length → va_P D vcl (dW L0 g0) H → va_D A (dW L0 g0) → va_S A s.heap H locs → lv_has ls 3 [(2, .int (nI i)), (1, .int (nI pl)), (0, .ref bk)] →
    (∀  (H : Heap) (locs : List Loc) (ls : Array Slot), va_P D vcl (dW L0 g0) H → va_D A (dW L0 g0) → va_S A s.heap H locs → lv_has ls 3 [(2, .int (nI pq)), (0, .ref bk)] → W p l e R s m args below meth c H locs cells slots Q (F0 m 21 ls [])) →
    (∀  (H : Heap) (locs : List Loc) (ls : Array Slot), pq = 0 → va_P D vcl (dW L0 g0) H → va_D A (dW L0 g0) → va_S A s.heap H locs → lv_has ls 3 [(0, .ref bk)] → W p l e R s m args below meth c H locs cells slots Q (F0 m 29 ls [])) →
    W p l e R s m args below meth c H locs cells slots Q (F0 m 7 ls []) := by
  obtain ⟨hx, hb, hml, hown, hts⟩ := id hf
  intro k
  induction k with
  | zero =>
    intro i H locs ls hik hP hD hS hl kk1 kk0
    refine lv_iload_n hx hb dX0_pieceWithPlace_7 rfl (lv_at hl 0 rfl) ?_
    refine lv_if_le (tgt := 29) hx hb dX0_pieceWithPlace_8 (by decide) (fun c_1 => ?_) (fun c_1 => ?_)
    · have c_1 := q_le (a := i) (b := 0) (by omega) (by omega) c_1
      exact kk0 H locs ls (by omega) hP hD hS (lv_sub hl (l' := [(0, .ref bk)]) [2] rfl)
    · have c_1 := q_nle (a := i) (b := 0) (by omega) (by omega) c_1
      have hSi := hSb i (by omega)
      have hSq := hSb (pq + 1) (by omega)
      refine lv_aload_n hx hb dX0_pieceWithPlace_11 rfl (lv_at hl 2 rfl) ?_
      refine o_get (D := D) (ci := 1) (v := .ref bop) (C := RX0) (T := TX0) (N := 11) hx hb hts inX0 hown hK hP h_bk rfl 2 (by decide) (hts _ k_350) (fun _ h9 => h9) rfl dX0_pieceWithPlace_12 ?_
      refine lv_iload_n hx hb dX0_pieceWithPlace_15 rfl (lv_at hl 0 rfl) ?_
      refine o_ild (X := i) hx hb hK hP h_bop (by omega) (by omega) dX0_pieceWithPlace_16 ?_
      refine q_seti (y := (nI ((qS P i)))) (hFb i (by omega)) ?_
      refine lv_iload_n hx hb dX0_pieceWithPlace_17 rfl (lv_at hl 1 rfl) ?_
      refine lv_icmp_gt (tgt := 23) hx hb dX0_pieceWithPlace_18 (by decide) (fun c_2 => ?_) (fun c_2 => ?_)
      · have c_2 := q_lt (a := pl) (b := (qS P i)) (by omega) (by omega) c_2
        refine lv_iinc (v := nI (i - 1)) (lv' := [(2, .int (nI (i - 1))), (1, .int (nI pl)), (0, .ref bk)]) hx hb dX0_pieceWithPlace_23 hl (k := 0) rfl (nI_decE (a := i) (by omega)) (by decide) rfl (fun ls hl => ?_)
        refine lv_goto (tgt := 7) hx hb dX0_pieceWithPlace_26 (by decide) ?_
        rw [show i = pq by omega] at *
        exact False.elim (by omega)
      · have c_2 := q_nlt (a := pl) (b := (qS P i)) (by omega) (by omega) c_2
        obtain rfl : pq = i := by omega
        exact kk1 H locs ls hP hD hS (lv_sub hl (l' := [(2, .int (nI pq)), (0, .ref bk)]) [0, 2] rfl)
  | succ k ih =>
    intro i H locs ls hik hP hD hS hl kk1 kk0
    refine lv_iload_n hx hb dX0_pieceWithPlace_7 rfl (lv_at hl 0 rfl) ?_
    refine lv_if_le (tgt := 29) hx hb dX0_pieceWithPlace_8 (by decide) (fun c_1 => ?_) (fun c_1 => ?_)
    · have c_1 := q_le (a := i) (b := 0) (by omega) (by omega) c_1
      exact kk0 H locs ls (by omega) hP hD hS (lv_sub hl (l' := [(0, .ref bk)]) [2] rfl)
    · have c_1 := q_nle (a := i) (b := 0) (by omega) (by omega) c_1
      have hSi := hSb i (by omega)
      have hSq := hSb (pq + 1) (by omega)
      have hSm := qS_m P (show pq + 1 ≤ i by omega)
      refine lv_aload_n hx hb dX0_pieceWithPlace_11 rfl (lv_at hl 2 rfl) ?_
      refine o_get (D := D) (ci := 1) (v := .ref bop) (C := RX0) (T := TX0) (N := 11) hx hb hts inX0 hown hK hP h_bk rfl 2 (by decide) (hts _ k_350) (fun _ h9 => h9) rfl dX0_pieceWithPlace_12 ?_
      refine lv_iload_n hx hb dX0_pieceWithPlace_15 rfl (lv_at hl 0 rfl) ?_
      refine o_ild (X := i) hx hb hK hP h_bop (by omega) (by omega) dX0_pieceWithPlace_16 ?_
      refine q_seti (y := (nI ((qS P i)))) (hFb i (by omega)) ?_
      refine lv_iload_n hx hb dX0_pieceWithPlace_17 rfl (lv_at hl 1 rfl) ?_
      refine lv_icmp_gt (tgt := 23) hx hb dX0_pieceWithPlace_18 (by decide) (fun c_2 => ?_) (fun c_2 => ?_)
      · have c_2 := q_lt (a := pl) (b := (qS P i)) (by omega) (by omega) c_2
        refine lv_iinc (v := nI (i - 1)) (lv' := [(2, .int (nI (i - 1))), (1, .int (nI pl)), (0, .ref bk)]) hx hb dX0_pieceWithPlace_23 hl (k := 0) rfl (nI_decE (a := i) (by omega)) (by decide) rfl (fun ls hl => ?_)
        refine lv_goto (tgt := 7) hx hb dX0_pieceWithPlace_26 (by decide) ?_
        exact ih (i - 1) H locs ls (by omega) hP hD hS (lv_sub hl (l' := [(2, .int (nI (i - 1))), (1, .int (nI pl)), (0, .ref bk)]) [0, 1, 2] rfl) kk1 kk0
      · have c_2 := q_nlt (a := pl) (b := (qS P i)) (by omega) (by omega) c_2
        exact False.elim (by omega)
set_option maxHeartbeats 1000000 in
set_option maxRecDepth 100000 in
theorem bk_with (l : Launch) (D : va_G) (z : Nat → Nat) (cB cI_ cO : ClassId) (L0 : List Nat) (g0 : hG) (pr : Nat) (pa : List Nat) (P : List Q4) (bk lf bop cf nx : Nat) (y7 y8 y9 y10 : Int32) (fb : Nat → Int32) (pq pl : Nat) (h_bk : ho L0 g0 bk 21 (.inr (1, [.ref pr, .ref lf, .ref bop, .int (nI (pa.length)), .int (nI ((qS P pa.length))), .ref cf, .ref nx, .int y7, .int y8, .int y9, .int y10]))) (h_bop : ho L0 g0 bop 22 (.inl (cI_, 61, .inl fb))) (hpa60 : pa.length ≤ 60) (hFb : ∀ i, i ≤ pa.length → fb i = nI (qS P i)) (hSb : ∀ i, i ≤ pa.length → qS P i ≤ 8000) (hpn : pq < pa.length) (hpl : qS P pq ≤ pl) (hpl2 : pl < qS P (pq + 1)) : eIs l D yX0_pieceWithPlace cX0_pieceWithPlace 3 (some .int) 1 30 0 0 [.ref bk, .int (nI pl)] z cB cI_ cO L0 g0 (fun r => r = nI pq) := by
  refine o_si (by decide) (Nat.le_of_ble_eq_true rfl) ?_
  intro p e s m below meth c A ls hf hr hlocks hin hK hP hD hS hA hZ hN hl
  obtain ⟨hx, hb, hml, hown, hts⟩ := id hf
  have hl : lv_has ls 3 [(0, .ref bk), (1, .int (nI pl))] := hl
  have hSp := hSb (pq + 1) (by omega)
  refine lv_aload_n hx hb dX0_pieceWithPlace_0 rfl (lv_at hl 0 rfl) ?_
  refine o_get (D := D) (ci := 1) (v := .int (nI (pa.length))) (C := RX0) (T := TX0) (N := 11) hx hb hts inX0 hown hK hP h_bk rfl 3 (by decide) (hts _ k_351) (fun _ h9 => h9) rfl dX0_pieceWithPlace_1 ?_
  refine lv_iconst (v := 1) hx hb dX0_pieceWithPlace_4 (by decide) ?_
  refine lv_isub hx hb dX0_pieceWithPlace_5 ?_
  refine q_seti (y := nI (pa.length - 1)) (nI_subE (a := pa.length) (b := 1) (by omega) (by omega)) ?_
  refine lv_istore_n (lv' := [(2, .int (nI (pa.length - 1))), (0, .ref bk), (1, .int (nI pl))]) hx hb dX0_pieceWithPlace_6 rfl hl (by decide) rfl (fun ls hl => ?_)
  refine pw_loop  h_bk h_bop hpa60 hFb hSb hpn hpl hpl2 (Nat.le_of_ble_eq_true rfl) (Nat.le_of_ble_eq_true rfl) (show 0 ≤ 0 by omega) (show 0 ≤ 0 by omega) hA hf hK hZ hN (pa.length - 1 - pq) (pa.length - 1) _ _ ls ⟨by omega, by omega⟩ hP hD hS (lv_sub hl (l' := [(2, .int (nI (pa.length - 1))), (1, .int (nI pl)), (0, .ref bk)]) [0, 2, 1] rfl) ?_ ?_
  · intro H locs ls hP hD hS hl
    refine lv_iload_n hx hb dX0_pieceWithPlace_21 rfl (lv_at hl 0 rfl) ?_
    exact o_ri hf hr rfl hlocks hK hP hD hS (show 0 ≤ 0 by omega) (show 0 ≤ 0 by omega) ⟨rfl, rfl, rfl⟩ dX0_pieceWithPlace_22
  · intro H locs ls b1 hP hD hS hl
    refine lv_iconst (v := 0) hx hb dX0_pieceWithPlace_29 (by decide) ?_
    exact o_ri hf hr rfl hlocks hK hP hD hS (show 0 ≤ 0 by omega) (show 0 ≤ 0 by omega) ⟨by rw [b1]; rfl, rfl, rfl⟩ dX0_pieceWithPlace_30
