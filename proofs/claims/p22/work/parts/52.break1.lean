abbrev qF (P : List Q4) : Nat → Nat := fun p => (P.getD p d4).2.1
abbrev qT (P : List Q4) : Nat → Nat := fun p => (P.getD p d4).2.2.1
abbrev qK (EE : Nat → E5) (P : List Q4) : Nat → Int32 := fun p => (EE (P.getD p d4).1).1
noncomputable abbrev qR (EE : Nat → E5) (P : List Q4) : Nat → Nat := fun p => eRw (EE (P.getD p d4).1)
/-- how many rows stand ahead of piece k -/
def qS (P : List Q4) (k : Nat) : Nat := rs_S (qF P) (qT P) k
theorem qS_s (P : List Q4) (k : Nat) : qS P (k + 1) = qS P k + ((P.getD k d4).2.2.1 - (P.getD k d4).2.1) := rfl
theorem qS_0 (P : List Q4) : qS P 0 = 0 := rfl
theorem qS_m (P : List Q4) {i j : Nat} (h : i ≤ j) : qS P i ≤ qS P j := by
  have h2 := rs_S_mono (qF P) (qT P) (j - i) i
  rw [show i + (j - i) = j by omega] at h2
  exact h2
theorem qS_in (P : List Q4) {i j : Nat} (h : i < j) : qS P i + ((P.getD i d4).2.2.1 - (P.getD i d4).2.1) ≤ qS P j := by
  have h2 := qS_m P (show i + 1 ≤ j from h)
  rw [qS_s] at h2
  exact h2
/-- whole elements -/
def pu_ok (EE : Nat → E5) (P : List Q4) : Prop := ∀ i, i < P.length → (P.getD i d4).2.1 = 0 ∧ (P.getD i d4).2.2.1 = eRw (EE (P.getD i d4).1)
/-- a row into the next piece, or within the piece, in the places of the document -/
theorem lf_take (l : Launch) (D : va_G) (z : Nat → Nat) (cB cI_ cO : ClassId) (L0 : List Nat) (g0 : hG) (pr pcs spr nwh cp : Nat) (pa : List Nat) (ea : Nat → Nat) (P : List Q4) (ne : Nat) (EE : Nat → E5) (lf : Nat) (le p0 b0 lp lr lw p i : Nat) (h_lf : ho L0 g0 lf 20 (.inr (4, [.ref pr, .int (nI le), .int (nI p0), .int (nI b0), .int (nI lp), .int (nI lr), .int (nI lw)]))) (h_pr : ho L0 g0 pr 13 (.inr (7, [.ref pcs, .ref spr, .ref nwh]))) (h_pcs : alR cO (z 0) 14 15 L0 g0 pcs cp pa) (h_pc : pcR L0 g0 ea pa P) (h_es : esR cB cI_ L0 g0 ea ne EE) (hpa : pa.length ≤ 20000) (hQ : pq_ok ne EE P) (hle : le ≤ pa.length) (hlw : lw ≤ 20000) (hp : p < le) (hi : i < (P.getD p d4).2.2.1 - (P.getD p d4).2.1) (hR : (lp = p ∧ lr = (P.getD p d4).2.1 + i ∧ (p = p0 ∨ 0 < i)) ∨ (lp + 1 = p ∧ lr = (P.getD lp d4).2.2.1 ∧ i = 0 ∧ p0 < p)) : eV l D yX3_takeRow cX3_takeRow 2 none 5 105 0 0 [.ref lf] z cB cI_ cO L0 g0 (fun L g => fr [20] L0 g0 L g ∧ ho L g lf 20 (.inr (4, [.ref pr, .int (nI le), .int (nI p0), .int (nI b0), .int (nI p), .int (nI ((P.getD p d4).2.1 + i + 1)), .int (nI (lw + pb (p0 < p ∧ i = 0 ∧ rp_he ((EE (P.getD p d4).1).1) ((P.getD p d4).2.1)) + 1))]))) := by
  have hpl := h_pc.1
  have hqp := hQ p (by omega)
  have hrp := h_es.rb hqp.1
  rcases hR with ⟨rfl, rfl, h2⟩ | ⟨rfl, rfl, rfl, h3⟩
  · refine eV_mo (lf_takeA l D z cB cI_ cO L0 g0 pr pcs spr nwh cp pa ea P ne EE lf le p0 b0 lp _ lw h_lf h_pr h_pcs h_pc h_es hpa hQ hle hp (by omega) (by omega) hlw) (fun L g h => ⟨h.1, ?_⟩)
    rw [pb_0 (fun z9 => by have h8 := z9.1; have h9 := z9.2.1; omega)]
    exact h.2
  · have hql := hQ lp (by omega)
    have hrl := h_es.rb hql.1
    refine eV_mo (lf_takeB l D z cB cI_ cO L0 g0 pr pcs spr nwh cp pa ea P ne EE lf le p0 b0 lp _ lw h_lf h_pr h_pcs h_pc h_es hpa hQ hle (by omega) (by omega) (Nat.le_refl _) hp hlw) (fun L g h => ⟨h.1, ?_⟩)
    have e9 : pb (p0 < lp + 1 ∧ 0 = 0 ∧ rp_he ((EE (P.getD (lp + 1) d4).1).1) ((P.getD (lp + 1) d4).2.1)) = pb (rp_he ((EE (P.getD (lp + 1) d4).1).1) ((P.getD (lp + 1) d4).2.1)) := by
      by_cases hh : rp_he ((EE (P.getD (lp + 1) d4).1).1) ((P.getD (lp + 1) d4).2.1)
      · rw [pb_1 hh, pb_1 ⟨h3, rfl, hh⟩]
      · rw [pb_0 hh, pb_0 (fun z9 => hh z9.2.2)]
    rw [e9]
    exact h.2
abbrev cX0_beginOf : ByteArray := prog_2_method_20_code
def yX0_beginOf : MethodName := ⟨RX0, "beginOf", "(I)I"⟩
abbrev cX0_makeRoom : ByteArray := prog_2_method_15_code
def yX0_makeRoom : MethodName := ⟨RX0, "makeRoom", "()V"⟩
abbrev cX0_numberPlaces : ByteArray := prog_2_method_14_code
def yX0_numberPlaces : MethodName := ⟨RX0, "numberPlaces", "()V"⟩
theorem k_290 : (Cond.fieldLink RX0 52 "ScriptDesk$Piece" "to" "I") ∈ gT := gT_i 290 (by decide +kernel) rfl
theorem k_348 : (Cond.fieldLink RX0 21 "ScriptDesk$Breaking" "standing" "LScriptDesk$PieceRow;") ∈ gT := gT_i 348 (by decide +kernel) rfl
theorem k_350 : (Cond.fieldLink RX0 9 "ScriptDesk$Breaking" "beginOfPiece" "[I") ∈ gT := gT_i 350 (by decide +kernel) rfl
theorem k_351 : (Cond.fieldLink RX0 43 "ScriptDesk$Breaking" "pieces" "I") ∈ gT := gT_i 351 (by decide +kernel) rfl
theorem k_352 : (Cond.fieldLink RX0 39 "ScriptDesk$Breaking" "places" "I") ∈ gT := gT_i 352 (by decide +kernel) rfl
theorem k_353 : (Cond.fieldLink RX0 15 "ScriptDesk$Breaking" "costFrom" "[I") ∈ gT := gT_i 353 (by decide +kernel) rfl
theorem k_354 : (Cond.fieldLink RX0 18 "ScriptDesk$Breaking" "nextPlace" "[I") ∈ gT := gT_i 354 (by decide +kernel) rfl
theorem k_689 : (Cond.instanceMethod yX6_size) ∈ gT := gT_i 689 (by decide +kernel) rfl
theorem k_690 : (Cond.selects RX6 yX6_size yX6_size) ∈ gT := gT_i 690 (by decide +kernel) rfl
theorem k_691 : (Cond.code yX6_size cX6_size 1 (some .int)) ∈ gT := gT_i 691 (by decide +kernel) rfl
theorem k_770 : (Cond.methodLink RX0 117 yX6_size) ∈ gT := gT_i 770 (by decide +kernel) rfl
theorem k_771 : (Cond.methodLink RX0 120 Lib.Math.min.name) ∈ gT := gT_i 771 (by decide +kernel) rfl
theorem k_772 : (Cond.methodLink RX0 46 yX6_at) ∈ gT := gT_i 772 (by decide +kernel) rfl
theorem dX0_beginOf_0 : decode cX0_beginOf 0 = .ok (.iload_n 1, 1) := by decide +kernel
theorem dX0_beginOf_1 : decode cX0_beginOf 1 = .ok (.ifCond .lt 20, 3) := by decide +kernel
theorem dX0_beginOf_4 : decode cX0_beginOf 4 = .ok (.iload_n 1, 1) := by decide +kernel
theorem dX0_beginOf_5 : decode cX0_beginOf 5 = .ok (.aload_n 0, 1) := by decide +kernel
theorem dX0_beginOf_6 : decode cX0_beginOf 6 = .ok (.getfield 43, 3) := by decide +kernel
theorem dX0_beginOf_9 : decode cX0_beginOf 9 = .ok (.if_icmp .gt 12, 3) := by decide +kernel
theorem dX0_beginOf_12 : decode cX0_beginOf 12 = .ok (.aload_n 0, 1) := by decide +kernel
theorem dX0_beginOf_13 : decode cX0_beginOf 13 = .ok (.getfield 9, 3) := by decide +kernel
theorem dX0_beginOf_16 : decode cX0_beginOf 16 = .ok (.iload_n 1, 1) := by decide +kernel
theorem dX0_beginOf_17 : decode cX0_beginOf 17 = .ok (.iaload, 1) := by decide +kernel
theorem dX0_beginOf_18 : decode cX0_beginOf 18 = .ok (.goto 7, 3) := by decide +kernel
theorem dX0_beginOf_25 : decode cX0_beginOf 25 = .ok (.ireturn, 1) := by decide +kernel
theorem dX0_numberPlaces_23 : decode cX0_numberPlaces 23 = .ok (.iload_n 1, 1) := by decide +kernel
theorem dX0_numberPlaces_24 : decode cX0_numberPlaces 24 = .ok (.aload_n 0, 1) := by decide +kernel
theorem dX0_numberPlaces_25 : decode cX0_numberPlaces 25 = .ok (.getfield 43, 3) := by decide +kernel
theorem dX0_numberPlaces_28 : decode cX0_numberPlaces 28 = .ok (.if_icmp .ge 39, 3) := by decide +kernel
theorem dX0_numberPlaces_31 : decode cX0_numberPlaces 31 = .ok (.aload_n 0, 1) := by decide +kernel
theorem dX0_numberPlaces_32 : decode cX0_numberPlaces 32 = .ok (.getfield 9, 3) := by decide +kernel
theorem dX0_numberPlaces_35 : decode cX0_numberPlaces 35 = .ok (.iload_n 1, 1) := by decide +kernel
theorem dX0_numberPlaces_36 : decode cX0_numberPlaces 36 = .ok (.aload_n 0, 1) := by decide +kernel
theorem dX0_numberPlaces_37 : decode cX0_numberPlaces 37 = .ok (.getfield 39, 3) := by decide +kernel
theorem dX0_numberPlaces_40 : decode cX0_numberPlaces 40 = .ok (.iastore, 1) := by decide +kernel
theorem dX0_numberPlaces_41 : decode cX0_numberPlaces 41 = .ok (.aload_n 0, 1) := by decide +kernel
theorem dX0_numberPlaces_42 : decode cX0_numberPlaces 42 = .ok (.dup, 1) := by decide +kernel
theorem dX0_numberPlaces_43 : decode cX0_numberPlaces 43 = .ok (.getfield 39, 3) := by decide +kernel
theorem dX0_numberPlaces_46 : decode cX0_numberPlaces 46 = .ok (.aload_n 0, 1) := by decide +kernel
theorem dX0_numberPlaces_47 : decode cX0_numberPlaces 47 = .ok (.getfield 21, 3) := by decide +kernel
theorem dX0_numberPlaces_50 : decode cX0_numberPlaces 50 = .ok (.iload_n 1, 1) := by decide +kernel
theorem dX0_numberPlaces_51 : decode cX0_numberPlaces 51 = .ok (.invokevirtual 46, 3) := by decide +kernel
theorem dX0_numberPlaces_54 : decode cX0_numberPlaces 54 = .ok (.getfield 52, 3) := by decide +kernel
theorem dX0_numberPlaces_57 : decode cX0_numberPlaces 57 = .ok (.iadd, 1) := by decide +kernel
theorem dX0_numberPlaces_58 : decode cX0_numberPlaces 58 = .ok (.putfield 39, 3) := by decide +kernel
theorem dX0_numberPlaces_61 : decode cX0_numberPlaces 61 = .ok (.iinc 1 1, 3) := by decide +kernel
theorem dX0_numberPlaces_64 : decode cX0_numberPlaces 64 = .ok (.goto (-41), 3) := by decide +kernel
theorem dX0_numberPlaces_0 : decode cX0_numberPlaces 0 = .ok (.aload_n 0, 1) := by decide +kernel
theorem dX0_numberPlaces_1 : decode cX0_numberPlaces 1 = .ok (.aload_n 0, 1) := by decide +kernel
theorem dX0_numberPlaces_2 : decode cX0_numberPlaces 2 = .ok (.getfield 21, 3) := by decide +kernel
theorem dX0_numberPlaces_5 : decode cX0_numberPlaces 5 = .ok (.invokevirtual 117, 3) := by decide +kernel
theorem dX0_numberPlaces_8 : decode cX0_numberPlaces 8 = .ok (.bipush 60, 2) := by decide +kernel
theorem dX0_numberPlaces_10 : decode cX0_numberPlaces 10 = .ok (.invokestatic 120, 3) := by decide +kernel
theorem dX0_numberPlaces_13 : decode cX0_numberPlaces 13 = .ok (.putfield 43, 3) := by decide +kernel
theorem dX0_numberPlaces_16 : decode cX0_numberPlaces 16 = .ok (.aload_n 0, 1) := by decide +kernel
theorem dX0_numberPlaces_17 : decode cX0_numberPlaces 17 = .ok (.iconst 0, 1) := by decide +kernel
theorem dX0_numberPlaces_18 : decode cX0_numberPlaces 18 = .ok (.putfield 39, 3) := by decide +kernel
theorem dX0_numberPlaces_21 : decode cX0_numberPlaces 21 = .ok (.iconst 0, 1) := by decide +kernel
theorem dX0_numberPlaces_22 : decode cX0_numberPlaces 22 = .ok (.istore_n 1, 1) := by decide +kernel
theorem dX0_numberPlaces_67 : decode cX0_numberPlaces 67 = .ok (.aload_n 0, 1) := by decide +kernel
theorem dX0_numberPlaces_68 : decode cX0_numberPlaces 68 = .ok (.getfield 9, 3) := by decide +kernel
theorem dX0_numberPlaces_71 : decode cX0_numberPlaces 71 = .ok (.aload_n 0, 1) := by decide +kernel
theorem dX0_numberPlaces_72 : decode cX0_numberPlaces 72 = .ok (.getfield 43, 3) := by decide +kernel
theorem dX0_numberPlaces_75 : decode cX0_numberPlaces 75 = .ok (.aload_n 0, 1) := by decide +kernel
theorem dX0_numberPlaces_76 : decode cX0_numberPlaces 76 = .ok (.getfield 39, 3) := by decide +kernel
theorem dX0_numberPlaces_79 : decode cX0_numberPlaces 79 = .ok (.iastore, 1) := by decide +kernel
theorem dX0_numberPlaces_80 : decode cX0_numberPlaces 80 = .ok (.return_, 1) := by decide +kernel
theorem dX0_makeRoom_0 : decode cX0_makeRoom 0 = .ok (.aload_n 0, 1) := by decide +kernel
theorem dX0_makeRoom_1 : decode cX0_makeRoom 1 = .ok (.getfield 39, 3) := by decide +kernel
theorem dX0_makeRoom_4 : decode cX0_makeRoom 4 = .ok (.aload_n 0, 1) := by decide +kernel
theorem dX0_makeRoom_5 : decode cX0_makeRoom 5 = .ok (.getfield 15, 3) := by decide +kernel
theorem dX0_makeRoom_8 : decode cX0_makeRoom 8 = .ok (.arraylength, 1) := by decide +kernel
theorem dX0_makeRoom_9 : decode cX0_makeRoom 9 = .ok (.if_icmp .lt 27, 3) := by decide +kernel
theorem dX0_makeRoom_36 : decode cX0_makeRoom 36 = .ok (.return_, 1) := by decide +kernel
theorem dX0_makeRoom_12 : decode cX0_makeRoom 12 = .ok (.aload_n 0, 1) := by decide +kernel
theorem dX0_makeRoom_13 : decode cX0_makeRoom 13 = .ok (.iconst 2, 1) := by decide +kernel
theorem dX0_makeRoom_14 : decode cX0_makeRoom 14 = .ok (.aload_n 0, 1) := by decide +kernel
theorem dX0_makeRoom_15 : decode cX0_makeRoom 15 = .ok (.getfield 39, 3) := by decide +kernel
theorem dX0_makeRoom_18 : decode cX0_makeRoom 18 = .ok (.imul, 1) := by decide +kernel
theorem dX0_makeRoom_19 : decode cX0_makeRoom 19 = .ok (.newarray .int, 2) := by decide +kernel
theorem dX0_makeRoom_21 : decode cX0_makeRoom 21 = .ok (.putfield 15, 3) := by decide +kernel
theorem dX0_makeRoom_24 : decode cX0_makeRoom 24 = .ok (.aload_n 0, 1) := by decide +kernel
theorem dX0_makeRoom_25 : decode cX0_makeRoom 25 = .ok (.iconst 2, 1) := by decide +kernel
theorem dX0_makeRoom_26 : decode cX0_makeRoom 26 = .ok (.aload_n 0, 1) := by decide +kernel
theorem dX0_makeRoom_27 : decode cX0_makeRoom 27 = .ok (.getfield 39, 3) := by decide +kernel
theorem dX0_makeRoom_30 : decode cX0_makeRoom 30 = .ok (.imul, 1) := by decide +kernel
theorem dX0_makeRoom_31 : decode cX0_makeRoom 31 = .ok (.newarray .int, 2) := by decide +kernel
theorem dX0_makeRoom_33 : decode cX0_makeRoom 33 = .ok (.putfield 18, 3) := by decide +kernel
set_option maxHeartbeats 1000000 in
set_option maxRecDepth 100000 in
theorem bk_beg (l : Launch) (D : va_G) (z : Nat → Nat) (cB cI_ cO : ClassId) (L0 : List Nat) (g0 : hG) (pr : Nat) (P : List Q4) (bk lf bop cf nx bn bs : Nat) (y7 y8 y9 y10 : Int32) (fb : Nat → Int32) (i : Nat) (h_bk : ho L0 g0 bk 21 (.inr (1, [.ref pr, .ref lf, .ref bop, .int (nI bn), .int (nI bs), .ref cf, .ref nx, .int y7, .int y8, .int y9, .int y10]))) (h_bop : ho L0 g0 bop 22 (.inl (cI_, 61, .inl fb))) (hbn : bn ≤ 60) (hFb : ∀ i, i ≤ bn → fb i = nI (qS P i)) (hi : i ≤ bn) : eIs l D yX0_beginOf cX0_beginOf 2 (some .int) 0 0 0 0 [.ref bk, .int (nI i)] z cB cI_ cO L0 g0 (fun r => r = nI (qS P i)) := by
  refine o_si (by decide) (Nat.le_of_ble_eq_true rfl) ?_
  intro p e s m below meth c A ls hf hr hlocks hin hK hP hD hS hA hZ hN hl
  obtain ⟨hx, hb, hml, hown, hts⟩ := id hf
  have hl : lv_has ls 2 [(0, .ref bk), (1, .int (nI i))] := hl
  refine lv_iload_n hx hb dX0_beginOf_0 rfl (lv_at hl 1 rfl) ?_
  refine lv_if_lt (tgt := 21) hx hb dX0_beginOf_1 (by decide) (fun c_1 => ?_) (fun c_1 => ?_)
  · have c_1 := q_lt (a := i) (b := 0) (by omega) (by omega) c_1
    exact False.elim (by omega)
  · have c_1 := q_nlt (a := i) (b := 0) (by omega) (by omega) c_1
    refine lv_iload_n hx hb dX0_beginOf_4 rfl (lv_at hl 1 rfl) ?_
    refine lv_aload_n hx hb dX0_beginOf_5 rfl (lv_at hl 0 rfl) ?_
    refine o_get (D := D) (ci := 1) (v := .int (nI bn)) (C := RX0) (T := TX0) (N := 11) hx hb hts inX0 hown hK hP h_bk rfl 3 (by decide) (hts _ k_351) (fun _ h9 => h9) rfl dX0_beginOf_6 ?_
    refine lv_icmp_gt (tgt := 21) hx hb dX0_beginOf_9 (by decide) (fun c_2 => ?_) (fun c_2 => ?_)
    · have c_2 := q_lt (a := bn) (b := i) (by omega) (by omega) c_2
      exact False.elim (by omega)
    · have c_2 := q_nlt (a := bn) (b := i) (by omega) (by omega) c_2
      refine lv_aload_n hx hb dX0_beginOf_12 rfl (lv_at hl 0 rfl) ?_
      refine o_get (D := D) (ci := 1) (v := .ref bop) (C := RX0) (T := TX0) (N := 11) hx hb hts inX0 hown hK hP h_bk rfl 2 (by decide) (hts _ k_350) (fun _ h9 => h9) rfl dX0_beginOf_13 ?_
      refine lv_iload_n hx hb dX0_beginOf_16 rfl (lv_at hl 1 rfl) ?_
      refine o_ild (X := i) hx hb hK hP h_bop (by omega) (by omega) dX0_beginOf_17 ?_
      refine q_seti (y := (nI ((qS P i)))) (hFb i (by omega)) ?_
      refine lv_goto (tgt := 25) hx hb dX0_beginOf_18 (by decide) ?_
      exact o_ri hf hr rfl hlocks hK hP hD hS (show 0 ≤ 0 by omega) (show 0 ≤ 0 by omega) ⟨rfl, rfl, rfl⟩ dX0_beginOf_25
set_option maxHeartbeats 1000000 in
set_option maxRecDepth 100000 in
theorem nb_loop {p : Program} {l : Launch} {e : Env} {R : Room} {s : State} {m : MethodId} {args : Array Value} {below : List Frame} {meth : Method} {c : Code} {Q : State → Prop} {D : va_G} {A : Nat → Prop} {z : Nat → Nat} {cB cI_ cO : ClassId} {L0 : List Nat} {g0 : hG} {pr pcs spr nwh cp : Nat} {pa : List Nat} {ea : Nat → Nat} {P : List Q4} {ne : Nat} {EE : Nat → E5} {bk lf bop cf nx : Nat} {y7 y8 y9 y10 : Int32} (hpa60 : pa.length ≤ 60) (hpa : pa.length ≤ 20000) (hQ : pq_ok ne EE P) (hU : pu_ok EE P) (hSb : ∀ i, i ≤ pa.length → qS P i ≤ 8000) (hRf : 8 ≤ R.frames) (hRl : 160 ≤ R.locals) (hA : ∀ q : Nat, s.heap.size ≤ q → A q) (hf : CallFix p m c cX0_numberPlaces 2 s args gT yX0_numberPlaces.cls) (hK : va_K D vcl (dT cB cI_ cO) s) (hZ : zA z A s s.heap) (hN : zB z s) :
    ∀ (k : Nat) (i : Nat) (f : Nat → Int32) (cells slots : Nat) (L : List Nat) (g : hG) (H : Heap) (locs : List Loc) (ls : Array Slot), i + k = pa.length → (∀ j, j < i → f j = nI (qS P j)) → cells ≤ R.cells → slots ≤ R.slots → ho L g pr 13 (.inr (7, [.ref pcs, .ref spr, .ref nwh])) → alR cO (z 0) 14 15 L g pcs cp pa → pcR L g ea pa P → esR cB cI_ L g ea ne EE → ho L g bk 21 (.inr (1, [.ref pr, .ref lf, .ref bop, .int (nI (pa.length)), .int (nI ((qS P i))), .ref cf, .ref nx, .int y7, .int y8, .int y9, .int y10])) → ho L g bop 22 (.inl (cI_, 61, .inl f)) → fr [21, 22] L0 g0 L g → va_P D vcl (dW L g) H → va_D A (dW L g) → va_S A s.heap H locs → lv_has ls 2 [(1, .int (nI i)), (0, .ref bk)] →
    (∀ (f2 : Nat → Int32)  (L : List Nat) (g : hG) (H : Heap) (locs : List Loc) (ls : Array Slot), (∀ j, j < pa.length → f2 j = nI (qS P j)) → ho L g pr 13 (.inr (7, [.ref pcs, .ref spr, .ref nwh])) → alR cO (z 0) 14 15 L g pcs cp pa → pcR L g ea pa P → esR cB cI_ L g ea ne EE → ho L g bk 21 (.inr (1, [.ref pr, .ref lf, .ref bop, .int (nI (pa.length)), .int (nI ((qS P pa.length))), .ref cf, .ref nx, .int y7, .int y8, .int y9, .int y10])) → ho L g bop 22 (.inl (cI_, 61, .inl f2)) → fr [21, 22] L0 g0 L g → va_P D vcl (dW L g) H → va_D A (dW L g) → va_S A s.heap H locs → lv_has ls 2 [(0, .ref bk)] → W p l e R s m args below meth c H locs cells slots Q (F0 m 67 ls [])) →
    W p l e R s m args below meth c H locs cells slots Q (F0 m 23 ls []) := by
  obtain ⟨hx, hb, hml, hown, hts⟩ := id hf
  intro k
  induction k with
  | zero =>
    intro i f cells slots L g H locs ls hik hFj hRc hRs h_pr h_pcs h_pc h_es h_bk h_bop hfr hP hD hS hl kk
    refine lv_iload_n hx hb dX0_numberPlaces_23 rfl (lv_at hl 0 rfl) ?_
    refine lv_aload_n hx hb dX0_numberPlaces_24 rfl (lv_at hl 1 rfl) ?_
    refine o_get (D := D) (ci := 1) (v := .int (nI (pa.length))) (C := RX0) (T := TX0) (N := 11) hx hb hts inX0 hown hK hP h_bk rfl 3 (by decide) (hts _ k_351) (fun _ h9 => h9) rfl dX0_numberPlaces_25 ?_
    have hSi := hSb i (by omega)
    refine lv_icmp_ge (tgt := 67) hx hb dX0_numberPlaces_28 (by decide) (fun c_1 => ?_) (fun c_1 => ?_)
    · have c_1 := q_le (a := pa.length) (b := i) (by omega) (by omega) c_1
      obtain rfl : i = pa.length := by omega
      exact kk f _ _ H locs ls hFj h_pr h_pcs h_pc h_es h_bk h_bop hfr hP hD hS (lv_sub hl (l' := [(0, .ref bk)]) [1] rfl)
    · have c_1 := q_nle (a := pa.length) (b := i) (by omega) (by omega) c_1
      exact False.elim (by omega)
  | succ k ih =>
    intro i f cells slots L g H locs ls hik hFj hRc hRs h_pr h_pcs h_pc h_es h_bk h_bop hfr hP hD hS hl kk
    refine lv_iload_n hx hb dX0_numberPlaces_23 rfl (lv_at hl 0 rfl) ?_
    refine lv_aload_n hx hb dX0_numberPlaces_24 rfl (lv_at hl 1 rfl) ?_
    refine o_get (D := D) (ci := 1) (v := .int (nI (pa.length))) (C := RX0) (T := TX0) (N := 11) hx hb hts inX0 hown hK hP h_bk rfl 3 (by decide) (hts _ k_351) (fun _ h9 => h9) rfl dX0_numberPlaces_25 ?_
    have hSi := hSb i (by omega)
    refine lv_icmp_ge (tgt := 67) hx hb dX0_numberPlaces_28 (by decide) (fun c_1 => ?_) (fun c_1 => ?_)
    · have c_1 := q_le (a := pa.length) (b := i) (by omega) (by omega) c_1
      exact False.elim (by omega)
    · have c_1 := q_nle (a := pa.length) (b := i) (by omega) (by omega) c_1
      refine lv_aload_n hx hb dX0_numberPlaces_31 rfl (lv_at hl 1 rfl) ?_
      refine o_get (D := D) (ci := 1) (v := .ref bop) (C := RX0) (T := TX0) (N := 11) hx hb hts inX0 hown hK hP h_bk rfl 2 (by decide) (hts _ k_350) (fun _ h9 => h9) rfl dX0_numberPlaces_32 ?_
      refine lv_iload_n hx hb dX0_numberPlaces_35 rfl (lv_at hl 0 rfl) ?_
      refine lv_aload_n hx hb dX0_numberPlaces_36 rfl (lv_at hl 1 rfl) ?_
      refine o_get (D := D) (ci := 1) (v := .int (nI ((qS P i)))) (C := RX0) (T := TX0) (N := 11) hx hb hts inX0 hown hK hP h_bk rfl 4 (by decide) (hts _ k_352) (fun _ h9 => h9) rfl dX0_numberPlaces_37 ?_
      refine o_ist (X := i) (x := (nI ((qS P i)))) hx hb hK hP hD hS h_bop (by omega) (by omega) dX0_numberPlaces_40 (fun g H locs h_bop hu hP hD hS => ?_)
      have h_pr := h_pr.up hu (by decide)
      have h_bk := h_bk.up hu (by decide)
      have hfr := hfr.up hu (by decide)
      have h_pcs := h_pcs.frd hu.fr (by decide)
      have h_pc := h_pc.frd hu.fr (by decide)
      have h_es := h_es.frd hu.fr (by decide)
      refine lv_aload_n hx hb dX0_numberPlaces_41 rfl (lv_at hl 1 rfl) ?_
      refine lv_dup hx hb dX0_numberPlaces_42 rfl ?_
      refine o_get (D := D) (ci := 1) (v := .int (nI ((qS P i)))) (C := RX0) (T := TX0) (N := 11) hx hb hts inX0 hown hK hP h_bk rfl 4 (by decide) (hts _ k_352) (fun _ h9 => h9) rfl dX0_numberPlaces_43 ?_
      refine lv_aload_n hx hb dX0_numberPlaces_46 rfl (lv_at hl 1 rfl) ?_
      refine o_get (D := D) (ci := 1) (v := .ref pr) (C := RX0) (T := TX0) (N := 11) hx hb hts inX0 hown hK hP h_bk rfl 0 (by decide) (hts _ k_348) (fun _ h9 => h9) rfl dX0_numberPlaces_47 ?_
      refine lv_iload_n hx hb dX0_numberPlaces_50 rfl (lv_at hl 0 rfl) ?_
      refine o_crs (k := cells) (n := slots) hK hP hD hS hA (o_rV (As := [.int (nI i)]) (rest := [.int (nI ((qS P i))), .ref bk]) hf (p_atI _ _ _ _ _ _ _ _ pr pcs spr nwh cp pa ea P i h_pr h_pcs h_pc hpa (by omega) _) k_775 k_772 k_773 k_774 k_92 (nA := 1) (by decide +kernel) ⟨Nat.le_trans (by decide) hRf, Nat.le_trans (by decide) hRl⟩ hK hP hD hS hA hZ hN h_pr rfl rfl rfl hl.1 rfl (Nat.le_of_ble_eq_true rfl) dX0_numberPlaces_51 ⟨(show cells + 0 ≤ R.cells by omega), (show slots + 0 ≤ R.slots by omega)⟩) (Nat.le_refl _) (Nat.le_refl _) (fun r H locs hw hP hD hS => ?_)
      obtain rfl := hw
      have h_p2 := h_pc.2 i (by omega)
      have hpl_ := h_pc.1
      have hq_p2 := hQ i (by omega)
      have hr_p2 := h_es.rb hq_p2.1
      have hu_p2 := hU i (by omega)
      refine o_get (D := D) (ci := 6) (v := .int (nI ((P.getD i d4).2.2.1))) (C := RX5) (T := TX5) (N := 4) hx hb hts inX5 hown hK hP h_p2 rfl 2 (by decide) (hts _ k_290) (fun _ h9 => h9) rfl dX0_numberPlaces_54 ?_
      refine lv_iadd hx hb dX0_numberPlaces_57 ?_
      refine q_seti (y := nI (qS P i + ((P.getD i d4).2.2.1))) (nI_addE (a := (qS P i)) (b := (P.getD i d4).2.2.1) (by omega)) ?_
      refine o_put (D := D) (ci := 1) (v := .int (nI (qS P i + ((P.getD i d4).2.2.1)))) (ty := .int) (C := RX0) (T := TX0) (N := 11) (fs1 := [.ref pr, .ref lf, .ref bop, .int (nI (pa.length)), .int (nI (qS P i + ((P.getD i d4).2.2.1))), .ref cf, .ref nx, .int y7, .int y8, .int y9, .int y10]) hx hb hts inX0 tyX0 tyX0_ok nmX0 hown hK hP hD hS h_bk rfl 4 (by decide) (hts _ k_352) (fun _ h9 => h9) rfl (by decide +kernel) rfl rfl (Nat.le_of_ble_eq_true rfl) rfl dX0_numberPlaces_58 (fun g H locs h_bk hu hP hD hS => ?_)
      have h_pr := h_pr.up hu (by decide)
      have h_bop := h_bop.up hu (by decide)
      have h_p2 := h_p2.up hu (by decide)
      have hfr := hfr.up hu (by decide)
      have h_pcs := h_pcs.frd hu.fr (by decide)
      have h_pc := h_pc.frd hu.fr (by decide)
      have h_es := h_es.frd hu.fr (by decide)
      refine lv_iinc (v := nI (i + 1)) (lv' := [(1, .int (nI (i + 1))), (0, .ref bk)]) hx hb dX0_numberPlaces_61 hl (k := 0) rfl (nI_addE (a := i) (b := 1) (by omega)) (by decide) rfl (fun ls hl => ?_)
      refine lv_goto (tgt := 23) hx hb dX0_numberPlaces_64 (by decide) ?_
      have hqs := qS_s P i
      rw [show qS P i + ((P.getD i d4).2.2.1) = qS P (i + 1) by omega] at h_bk
      exact ih (i + 1) _ cells slots _ _ H locs ls (by omega) (fun j hj => by by_cases e9 : j = i; (· rw [e9]; exact pk_us); rw [pk_un e9]; exact hFj j (by omega)) hRc hRs h_pr h_pcs h_pc h_es h_bk h_bop hfr hP hD hS (lv_sub hl (l' := [(1, .int (nI (i + 1))), (0, .ref bk)]) [0, 1] rfl) kk
set_option maxHeartbeats 1000000 in
set_option maxRecDepth 100000 in
theorem bk_num (l : Launch) (D : va_G) (z : Nat → Nat) (cB cI_ cO : ClassId) (L0 : List Nat) (g0 : hG) (pr pcs spr nwh cp : Nat) (pa : List Nat) (ea : Nat → Nat) (P : List Q4) (ne : Nat) (EE : Nat → E5) (bk lf bop cf nx bn bs : Nat) (y7 y8 y9 y10 : Int32) (fb : Nat → Int32) (h_pr : ho L0 g0 pr 13 (.inr (7, [.ref pcs, .ref spr, .ref nwh]))) (h_pcs : alR cO (z 0) 14 15 L0 g0 pcs cp pa) (h_pc : pcR L0 g0 ea pa P) (h_es : esR cB cI_ L0 g0 ea ne EE) (h_bk : ho L0 g0 bk 21 (.inr (1, [.ref pr, .ref lf, .ref bop, .int (nI bn), .int (nI bs), .ref cf, .ref nx, .int y7, .int y8, .int y9, .int y10]))) (h_bop : ho L0 g0 bop 22 (.inl (cI_, 61, .inl fb))) (hpa60 : pa.length ≤ 60) (hpa : pa.length ≤ 20000) (hQ : pq_ok ne EE P) (hU : pu_ok EE P) (hSb : ∀ i, i ≤ pa.length → qS P i ≤ 8000) : eV l D yX0_numberPlaces cX0_numberPlaces 2 none 8 160 0 0 [.ref bk] z cB cI_ cO L0 g0 (fun L g => ∃ f2 : Nat → Int32, (∀ j, j ≤ pa.length → f2 j = nI (qS P j)) ∧ fr [21, 22] L0 g0 L g ∧ ho L g bk 21 (.inr (1, [.ref pr, .ref lf, .ref bop, .int (nI (pa.length)), .int (nI ((qS P pa.length))), .ref cf, .ref nx, .int y7, .int y8, .int y9, .int y10])) ∧ ho L g bop 22 (.inl (cI_, 61, .inl f2))) := by
  refine o_sv (by decide) (Nat.le_of_ble_eq_true rfl) ?_
  intro p e s m below meth c A ls hf hr hlocks hin hK hP hD hS hA hZ hN hl
  obtain ⟨hx, hb, hml, hown, hts⟩ := id hf
  have hl : lv_has ls 2 [(0, .ref bk)] := hl
  have hfr : fr [21, 22] L0 g0 L0 g0 := fr.rf
  refine lv_aload_n hx hb dX0_numberPlaces_0 rfl (lv_at hl 0 rfl) ?_
  refine lv_aload_n hx hb dX0_numberPlaces_1 rfl (lv_at hl 0 rfl) ?_
  refine o_get (D := D) (ci := 1) (v := .ref pr) (C := RX0) (T := TX0) (N := 11) hx hb hts inX0 hown hK hP h_bk rfl 0 (by decide) (hts _ k_348) (fun _ h9 => h9) rfl dX0_numberPlaces_2 ?_
  refine o_cis (k := 0) (n := 0) hK hP hD hS hA (o_rV (As := []) (rest := [.ref bk]) hf (p_size _ _ _ _ _ _ _ _ pr pcs spr nwh cp pa ea P h_pr h_pcs _) k_691 k_770 k_689 k_690 k_92 (nA := 0) (by decide +kernel) ⟨Nat.le_of_ble_eq_true rfl, Nat.le_of_ble_eq_true rfl⟩ hK hP hD hS hA hZ hN h_pr rfl rfl rfl hl.1 rfl (Nat.le_of_ble_eq_true rfl) dX0_numberPlaces_5 ⟨(show 0 + 0 ≤ 0 by omega), (show 0 + 0 ≤ 0 by omega)⟩) (Nat.le_refl _) (Nat.le_refl _) (fun r H locs hw hP hD hS => ?_)
  obtain rfl := hw
  refine lv_bipush (v := 60) hx hb dX0_numberPlaces_8 (by decide) ?_
  refine va_mmin hx hb (by rw [hml]; exact hl.1.symm) hown (hts _ k_771) (hts _ k_221) (hts _ k_91) (hts _ k_222) (Nat.le_of_ble_eq_true rfl) (Nat.le_of_ble_eq_true rfl) (show 0 ≤ 0 by omega) (show 0 ≤ 0 by omega) dX0_numberPlaces_10 ?_
  refine q_seti (y := nI (pa.length)) (q_minE (a := pa.length) (b := 60) (by omega) (by omega) (by omega)) ?_
  refine o_put (D := D) (ci := 1) (v := .int (nI (pa.length))) (ty := .int) (C := RX0) (T := TX0) (N := 11) (fs1 := [.ref pr, .ref lf, .ref bop, .int (nI (pa.length)), .int (nI bs), .ref cf, .ref nx, .int y7, .int y8, .int y9, .int y10]) hx hb hts inX0 tyX0 tyX0_ok nmX0 hown hK hP hD hS h_bk rfl 3 (by decide) (hts _ k_351) (fun _ h9 => h9) rfl (by decide +kernel) rfl rfl (Nat.le_of_ble_eq_true rfl) rfl dX0_numberPlaces_13 (fun g H locs h_bk hu hP hD hS => ?_)
  have h_pr := h_pr.up hu (by decide)
  have h_bop := h_bop.up hu (by decide)
  have hfr := hfr.up hu (by decide)
  have h_pcs := h_pcs.frd hu.fr (by decide)
  have h_pc := h_pc.frd hu.fr (by decide)
  have h_es := h_es.frd hu.fr (by decide)
  refine lv_aload_n hx hb dX0_numberPlaces_16 rfl (lv_at hl 0 rfl) ?_
  refine lv_iconst (v := 0) hx hb dX0_numberPlaces_17 (by decide) ?_
  refine o_put (D := D) (ci := 1) (v := .int 0) (ty := .int) (C := RX0) (T := TX0) (N := 11) (fs1 := [.ref pr, .ref lf, .ref bop, .int (nI (pa.length)), .int 0, .ref cf, .ref nx, .int y7, .int y8, .int y9, .int y10]) hx hb hts inX0 tyX0 tyX0_ok nmX0 hown hK hP hD hS h_bk rfl 4 (by decide) (hts _ k_352) (fun _ h9 => h9) rfl (by decide +kernel) rfl rfl (Nat.le_of_ble_eq_true rfl) rfl dX0_numberPlaces_18 (fun g H locs h_bk hu hP hD hS => ?_)
  have h_pr := h_pr.up hu (by decide)
  have h_bop := h_bop.up hu (by decide)
  have hfr := hfr.up hu (by decide)
  have h_pcs := h_pcs.frd hu.fr (by decide)
  have h_pc := h_pc.frd hu.fr (by decide)
  have h_es := h_es.frd hu.fr (by decide)
  refine lv_iconst (v := 0) hx hb dX0_numberPlaces_21 (by decide) ?_
  refine lv_istore_n (lv' := [(1, .int 0), (0, .ref bk)]) hx hb dX0_numberPlaces_22 rfl hl (by decide) rfl (fun ls hl => ?_)
  refine nb_loop (L0 := L0) (g0 := g0) hpa60 hpa hQ hU hSb (Nat.le_of_ble_eq_true rfl) (Nat.le_of_ble_eq_true rfl) hA hf hK hZ hN pa.length 0 fb _ _ _ _ _ _ ls (by omega) (fun j hj => absurd hj (Nat.not_lt_zero j)) (Nat.zero_le _) (Nat.zero_le _) h_pr h_pcs h_pc h_es h_bk h_bop hfr hP hD hS (lv_sub hl (l' := [(1, .int 0), (0, .ref bk)]) [0, 1] rfl) (fun f2 L g H locs ls a1 h_pr h_pcs h_pc h_es h_bk h_bop hfr hP hD hS hl => ?_)
  have hSi := hSb pa.length (by omega)
  refine lv_aload_n hx hb dX0_numberPlaces_67 rfl (lv_at hl 0 rfl) ?_
  refine o_get (D := D) (ci := 1) (v := .ref bop) (C := RX0) (T := TX0) (N := 11) hx hb hts inX0 hown hK hP h_bk rfl 2 (by decide) (hts _ k_350) (fun _ h9 => h9) rfl dX0_numberPlaces_68 ?_
  refine lv_aload_n hx hb dX0_numberPlaces_71 rfl (lv_at hl 0 rfl) ?_
  refine o_get (D := D) (ci := 1) (v := .int (nI (pa.length))) (C := RX0) (T := TX0) (N := 11) hx hb hts inX0 hown hK hP h_bk rfl 3 (by decide) (hts _ k_351) (fun _ h9 => h9) rfl dX0_numberPlaces_72 ?_
  refine lv_aload_n hx hb dX0_numberPlaces_75 rfl (lv_at hl 0 rfl) ?_
  refine o_get (D := D) (ci := 1) (v := .int (nI ((qS P pa.length)))) (C := RX0) (T := TX0) (N := 11) hx hb hts inX0 hown hK hP h_bk rfl 4 (by decide) (hts _ k_352) (fun _ h9 => h9) rfl dX0_numberPlaces_76 ?_
  refine o_ist (X := pa.length) (x := (nI ((qS P pa.length)))) hx hb hK hP hD hS h_bop (by omega) (by omega) dX0_numberPlaces_79 (fun g H locs h_bop hu hP hD hS => ?_)
  have h_pr := h_pr.up hu (by decide)
  have h_bk := h_bk.up hu (by decide)
  have hfr := hfr.up hu (by decide)
  have h_pcs := h_pcs.frd hu.fr (by decide)
  have h_pc := h_pc.frd hu.fr (by decide)
  have h_es := h_es.frd hu.fr (by decide)
  exact o_rv hf hr hlocks hK hP hD hS (show 0 ≤ 0 by omega) (show 0 ≤ 0 by omega) ⟨_, fun j hj => by by_cases e9 : j = pa.length; (· rw [e9]; exact pk_us); rw [pk_un e9]; exact a1 j (by omega), hfr, h_bk, h_bop⟩ dX0_numberPlaces_80
set_option maxHeartbeats 1000000 in
set_option maxRecDepth 100000 in
theorem bk_roomA (l : Launch) (D : va_G) (z : Nat → Nat) (cB cI_ cO : ClassId) (L0 : List Nat) (g0 : hG) (pr : Nat) (bk lf bop cf nx bn bs : Nat) (y7 y8 y9 y10 : Int32) (M : Nat) (fc fn : Nat → Int32) (h_bk : ho L0 g0 bk 21 (.inr (1, [.ref pr, .ref lf, .ref bop, .int (nI bn), .int (nI bs), .ref cf, .ref nx, .int y7, .int y8, .int y9, .int y10]))) (h_cf : ho L0 g0 cf 23 (.inl (cI_, M, .inl fc))) (h_nx : ho L0 g0 nx 24 (.inl (cI_, M, .inl fn))) (hM : M ≤ 60000) (hbs : bs < M) : eVs l D yX0_makeRoom cX0_makeRoom 1 none 0 0 0 0 [.ref bk] z cB cI_ cO L0 g0 (True) := by
  refine o_sv (by decide) (Nat.le_of_ble_eq_true rfl) ?_
  intro p e s m below meth c A ls hf hr hlocks hin hK hP hD hS hA hZ hN hl
  obtain ⟨hx, hb, hml, hown, hts⟩ := id hf
  have hl : lv_has ls 1 [(0, .ref bk)] := hl
  refine lv_aload_n hx hb dX0_makeRoom_0 rfl (lv_at hl 0 rfl) ?_
  refine o_get (D := D) (ci := 1) (v := .int (nI bs)) (C := RX0) (T := TX0) (N := 11) hx hb hts inX0 hown hK hP h_bk rfl 4 (by decide) (hts _ k_352) (fun _ h9 => h9) rfl dX0_makeRoom_1 ?_
  refine lv_aload_n hx hb dX0_makeRoom_4 rfl (lv_at hl 0 rfl) ?_
  refine o_get (D := D) (ci := 1) (v := .ref cf) (C := RX0) (T := TX0) (N := 11) hx hb hts inX0 hown hK hP h_bk rfl 5 (by decide) (hts _ k_353) (fun _ h9 => h9) rfl dX0_makeRoom_5 ?_
  refine o_leni hx hb hK hP h_cf dX0_makeRoom_8 ?_
  refine lv_icmp_lt (tgt := 36) hx hb dX0_makeRoom_9 (by decide) (fun c_1 => ?_) (fun c_1 => ?_)
  · have c_1 := q_lt (a := bs) (b := M) (by omega) (by omega) c_1
    exact o_rv hf hr hlocks hK hP hD hS (show 0 ≤ 0 by omega) (show 0 ≤ 0 by omega) ⟨trivial, rfl, rfl⟩ dX0_makeRoom_36
  · have c_1 := q_nlt (a := bs) (b := M) (by omega) (by omega) c_1
    exact False.elim (by omega)
set_option maxHeartbeats 1000000 in
set_option maxRecDepth 100000 in
theorem bk_roomB (l : Launch) (D : va_G) (z : Nat → Nat) (cB cI_ cO : ClassId) (L0 : List Nat) (g0 : hG) (pr : Nat) (bk lf bop cf nx bn bs : Nat) (y7 y8 y9 y10 : Int32) (M : Nat) (fc fn : Nat → Int32) (h_bk : ho L0 g0 bk 21 (.inr (1, [.ref pr, .ref lf, .ref bop, .int (nI bn), .int (nI bs), .ref cf, .ref nx, .int y7, .int y8, .int y9, .int y10]))) (h_cf : ho L0 g0 cf 23 (.inl (cI_, M, .inl fc))) (h_nx : ho L0 g0 nx 24 (.inl (cI_, M, .inl fn))) (hM : M ≤ 60000) (hbs : M ≤ bs) (hb2 : bs ≤ 8000) : eV l D yX0_makeRoom cX0_makeRoom 1 none 0 0 2 (4 * bs) [.ref bk] z cB cI_ cO L0 g0 (fun L g => ∃ c2 n2 : Nat, fr [21, 23, 24] L0 g0 L g ∧ ho L g bk 21 (.inr (1, [.ref pr, .ref lf, .ref bop, .int (nI bn), .int (nI bs), .ref c2, .ref n2, .int y7, .int y8, .int y9, .int y10])) ∧ ho L g c2 23 (.inl (cI_, (2 * bs), .inl (fun _ => 0))) ∧ ho L g n2 24 (.inl (cI_, (2 * bs), .inl (fun _ => 0)))) := by
  refine o_sv (by decide) (Nat.le_of_ble_eq_true rfl) ?_
  intro p e s m below meth c A ls hf hr hlocks hin hK hP hD hS hA hZ hN hl
  obtain ⟨hx, hb, hml, hown, hts⟩ := id hf
  have hl : lv_has ls 1 [(0, .ref bk)] := hl
  have hfr : fr [21, 23, 24] L0 g0 L0 g0 := fr.rf
  refine lv_aload_n hx hb dX0_makeRoom_0 rfl (lv_at hl 0 rfl) ?_
  refine o_get (D := D) (ci := 1) (v := .int (nI bs)) (C := RX0) (T := TX0) (N := 11) hx hb hts inX0 hown hK hP h_bk rfl 4 (by decide) (hts _ k_352) (fun _ h9 => h9) rfl dX0_makeRoom_1 ?_
  refine lv_aload_n hx hb dX0_makeRoom_4 rfl (lv_at hl 0 rfl) ?_
  refine o_get (D := D) (ci := 1) (v := .ref cf) (C := RX0) (T := TX0) (N := 11) hx hb hts inX0 hown hK hP h_bk rfl 5 (by decide) (hts _ k_353) (fun _ h9 => h9) rfl dX0_makeRoom_5 ?_
  refine o_leni hx hb hK hP h_cf dX0_makeRoom_8 ?_
  refine lv_icmp_lt (tgt := 36) hx hb dX0_makeRoom_9 (by decide) (fun c_1 => ?_) (fun c_1 => ?_)
  · have c_1 := q_lt (a := bs) (b := M) (by omega) (by omega) c_1
    exact False.elim (by omega)
  · have c_1 := q_nlt (a := bs) (b := M) (by omega) (by omega) c_1
    refine lv_aload_n hx hb dX0_makeRoom_12 rfl (lv_at hl 0 rfl) ?_
    refine lv_iconst (v := 2) hx hb dX0_makeRoom_13 (by decide) ?_
    refine lv_aload_n hx hb dX0_makeRoom_14 rfl (lv_at hl 0 rfl) ?_
    refine o_get (D := D) (ci := 1) (v := .int (nI bs)) (C := RX0) (T := TX0) (N := 11) hx hb hts inX0 hown hK hP h_bk rfl 4 (by decide) (hts _ k_352) (fun _ h9 => h9) rfl dX0_makeRoom_15 ?_
    refine lv_imul hx hb dX0_makeRoom_18 ?_
    refine q_seti (y := nI (2 * bs)) (nI_mulE (a := 2) (b := bs) (by omega)) ?_
    refine o_newi (n := 2 * bs) hx hb 23 (hts (.arrayClass .int) k_261) hK hP hD hS hA (by omega) (show 0 + 1 ≤ 2 by omega) (show 0 + (2 * bs) ≤ 4 * bs by omega) dX0_makeRoom_19 (fun q_cf2 L g H h_cf2 hnw hP hD hS => ?_)
    have h_bk := h_bk.nw hnw
    have h_cf := h_cf.nw hnw
    have h_nx := h_nx.nw hnw
    have hfr := hfr.nw hnw
    refine o_put (D := D) (ci := 1) (v := .ref q_cf2) (ty := .array .int) (C := RX0) (T := TX0) (N := 11) (fs1 := [.ref pr, .ref lf, .ref bop, .int (nI bn), .int (nI bs), .ref q_cf2, .ref nx, .int y7, .int y8, .int y9, .int y10]) hx hb hts inX0 tyX0 tyX0_ok nmX0 hown hK hP hD hS h_bk rfl 5 (by decide) (hts _ k_353) (fun _ h9 => h9) rfl (by decide +kernel) rfl rfl (Nat.le_of_ble_eq_true rfl) rfl dX0_makeRoom_21 (fun g H locs h_bk hu hP hD hS => ?_)
    have h_cf := h_cf.up hu (by decide)
    have h_nx := h_nx.up hu (by decide)
    have h_cf2 := h_cf2.up hu (by decide)
    have hfr := hfr.up hu (by decide)
    refine lv_aload_n hx hb dX0_makeRoom_24 rfl (lv_at hl 0 rfl) ?_
    refine lv_iconst (v := 2) hx hb dX0_makeRoom_25 (by decide) ?_
    refine lv_aload_n hx hb dX0_makeRoom_26 rfl (lv_at hl 0 rfl) ?_
    refine o_get (D := D) (ci := 1) (v := .int (nI bs)) (C := RX0) (T := TX0) (N := 11) hx hb hts inX0 hown hK hP h_bk rfl 4 (by decide) (hts _ k_352) (fun _ h9 => h9) rfl dX0_makeRoom_27 ?_
    refine lv_imul hx hb dX0_makeRoom_30 ?_
    refine q_seti (y := nI (2 * bs)) (nI_mulE (a := 2) (b := bs) (by omega)) ?_
    refine o_newi (n := 2 * bs) hx hb 24 (hts (.arrayClass .int) k_261) hK hP hD hS hA (by omega) (show 0 + 1 + 1 ≤ 2 by omega) (show 0 + (2 * bs) + (2 * bs) ≤ 4 * bs by omega) dX0_makeRoom_31 (fun q_nx2 L g H h_nx2 hnw hP hD hS => ?_)
    have h_bk := h_bk.nw hnw
    have h_cf := h_cf.nw hnw
    have h_nx := h_nx.nw hnw
    have h_cf2 := h_cf2.nw hnw
    have hfr := hfr.nw hnw
    refine o_put (D := D) (ci := 1) (v := .ref q_nx2) (ty := .array .int) (C := RX0) (T := TX0) (N := 11) (fs1 := [.ref pr, .ref lf, .ref bop, .int (nI bn), .int (nI bs), .ref q_cf2, .ref q_nx2, .int y7, .int y8, .int y9, .int y10]) hx hb hts inX0 tyX0 tyX0_ok nmX0 hown hK hP hD hS h_bk rfl 6 (by decide) (hts _ k_354) (fun _ h9 => h9) rfl (by decide +kernel) rfl rfl (Nat.le_of_ble_eq_true rfl) rfl dX0_makeRoom_33 (fun g H locs h_bk hu hP hD hS => ?_)
    have h_cf := h_cf.up hu (by decide)
    have h_nx := h_nx.up hu (by decide)
    have h_cf2 := h_cf2.up hu (by decide)
    have h_nx2 := h_nx2.up hu (by decide)
    have hfr := hfr.up hu (by decide)
    exact o_rv hf hr hlocks hK hP hD hS (show 0 + 1 + 1 ≤ 2 by omega) (show 0 + (2 * bs) + (2 * bs) ≤ 4 * bs by omega) ⟨q_cf2, q_nx2, hfr, h_bk, h_cf2, h_nx2⟩ dX0_makeRoom_36
