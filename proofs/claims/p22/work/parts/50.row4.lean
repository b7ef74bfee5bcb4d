/-- the pieces of an element go, the last one first -/
def rmv (ea : Nat → Nat) (el : Nat) : Nat → List Q4 → List Q4
  | 0, P => P
  | k + 1, P => rmv ea el k (if ea (P.getD k d4).1 = el then P.eraseIdx k else P)
abbrev cX6_beginOfGroup : ByteArray := prog_8_method_9_code
def yX6_beginOfGroup : MethodName := ⟨RX6, "beginOfGroup", "(I)I"⟩
abbrev cX6_firstPieceOf : ByteArray := prog_8_method_7_code
def yX6_firstPieceOf : MethodName := ⟨RX6, "firstPieceOf", "(LScriptDesk$Element;)I"⟩
abbrev cX6_lastPieceOf : ByteArray := prog_8_method_8_code
def yX6_lastPieceOf : MethodName := ⟨RX6, "lastPieceOf", "(LScriptDesk$Element;)I"⟩
abbrev cX6_removePiecesOf : ByteArray := prog_8_method_6_code
def yX6_removePiecesOf : MethodName := ⟨RX6, "removePiecesOf", "(LScriptDesk$Element;)V"⟩
theorem dX6_removePiecesOf_10 : decode cX6_removePiecesOf 10 = .ok (.iload_n 2, 1) := by decide +kernel
theorem dX6_removePiecesOf_11 : decode cX6_removePiecesOf 11 = .ok (.ifCond .lt 46, 3) := by decide +kernel
theorem dX6_removePiecesOf_14 : decode cX6_removePiecesOf 14 = .ok (.aload_n 0, 1) := by decide +kernel
theorem dX6_removePiecesOf_15 : decode cX6_removePiecesOf 15 = .ok (.getfield 12, 3) := by decide +kernel
theorem dX6_removePiecesOf_18 : decode cX6_removePiecesOf 18 = .ok (.iload_n 2, 1) := by decide +kernel
theorem dX6_removePiecesOf_19 : decode cX6_removePiecesOf 19 = .ok (.invokevirtual 34, 3) := by decide +kernel
theorem dX6_removePiecesOf_22 : decode cX6_removePiecesOf 22 = .ok (.checkcast 21, 3) := by decide +kernel
theorem dX6_removePiecesOf_25 : decode cX6_removePiecesOf 25 = .ok (.getfield 52, 3) := by decide +kernel
theorem dX6_removePiecesOf_28 : decode cX6_removePiecesOf 28 = .ok (.aload_n 1, 1) := by decide +kernel
theorem dX6_removePiecesOf_29 : decode cX6_removePiecesOf 29 = .ok (.if_acmp .ne 22, 3) := by decide +kernel
theorem dX6_removePiecesOf_51 : decode cX6_removePiecesOf 51 = .ok (.iinc 2 (-1), 3) := by decide +kernel
theorem dX6_removePiecesOf_54 : decode cX6_removePiecesOf 54 = .ok (.goto (-44), 3) := by decide +kernel
theorem dX6_removePiecesOf_32 : decode cX6_removePiecesOf 32 = .ok (.aload_n 0, 1) := by decide +kernel
theorem dX6_removePiecesOf_33 : decode cX6_removePiecesOf 33 = .ok (.getfield 18, 3) := by decide +kernel
theorem dX6_removePiecesOf_36 : decode cX6_removePiecesOf 36 = .ok (.aload_n 0, 1) := by decide +kernel
theorem dX6_removePiecesOf_37 : decode cX6_removePiecesOf 37 = .ok (.getfield 12, 3) := by decide +kernel
theorem dX6_removePiecesOf_40 : decode cX6_removePiecesOf 40 = .ok (.iload_n 2, 1) := by decide +kernel
theorem dX6_removePiecesOf_41 : decode cX6_removePiecesOf 41 = .ok (.invokevirtual 49, 3) := by decide +kernel
theorem dX6_removePiecesOf_44 : decode cX6_removePiecesOf 44 = .ok (.checkcast 21, 3) := by decide +kernel
theorem dX6_removePiecesOf_47 : decode cX6_removePiecesOf 47 = .ok (.invokevirtual 38, 3) := by decide +kernel
theorem dX6_removePiecesOf_50 : decode cX6_removePiecesOf 50 = .ok (.pop, 1) := by decide +kernel
theorem dX6_removePiecesOf_0 : decode cX6_removePiecesOf 0 = .ok (.aload_n 0, 1) := by decide +kernel
theorem dX6_removePiecesOf_1 : decode cX6_removePiecesOf 1 = .ok (.getfield 12, 3) := by decide +kernel
theorem dX6_removePiecesOf_4 : decode cX6_removePiecesOf 4 = .ok (.invokevirtual 30, 3) := by decide +kernel
theorem dX6_removePiecesOf_7 : decode cX6_removePiecesOf 7 = .ok (.iconst 1, 1) := by decide +kernel
theorem dX6_removePiecesOf_8 : decode cX6_removePiecesOf 8 = .ok (.isub, 1) := by decide +kernel
theorem dX6_removePiecesOf_9 : decode cX6_removePiecesOf 9 = .ok (.istore_n 2, 1) := by decide +kernel
theorem dX6_removePiecesOf_57 : decode cX6_removePiecesOf 57 = .ok (.return_, 1) := by decide +kernel
theorem dX6_firstPieceOf_2 : decode cX6_firstPieceOf 2 = .ok (.iload_n 2, 1) := by decide +kernel
theorem dX6_firstPieceOf_3 : decode cX6_firstPieceOf 3 = .ok (.aload_n 0, 1) := by decide +kernel
theorem dX6_firstPieceOf_4 : decode cX6_firstPieceOf 4 = .ok (.getfield 12, 3) := by decide +kernel
theorem dX6_firstPieceOf_7 : decode cX6_firstPieceOf 7 = .ok (.invokevirtual 30, 3) := by decide +kernel
theorem dX6_firstPieceOf_10 : decode cX6_firstPieceOf 10 = .ok (.if_icmp .ge 29, 3) := by decide +kernel
theorem dX6_firstPieceOf_13 : decode cX6_firstPieceOf 13 = .ok (.aload_n 0, 1) := by decide +kernel
theorem dX6_firstPieceOf_14 : decode cX6_firstPieceOf 14 = .ok (.getfield 12, 3) := by decide +kernel
theorem dX6_firstPieceOf_17 : decode cX6_firstPieceOf 17 = .ok (.iload_n 2, 1) := by decide +kernel
theorem dX6_firstPieceOf_18 : decode cX6_firstPieceOf 18 = .ok (.invokevirtual 34, 3) := by decide +kernel
theorem dX6_firstPieceOf_21 : decode cX6_firstPieceOf 21 = .ok (.checkcast 21, 3) := by decide +kernel
theorem dX6_firstPieceOf_24 : decode cX6_firstPieceOf 24 = .ok (.getfield 52, 3) := by decide +kernel
theorem dX6_firstPieceOf_27 : decode cX6_firstPieceOf 27 = .ok (.aload_n 1, 1) := by decide +kernel
theorem dX6_firstPieceOf_28 : decode cX6_firstPieceOf 28 = .ok (.if_acmp .ne 5, 3) := by decide +kernel
theorem dX6_firstPieceOf_33 : decode cX6_firstPieceOf 33 = .ok (.iinc 2 1, 3) := by decide +kernel
theorem dX6_firstPieceOf_36 : decode cX6_firstPieceOf 36 = .ok (.goto (-34), 3) := by decide +kernel
theorem dX6_firstPieceOf_0 : decode cX6_firstPieceOf 0 = .ok (.iconst 0, 1) := by decide +kernel
theorem dX6_firstPieceOf_1 : decode cX6_firstPieceOf 1 = .ok (.istore_n 2, 1) := by decide +kernel
theorem dX6_firstPieceOf_31 : decode cX6_firstPieceOf 31 = .ok (.iload_n 2, 1) := by decide +kernel
theorem dX6_firstPieceOf_32 : decode cX6_firstPieceOf 32 = .ok (.ireturn, 1) := by decide +kernel
theorem dX6_firstPieceOf_39 : decode cX6_firstPieceOf 39 = .ok (.iconst (-1), 1) := by decide +kernel
theorem dX6_firstPieceOf_40 : decode cX6_firstPieceOf 40 = .ok (.ireturn, 1) := by decide +kernel
theorem dX6_lastPieceOf_10 : decode cX6_lastPieceOf 10 = .ok (.iload_n 2, 1) := by decide +kernel
theorem dX6_lastPieceOf_11 : decode cX6_lastPieceOf 11 = .ok (.ifCond .lt 29, 3) := by decide +kernel
theorem dX6_lastPieceOf_14 : decode cX6_lastPieceOf 14 = .ok (.aload_n 0, 1) := by decide +kernel
theorem dX6_lastPieceOf_15 : decode cX6_lastPieceOf 15 = .ok (.getfield 12, 3) := by decide +kernel
theorem dX6_lastPieceOf_18 : decode cX6_lastPieceOf 18 = .ok (.iload_n 2, 1) := by decide +kernel
theorem dX6_lastPieceOf_19 : decode cX6_lastPieceOf 19 = .ok (.invokevirtual 34, 3) := by decide +kernel
theorem dX6_lastPieceOf_22 : decode cX6_lastPieceOf 22 = .ok (.checkcast 21, 3) := by decide +kernel
theorem dX6_lastPieceOf_25 : decode cX6_lastPieceOf 25 = .ok (.getfield 52, 3) := by decide +kernel
theorem dX6_lastPieceOf_28 : decode cX6_lastPieceOf 28 = .ok (.aload_n 1, 1) := by decide +kernel
theorem dX6_lastPieceOf_29 : decode cX6_lastPieceOf 29 = .ok (.if_acmp .ne 5, 3) := by decide +kernel
theorem dX6_lastPieceOf_34 : decode cX6_lastPieceOf 34 = .ok (.iinc 2 (-1), 3) := by decide +kernel
theorem dX6_lastPieceOf_37 : decode cX6_lastPieceOf 37 = .ok (.goto (-27), 3) := by decide +kernel
theorem dX6_lastPieceOf_0 : decode cX6_lastPieceOf 0 = .ok (.aload_n 0, 1) := by decide +kernel
theorem dX6_lastPieceOf_1 : decode cX6_lastPieceOf 1 = .ok (.getfield 12, 3) := by decide +kernel
theorem dX6_lastPieceOf_4 : decode cX6_lastPieceOf 4 = .ok (.invokevirtual 30, 3) := by decide +kernel
theorem dX6_lastPieceOf_7 : decode cX6_lastPieceOf 7 = .ok (.iconst 1, 1) := by decide +kernel
theorem dX6_lastPieceOf_8 : decode cX6_lastPieceOf 8 = .ok (.isub, 1) := by decide +kernel
theorem dX6_lastPieceOf_9 : decode cX6_lastPieceOf 9 = .ok (.istore_n 2, 1) := by decide +kernel
theorem dX6_lastPieceOf_32 : decode cX6_lastPieceOf 32 = .ok (.iload_n 2, 1) := by decide +kernel
theorem dX6_lastPieceOf_33 : decode cX6_lastPieceOf 33 = .ok (.ireturn, 1) := by decide +kernel
theorem dX6_lastPieceOf_40 : decode cX6_lastPieceOf 40 = .ok (.iconst (-1), 1) := by decide +kernel
theorem dX6_lastPieceOf_41 : decode cX6_lastPieceOf 41 = .ok (.ireturn, 1) := by decide +kernel
theorem dX6_beginOfGroup_2 : decode cX6_beginOfGroup 2 = .ok (.iload_n 2, 1) := by decide +kernel
theorem dX6_beginOfGroup_3 : decode cX6_beginOfGroup 3 = .ok (.aload_n 0, 1) := by decide +kernel
theorem dX6_beginOfGroup_4 : decode cX6_beginOfGroup 4 = .ok (.getfield 12, 3) := by decide +kernel
theorem dX6_beginOfGroup_7 : decode cX6_beginOfGroup 7 = .ok (.invokevirtual 30, 3) := by decide +kernel
theorem dX6_beginOfGroup_10 : decode cX6_beginOfGroup 10 = .ok (.if_icmp .ge 29, 3) := by decide +kernel
theorem dX6_beginOfGroup_13 : decode cX6_beginOfGroup 13 = .ok (.aload_n 0, 1) := by decide +kernel
theorem dX6_beginOfGroup_14 : decode cX6_beginOfGroup 14 = .ok (.getfield 12, 3) := by decide +kernel
theorem dX6_beginOfGroup_17 : decode cX6_beginOfGroup 17 = .ok (.iload_n 2, 1) := by decide +kernel
theorem dX6_beginOfGroup_18 : decode cX6_beginOfGroup 18 = .ok (.invokevirtual 34, 3) := by decide +kernel
theorem dX6_beginOfGroup_21 : decode cX6_beginOfGroup 21 = .ok (.checkcast 21, 3) := by decide +kernel
theorem dX6_beginOfGroup_24 : decode cX6_beginOfGroup 24 = .ok (.getfield 63, 3) := by decide +kernel
theorem dX6_beginOfGroup_27 : decode cX6_beginOfGroup 27 = .ok (.iload_n 1, 1) := by decide +kernel
theorem dX6_beginOfGroup_28 : decode cX6_beginOfGroup 28 = .ok (.if_icmp .lt 5, 3) := by decide +kernel
theorem dX6_beginOfGroup_33 : decode cX6_beginOfGroup 33 = .ok (.iinc 2 1, 3) := by decide +kernel
theorem dX6_beginOfGroup_36 : decode cX6_beginOfGroup 36 = .ok (.goto (-34), 3) := by decide +kernel
theorem dX6_beginOfGroup_0 : decode cX6_beginOfGroup 0 = .ok (.iconst 0, 1) := by decide +kernel
theorem dX6_beginOfGroup_1 : decode cX6_beginOfGroup 1 = .ok (.istore_n 2, 1) := by decide +kernel
theorem dX6_beginOfGroup_31 : decode cX6_beginOfGroup 31 = .ok (.iload_n 2, 1) := by decide +kernel
theorem dX6_beginOfGroup_32 : decode cX6_beginOfGroup 32 = .ok (.ireturn, 1) := by decide +kernel
theorem dX6_beginOfGroup_39 : decode cX6_beginOfGroup 39 = .ok (.aload_n 0, 1) := by decide +kernel
theorem dX6_beginOfGroup_40 : decode cX6_beginOfGroup 40 = .ok (.getfield 12, 3) := by decide +kernel
theorem dX6_beginOfGroup_43 : decode cX6_beginOfGroup 43 = .ok (.invokevirtual 30, 3) := by decide +kernel
theorem dX6_beginOfGroup_46 : decode cX6_beginOfGroup 46 = .ok (.ireturn, 1) := by decide +kernel
set_option maxHeartbeats 1000000 in
set_option maxRecDepth 100000 in
theorem pr_loop {p : Program} {l : Launch} {e : Env} {R : Room} {s : State} {m : MethodId} {args : Array Value} {below : List Frame} {meth : Method} {c : Code} {Q : State → Prop} {D : va_G} {A : Nat → Prop} {z : Nat → Nat} {cB cI_ cO : ClassId} {L0 : List Nat} {g0 : hG} {pr pcs spr nwh cp B cE sE el : Nat} {ea : Nat → Nat} (hB : 10 ≤ B) (hB2 : B ≤ 60000) (hcE : cE ≤ R.cells) (hsE : sE ≤ R.slots) (hRf : 8 ≤ R.frames) (hRl : 220 ≤ R.locals) (hA : ∀ q : Nat, s.heap.size ≤ q → A q) (hf : CallFix p m c cX6_removePiecesOf 3 s args gT yX6_removePiecesOf.cls) (hK : va_K D vcl (dT cB cI_ cO) s) (hZ : zA z A s s.heap) (hN : zB z s) :
    ∀ (k : Nat) (x : Int32) (cs : Nat) (sa : List Nat) (pa : List Nat) (P : List Q4) (cells slots : Nat) (L : List Nat) (g : hG) (H : Heap) (locs : List Loc) (ls : Array Slot), k ≤ pa.length → x = nI k - 1 → (pa ++ sa).Nodup → 3 * (pa.length + sa.length) ≤ 2 * B → cs ≤ B → pa.length ≤ 20000 → cells + (B - cs) / 5 ≤ cE → slots + 4 * (B - cs) ≤ sE → ho L g pr 13 (.inr (7, [.ref pcs, .ref spr, .ref nwh])) → alR cO (z 0) 14 15 L g pcs cp pa → alR cO (z 0) 16 17 L g spr cs sa → pcR L g ea pa P → spR L g sa → fr [14, 15, 16, 17] L0 g0 L g → va_P D vcl (dW L g) H → va_D A (dW L g) → va_S A s.heap H locs → lv_has ls 3 [(2, .int x), (1, .ref el), (0, .ref pr)] →
    (∀ (p2 : List Nat) (P2 : List Q4) (s2 : List Nat) (c2 : Nat)  (L : List Nat) (g : hG) (H : Heap) (locs : List Loc) (ls : Array Slot), P2 = rmv ea el k P → (p2 ++ s2).Nodup → p2.length + s2.length = pa.length + sa.length → c2 ≤ B → ho L g pr 13 (.inr (7, [.ref pcs, .ref spr, .ref nwh])) → alR cO (z 0) 14 15 L g pcs cp p2 → alR cO (z 0) 16 17 L g spr c2 s2 → pcR L g ea p2 P2 → spR L g s2 → fr [14, 15, 16, 17] L0 g0 L g → va_P D vcl (dW L g) H → va_D A (dW L g) → va_S A s.heap H locs → lv_has ls 3 [(0, .ref pr)] → W p l e R s m args below meth c H locs cE sE Q (F0 m 57 ls [])) →
    W p l e R s m args below meth c H locs cells slots Q (F0 m 10 ls []) := by
  obtain ⟨hx, hb, hml, hown, hts⟩ := id hf
  intro k
  induction k with
  | zero =>
    intro x cs sa pa P cells slots L g H locs ls hk hx_ hnd hBs hcs hpa hRc hRs h_pr h_pcs h_spr h_pc h_sp hfr hP hD hS hl kk
    obtain rfl : x = (-1) := hx_.trans (by decide)
    refine lv_iload_n hx hb dX6_removePiecesOf_10 rfl (lv_at hl 0 rfl) ?_
    refine lv_if_lt (tgt := 57) hx hb dX6_removePiecesOf_11 (by decide) (fun _ => ?_) (fun hno => absurd hno (by decide))
    refine W.widen (k := cE) (n := sE) (by omega) (by omega) ?_
    exact kk pa P sa cs _ _ H locs ls rfl hnd rfl (by omega) h_pr h_pcs h_spr h_pc h_sp hfr hP hD hS (lv_sub hl (l' := [(0, .ref pr)]) [2] rfl)
  | succ k ih =>
    intro x cs sa pa P cells slots L g H locs ls hk hx_ hnd hBs hcs hpa hRc hRs h_pr h_pcs h_spr h_pc h_sp hfr hP hD hS hl kk
    obtain rfl : x = nI k := hx_.trans (nI_pred k)
    refine lv_iload_n hx hb dX6_removePiecesOf_10 rfl (lv_at hl 0 rfl) ?_
    refine lv_if_lt (tgt := 57) hx hb dX6_removePiecesOf_11 (by decide) (fun c_1 => ?_) (fun c_1 => ?_)
    · have c_1 := q_lt (a := k) (b := 0) (by omega) (by omega) c_1
      exact False.elim (by omega)
    · have c_1 := q_nlt (a := k) (b := 0) (by omega) (by omega) c_1
      have hab := h_spr.b
      have hnb := ncap_b hab.1 hab.2.2
      have hpl := h_pc.1
      refine lv_aload_n hx hb dX6_removePiecesOf_14 rfl (lv_at hl 2 rfl) ?_
      refine o_get (D := D) (ci := 7) (v := .ref pcs) (C := RX6) (T := TX6) (N := 3) hx hb hts inX6 hown hK hP h_pr rfl 0 (by decide) (hts _ k_304) (fun _ h9 => h9) rfl dX6_removePiecesOf_15 ?_
      refine lv_iload_n hx hb dX6_removePiecesOf_18 rfl (lv_at hl 0 rfl) ?_
      obtain ⟨mc9, d9, h_al9⟩ := h_pcs.al
      refine o_crs (k := cells) (n := slots) hK hP hD hS hA (o_rV (As := [.int (nI k)]) (rest := []) hf (li_get _ _ _ _ _ _ _ _ pcs 14 15 cp pa k h_pcs (by omega) _) k_675 k_672 k_673 k_674 k_89 (nA := 1) (by decide +kernel) ⟨Nat.le_trans (by decide) hRf, Nat.le_trans (by decide) hRl⟩ hK hP hD hS hA hZ hN h_al9 rfl rfl rfl hl.1 rfl (Nat.le_of_ble_eq_true rfl) dX6_removePiecesOf_19 ⟨(show cells + 0 ≤ R.cells by omega), (show slots + 0 ≤ R.slots by omega)⟩) (Nat.le_refl _) (Nat.le_refl _) (fun r H locs hw hP hD hS => ?_)
      obtain rfl := hw
      have h_p0 := h_pc.2 k (by omega)
      refine o_cast hx hb hown (hts _ k_270) hK hP h_p0 rfl rfl dX6_removePiecesOf_22 ?_
      refine o_get (D := D) (ci := 6) (v := .ref (ea (P.getD k d4).1)) (C := RX5) (T := TX5) (N := 4) hx hb hts inX5 hown hK hP h_p0 rfl 0 (by decide) (hts _ k_279) (fun _ h9 => h9) rfl dX6_removePiecesOf_25 ?_
      refine lv_aload_n hx hb dX6_removePiecesOf_28 rfl (lv_at hl 1 rfl) ?_
      refine lv_acmp_ne (rx := (some (ea (P.getD k d4).1))) (ry := (some el)) (tgt := 51) hx hb dX6_removePiecesOf_29 (by decide) (fun c_2 => ?_) (fun c_2 => ?_)
      · refine lv_iinc (v := ((nI k) + (-1))) (lv' := [(2, .int ((nI k) + (-1))), (1, .ref el), (0, .ref pr)]) hx hb dX6_removePiecesOf_51 hl (k := 0) rfl rfl (by decide) rfl (fun ls hl => ?_)
        refine lv_goto (tgt := 10) hx hb dX6_removePiecesOf_54 (by decide) ?_
        exact ih _ cs sa pa P cells slots _ _ H locs ls (by omega) (q_dec _) hnd (by omega) (by omega) (by omega) hRc hRs h_pr h_pcs h_spr h_pc h_sp hfr hP hD hS (lv_sub hl (l' := [(2, .int ((nI k) + (-1))), (1, .ref el), (0, .ref pr)]) [0, 1, 2] rfl) (fun p2 P2 s2 c2 L g H locs ls a1 => kk p2 P2 s2 c2 L g H locs ls (a1.trans (by show _ = rmv ea el k (if _ then _ else _); rw [if_neg (fun z9 => c_2 (congrArg some z9))])))
      · refine lv_aload_n hx hb dX6_removePiecesOf_32 rfl (lv_at hl 2 rfl) ?_
        refine o_get (D := D) (ci := 7) (v := .ref spr) (C := RX6) (T := TX6) (N := 3) hx hb hts inX6 hown hK hP h_pr rfl 1 (by decide) (hts _ k_305) (fun _ h9 => h9) rfl dX6_removePiecesOf_33 ?_
        refine lv_aload_n hx hb dX6_removePiecesOf_36 rfl (lv_at hl 2 rfl) ?_
        refine o_get (D := D) (ci := 7) (v := .ref pcs) (C := RX6) (T := TX6) (N := 3) hx hb hts inX6 hown hK hP h_pr rfl 0 (by decide) (hts _ k_304) (fun _ h9 => h9) rfl dX6_removePiecesOf_37 ?_
        refine lv_iload_n hx hb dX6_removePiecesOf_40 rfl (lv_at hl 0 rfl) ?_
        obtain ⟨mc9, d9, h_al9⟩ := h_pcs.al
        refine o_cr (k := cells) (n := slots) hK hP hD hS hA (o_rV (As := [.int (nI k)]) (rest := [.ref spr]) hf (li_rm _ _ _ _ _ _ _ _ pcs 14 15 cp pa 18 6 rxP k h_pcs (by decide) (by decide) (by decide) rfl hcaP h_pc.ob (by omega) _) k_707 k_704 k_705 k_706 k_89 (nA := 1) (by decide +kernel) ⟨Nat.le_trans (by decide) hRf, Nat.le_trans (by decide) hRl⟩ hK hP hD hS hA hZ hN h_al9 rfl rfl rfl hl.1 rfl (Nat.le_of_ble_eq_true rfl) dX6_removePiecesOf_41 ⟨(show cells + 0 ≤ R.cells by omega), (show slots + 0 ≤ R.slots by omega)⟩) (Nat.le_refl _) (Nat.le_refl _) (fun r L g H locs hw hP hD hS => ?_)
        obtain ⟨rfl, hf9, h_pcs⟩ := hw
        have h_pr := h_pr.fr hf9 (by decide)
        have h_p0 := h_p0.fr hf9 (by decide)
        have hfr := hfr.tm hf9 (by decide)
        have h_spr := h_spr.frd hf9 (by decide)
        have h_pc := h_pc.frd hf9 (by decide)
        have h_sp := h_sp.frd hf9 (by decide)
        have h_pc1 := h_pc
        have h_pc := pcR_rm h_pc (show k < pa.length by omega)
        refine o_cast hx hb hown (hts _ k_270) hK hP h_p0 rfl rfl dX6_removePiecesOf_44 ?_
        obtain ⟨mc9, d9, h_al9⟩ := h_spr.al
        refine o_ci (k := cells + (gcel sa.length cs)) (n := slots + (gslo sa.length cs)) hK hP hD hS hA (o_rV (As := [.ref (pa.getD k 0)]) (rest := []) hf (li_add _ _ _ _ _ _ _ _ spr 16 17 cs sa 18 (pa.getD k 0) 6 rxP [.ref (ea (P.getD k d4).1), .int (nI ((P.getD k d4).2.1)), .int (nI ((P.getD k d4).2.2.1)), .int (nI ((P.getD k d4).2.2.2))] h_spr h_p0 (by decide) (by decide) (by decide) rfl hcaP h_sp.ob (by omega) _) k_611 k_684 k_609 k_610 k_89 (nA := 1) (by decide +kernel) ⟨Nat.le_trans (by decide) hRf, Nat.le_trans (by decide) hRl⟩ hK hP hD hS hA hZ hN h_al9 rfl rfl rfl hl.1 rfl (Nat.le_of_ble_eq_true rfl) dX6_removePiecesOf_47 ⟨(show cells + (gcel sa.length cs) ≤ R.cells by omega), (show slots + (gslo sa.length cs) ≤ R.slots by omega)⟩) (by omega) (by omega) (fun r L g H locs hw hP hD hS => ?_)
        obtain ⟨rfl, hf9, h_spr⟩ := hw
        have h_pr := h_pr.fr hf9 (by decide)
        have h_p0 := h_p0.fr hf9 (by decide)
        have hfr := hfr.tm hf9 (by decide)
        have h_pc := h_pc.frd hf9 (by decide)
        have h_sp := h_sp.frd hf9 (by decide)
        have h_pcs := h_pcs.frd hf9 (by decide)
        have h_sp := spR_add h_sp ⟨_, _, _, _, h_p0⟩
        refine lv_pop hx hb dX6_removePiecesOf_50 rfl ?_
        refine lv_iinc (v := ((nI k) + (-1))) (lv' := [(2, .int ((nI k) + (-1))), (1, .ref el), (0, .ref pr)]) hx hb dX6_removePiecesOf_51 hl (k := 0) rfl rfl (by decide) rfl (fun ls hl => ?_)
        refine lv_goto (tgt := 10) hx hb dX6_removePiecesOf_54 (by decide) ?_
        refine W.widen (k := cells + (ncap sa.length cs - cs) / 5) (n := slots + 4 * (ncap sa.length cs - cs)) (by omega) (by omega) ?_
        have hel := (ls_er (show k < pa.length by omega) 0).1
        have hsl : (sa ++ [pa.getD k 0]).length = sa.length + 1 := by rw [List.length_append]; rfl
        exact ih _ (ncap sa.length cs) (sa ++ [pa.getD k 0]) (pa.eraseIdx k) (P.eraseIdx k) _ _ _ _ H locs ls (by omega) (q_dec _) (nodup_sw hnd (by omega)) (by omega) (by omega) (by omega) (by omega) (by omega) h_pr h_pcs h_spr h_pc h_sp hfr hP hD hS (lv_sub hl (l' := [(2, .int ((nI k) + (-1))), (1, .ref el), (0, .ref pr)]) [0, 1, 2] rfl) (fun p2 P2 s2 c2 L g H locs ls a1 a2 a3 => kk p2 P2 s2 c2 L g H locs ls (a1.trans (by show _ = rmv ea el k (if _ then _ else _); rw [if_pos (Option.some.inj c_2)])) a2 (a3.trans (by omega)))
set_option maxHeartbeats 1000000 in
set_option maxRecDepth 100000 in
theorem p_remove (l : Launch) (D : va_G) (z : Nat → Nat) (cB cI_ cO : ClassId) (L0 : List Nat) (g0 : hG) (pr pcs spr nwh cp cs : Nat) (pa sa : List Nat) (ea : Nat → Nat) (P : List Q4) (el B : Nat) (h_pr : ho L0 g0 pr 13 (.inr (7, [.ref pcs, .ref spr, .ref nwh]))) (h_pcs : alR cO (z 0) 14 15 L0 g0 pcs cp pa) (h_spr : alR cO (z 0) 16 17 L0 g0 spr cs sa) (h_pc : pcR L0 g0 ea pa P) (h_sp : spR L0 g0 sa) (hpa : pa.length ≤ 20000) (hB : 10 ≤ B) (hB2 : B ≤ 60000) (hcs : cs ≤ B) (hBs : 3 * (pa.length + sa.length) ≤ 2 * B) (hnd : (pa ++ sa).Nodup) : eV l D yX6_removePiecesOf cX6_removePiecesOf 3 none 8 220 (B / 5) (4 * B) [.ref pr, .ref el] z cB cI_ cO L0 g0 (fun L g => ∃ (p2 : List Nat) (P2 : List Q4) (s2 : List Nat) (c2 : Nat), P2 = rmv ea el pa.length P ∧ (p2 ++ s2).Nodup ∧ p2.length + s2.length = pa.length + sa.length ∧ c2 ≤ B ∧ fr [14, 15, 16, 17] L0 g0 L g ∧ alR cO (z 0) 14 15 L g pcs cp p2 ∧ alR cO (z 0) 16 17 L g spr c2 s2 ∧ pcR L g ea p2 P2 ∧ spR L g s2) := by
  refine o_sv (by decide) (Nat.le_of_ble_eq_true rfl) ?_
  intro p e s m below meth c A ls hf hr hlocks hin hK hP hD hS hA hZ hN hl
  obtain ⟨hx, hb, hml, hown, hts⟩ := id hf
  have hl : lv_has ls 3 [(0, .ref pr), (1, .ref el)] := hl
  have hfr : fr [14, 15, 16, 17] L0 g0 L0 g0 := fr.rf
  refine lv_aload_n hx hb dX6_removePiecesOf_0 rfl (lv_at hl 0 rfl) ?_
  refine o_get (D := D) (ci := 7) (v := .ref pcs) (C := RX6) (T := TX6) (N := 3) hx hb hts inX6 hown hK hP h_pr rfl 0 (by decide) (hts _ k_304) (fun _ h9 => h9) rfl dX6_removePiecesOf_1 ?_
  obtain ⟨mc9, d9, h_al9⟩ := h_pcs.al
  refine o_cis (k := 0) (n := 0) hK hP hD hS hA (o_rV (As := []) (rest := []) hf (li_size _ _ _ _ _ _ _ _ pcs 14 15 cp pa h_pcs _) k_606 k_671 k_604 k_605 k_89 (nA := 0) (by decide +kernel) ⟨Nat.le_of_ble_eq_true rfl, Nat.le_of_ble_eq_true rfl⟩ hK hP hD hS hA hZ hN h_al9 rfl rfl rfl hl.1 rfl (Nat.le_of_ble_eq_true rfl) dX6_removePiecesOf_4 ⟨(show 0 + 0 ≤ B / 5 by omega), (show 0 + 0 ≤ 4 * B by omega)⟩) (Nat.le_refl _) (Nat.le_refl _) (fun r H locs hw hP hD hS => ?_)
  obtain rfl := hw
  refine lv_iconst (v := 1) hx hb dX6_removePiecesOf_7 (by decide) ?_
  refine lv_isub hx hb dX6_removePiecesOf_8 ?_
  refine lv_istore_n (lv' := [(2, .int ((nI (pa.length)) - 1)), (0, .ref pr), (1, .ref el)]) hx hb dX6_removePiecesOf_9 rfl hl (by decide) rfl (fun ls hl => ?_)
  refine pr_loop (L0 := L0) (g0 := g0) (B := B) (cE := B / 5) (sE := 4 * B) hB hB2 (Nat.le_refl _) (Nat.le_refl _) (Nat.le_of_ble_eq_true rfl) (Nat.le_of_ble_eq_true rfl) hA hf hK hZ hN pa.length _ cs sa pa P 0 0 _ _ _ _ ls (Nat.le_refl _) rfl hnd hBs hcs hpa (by omega) (by omega) h_pr h_pcs h_spr h_pc h_sp hfr hP hD hS (lv_sub hl (l' := [(2, .int ((nI (pa.length)) - 1)), (1, .ref el), (0, .ref pr)]) [0, 2, 1] rfl) (fun p2 P2 s2 c2 L g H locs ls a1 a2 a3 a4 h_pr h_pcs h_spr h_pc h_sp hfr hP hD hS hl => ?_)
  exact o_rv hf hr hlocks hK hP hD hS (show B / 5 ≤ B / 5 by omega) (show 4 * B ≤ 4 * B by omega) ⟨p2, P2, s2, c2, a1, a2, a3, a4, hfr, h_pcs, h_spr, h_pc, h_sp⟩ dX6_removePiecesOf_57
set_option maxHeartbeats 1000000 in
set_option maxRecDepth 100000 in
theorem pf_loop {p : Program} {l : Launch} {e : Env} {R : Room} {s : State} {m : MethodId} {args : Array Value} {below : List Frame} {meth : Method} {c : Code} {Q : State → Prop} {D : va_G} {A : Nat → Prop} {z : Nat → Nat} {cB cI_ cO : ClassId} {L0 : List Nat} {g0 : hG} {cells slots : Nat} {pr pcs spr nwh cp : Nat} {pa : List Nat} {ea : Nat → Nat} {P : List Q4} {el : Nat} (h_pr : ho L0 g0 pr 13 (.inr (7, [.ref pcs, .ref spr, .ref nwh]))) (h_pcs : alR cO (z 0) 14 15 L0 g0 pcs cp pa) (h_pc : pcR L0 g0 ea pa P) (hpa : pa.length ≤ 20000) (hRf : 8 ≤ R.frames) (hRl : 160 ≤ R.locals) (hRc : cells ≤ R.cells) (hRs : slots ≤ R.slots) (hA : ∀ q : Nat, s.heap.size ≤ q → A q) (hf : CallFix p m c cX6_firstPieceOf 3 s args gT yX6_firstPieceOf.cls) (hK : va_K D vcl (dT cB cI_ cO) s) (hZ : zA z A s s.heap) (hN : zB z s) :
    ∀ (k : Nat) (i : Nat) (H : Heap) (locs : List Loc) (ls : Array Slot), i + k = pa.length → (∀ t, t < i → ¬ ea (P.getD t d4).1 = el) → va_P D vcl (dW L0 g0) H → va_D A (dW L0 g0) → va_S A s.heap H locs → lv_has ls 3 [(2, .int (nI i)), (1, .ref el), (0, .ref pr)] →
    (∀ (j : Nat) (H : Heap) (locs : List Loc) (ls : Array Slot), j < pa.length → ea (P.getD j d4).1 = el → (∀ t, t < j → ¬ ea (P.getD t d4).1 = el) → va_P D vcl (dW L0 g0) H → va_D A (dW L0 g0) → va_S A s.heap H locs → lv_has ls 3 [(2, .int (nI j)), (0, .ref pr)] → W p l e R s m args below meth c H locs cells slots Q (F0 m 31 ls [])) →
    (∀  (H : Heap) (locs : List Loc) (ls : Array Slot), (∀ t, t < pa.length → ¬ ea (P.getD t d4).1 = el) → va_P D vcl (dW L0 g0) H → va_D A (dW L0 g0) → va_S A s.heap H locs → lv_has ls 3 [(0, .ref pr)] → W p l e R s m args below meth c H locs cells slots Q (F0 m 39 ls [])) →
    W p l e R s m args below meth c H locs cells slots Q (F0 m 2 ls []) := by
  obtain ⟨hx, hb, hml, hown, hts⟩ := id hf
  intro k
  induction k with
  | zero =>
    intro i H locs ls hik hne hP hD hS hl kk1 kk0
    refine lv_iload_n hx hb dX6_firstPieceOf_2 rfl (lv_at hl 0 rfl) ?_
    refine lv_aload_n hx hb dX6_firstPieceOf_3 rfl (lv_at hl 2 rfl) ?_
    refine o_get (D := D) (ci := 7) (v := .ref pcs) (C := RX6) (T := TX6) (N := 3) hx hb hts inX6 hown hK hP h_pr rfl 0 (by decide) (hts _ k_304) (fun _ h9 => h9) rfl dX6_firstPieceOf_4 ?_
    obtain ⟨mc9, d9, h_al9⟩ := h_pcs.al
    refine o_cis (k := cells) (n := slots) hK hP hD hS hA (o_rV (As := []) (rest := [.int (nI i)]) hf (li_size _ _ _ _ _ _ _ _ pcs 14 15 cp pa h_pcs _) k_606 k_671 k_604 k_605 k_89 (nA := 0) (by decide +kernel) ⟨Nat.le_trans (by decide) hRf, Nat.le_trans (by decide) hRl⟩ hK hP hD hS hA hZ hN h_al9 rfl rfl rfl hl.1 rfl (Nat.le_of_ble_eq_true rfl) dX6_firstPieceOf_7 ⟨(show cells + 0 ≤ R.cells by omega), (show slots + 0 ≤ R.slots by omega)⟩) (Nat.le_refl _) (Nat.le_refl _) (fun r H locs hw hP hD hS => ?_)
    obtain rfl := hw
    refine lv_icmp_ge (tgt := 39) hx hb dX6_firstPieceOf_10 (by decide) (fun c_1 => ?_) (fun c_1 => ?_)
    · have c_1 := q_le (a := pa.length) (b := i) (by omega) (by omega) c_1
      exact kk0 H locs ls (fun t ht => hne t (by omega)) hP hD hS (lv_sub hl (l' := [(0, .ref pr)]) [2] rfl)
    · have c_1 := q_nle (a := pa.length) (b := i) (by omega) (by omega) c_1
      exact False.elim (by omega)
  | succ k ih =>
    intro i H locs ls hik hne hP hD hS hl kk1 kk0
    refine lv_iload_n hx hb dX6_firstPieceOf_2 rfl (lv_at hl 0 rfl) ?_
    refine lv_aload_n hx hb dX6_firstPieceOf_3 rfl (lv_at hl 2 rfl) ?_
    refine o_get (D := D) (ci := 7) (v := .ref pcs) (C := RX6) (T := TX6) (N := 3) hx hb hts inX6 hown hK hP h_pr rfl 0 (by decide) (hts _ k_304) (fun _ h9 => h9) rfl dX6_firstPieceOf_4 ?_
    obtain ⟨mc9, d9, h_al9⟩ := h_pcs.al
    refine o_cis (k := cells) (n := slots) hK hP hD hS hA (o_rV (As := []) (rest := [.int (nI i)]) hf (li_size _ _ _ _ _ _ _ _ pcs 14 15 cp pa h_pcs _) k_606 k_671 k_604 k_605 k_89 (nA := 0) (by decide +kernel) ⟨Nat.le_trans (by decide) hRf, Nat.le_trans (by decide) hRl⟩ hK hP hD hS hA hZ hN h_al9 rfl rfl rfl hl.1 rfl (Nat.le_of_ble_eq_true rfl) dX6_firstPieceOf_7 ⟨(show cells + 0 ≤ R.cells by omega), (show slots + 0 ≤ R.slots by omega)⟩) (Nat.le_refl _) (Nat.le_refl _) (fun r H locs hw hP hD hS => ?_)
    obtain rfl := hw
    refine lv_icmp_ge (tgt := 39) hx hb dX6_firstPieceOf_10 (by decide) (fun c_1 => ?_) (fun c_1 => ?_)
    · have c_1 := q_le (a := pa.length) (b := i) (by omega) (by omega) c_1
      exact False.elim (by omega)
    · have c_1 := q_nle (a := pa.length) (b := i) (by omega) (by omega) c_1
      refine lv_aload_n hx hb dX6_firstPieceOf_13 rfl (lv_at hl 2 rfl) ?_
      refine o_get (D := D) (ci := 7) (v := .ref pcs) (C := RX6) (T := TX6) (N := 3) hx hb hts inX6 hown hK hP h_pr rfl 0 (by decide) (hts _ k_304) (fun _ h9 => h9) rfl dX6_firstPieceOf_14 ?_
      refine lv_iload_n hx hb dX6_firstPieceOf_17 rfl (lv_at hl 0 rfl) ?_
      obtain ⟨mc9, d9, h_al9⟩ := h_pcs.al
      refine o_crs (k := cells) (n := slots) hK hP hD hS hA (o_rV (As := [.int (nI i)]) (rest := []) hf (li_get _ _ _ _ _ _ _ _ pcs 14 15 cp pa i h_pcs (by omega) _) k_675 k_672 k_673 k_674 k_89 (nA := 1) (by decide +kernel) ⟨Nat.le_trans (by decide) hRf, Nat.le_trans (by decide) hRl⟩ hK hP hD hS hA hZ hN h_al9 rfl rfl rfl hl.1 rfl (Nat.le_of_ble_eq_true rfl) dX6_firstPieceOf_18 ⟨(show cells + 0 ≤ R.cells by omega), (show slots + 0 ≤ R.slots by omega)⟩) (Nat.le_refl _) (Nat.le_refl _) (fun r H locs hw hP hD hS => ?_)
      obtain rfl := hw
      have h_p0 := h_pc.2 i (by omega)
      refine o_cast hx hb hown (hts _ k_270) hK hP h_p0 rfl rfl dX6_firstPieceOf_21 ?_
      refine o_get (D := D) (ci := 6) (v := .ref (ea (P.getD i d4).1)) (C := RX5) (T := TX5) (N := 4) hx hb hts inX5 hown hK hP h_p0 rfl 0 (by decide) (hts _ k_279) (fun _ h9 => h9) rfl dX6_firstPieceOf_24 ?_
      refine lv_aload_n hx hb dX6_firstPieceOf_27 rfl (lv_at hl 1 rfl) ?_
      refine lv_acmp_ne (rx := (some (ea (P.getD i d4).1))) (ry := (some el)) (tgt := 33) hx hb dX6_firstPieceOf_28 (by decide) (fun c_2 => ?_) (fun c_2 => ?_)
      · refine lv_iinc (v := nI (i + 1)) (lv' := [(2, .int (nI (i + 1))), (1, .ref el), (0, .ref pr)]) hx hb dX6_firstPieceOf_33 hl (k := 0) rfl (nI_addE (a := i) (b := 1) (by omega)) (by decide) rfl (fun ls hl => ?_)
        refine lv_goto (tgt := 2) hx hb dX6_firstPieceOf_36 (by decide) ?_
        exact ih (i + 1) H locs ls (by omega) (fun t h1 => by by_cases e9 : t = i; (· rw [e9]; exact fun z9 => c_2 (congrArg some z9)); exact hne t (by omega)) hP hD hS (lv_sub hl (l' := [(2, .int (nI (i + 1))), (1, .ref el), (0, .ref pr)]) [0, 1, 2] rfl) kk1 kk0
      · exact kk1 i H locs ls (by omega) (Option.some.inj c_2) hne hP hD hS (lv_sub hl (l' := [(2, .int (nI i)), (0, .ref pr)]) [0, 2] rfl)
set_option maxHeartbeats 1000000 in
set_option maxRecDepth 100000 in
theorem p_first (l : Launch) (D : va_G) (z : Nat → Nat) (cB cI_ cO : ClassId) (L0 : List Nat) (g0 : hG) (pr pcs spr nwh cp : Nat) (pa : List Nat) (ea : Nat → Nat) (P : List Q4) (el : Nat) (h_pr : ho L0 g0 pr 13 (.inr (7, [.ref pcs, .ref spr, .ref nwh]))) (h_pcs : alR cO (z 0) 14 15 L0 g0 pcs cp pa) (h_pc : pcR L0 g0 ea pa P) (hpa : pa.length ≤ 20000) : eIs l D yX6_firstPieceOf cX6_firstPieceOf 3 (some .int) 8 160 0 0 [.ref pr, .ref el] z cB cI_ cO L0 g0 (fun r => ((∃ j : Nat, j < pa.length ∧ ea (P.getD j d4).1 = el ∧ (∀ t, t < j → ¬ ea (P.getD t d4).1 = el) ∧ r = nI j) ∨ ((∀ t, t < pa.length → ¬ ea (P.getD t d4).1 = el) ∧ r = -1))) := by
  refine o_si (by decide) (Nat.le_of_ble_eq_true rfl) ?_
  intro p e s m below meth c A ls hf hr hlocks hin hK hP hD hS hA hZ hN hl
  obtain ⟨hx, hb, hml, hown, hts⟩ := id hf
  have hl : lv_has ls 3 [(0, .ref pr), (1, .ref el)] := hl
  refine lv_iconst (v := 0) hx hb dX6_firstPieceOf_0 (by decide) ?_
  refine lv_istore_n (lv' := [(2, .int 0), (0, .ref pr), (1, .ref el)]) hx hb dX6_firstPieceOf_1 rfl hl (by decide) rfl (fun ls hl => ?_)
  refine pf_loop  h_pr h_pcs h_pc hpa (Nat.le_of_ble_eq_true rfl) (Nat.le_of_ble_eq_true rfl) (show 0 ≤ 0 by omega) (show 0 ≤ 0 by omega) hA hf hK hZ hN pa.length 0 _ _ ls (by omega) (fun t ht => absurd ht (Nat.not_lt_zero t)) hP hD hS (lv_sub hl (l' := [(2, .int 0), (1, .ref el), (0, .ref pr)]) [0, 2, 1] rfl) ?_ ?_
  · intro j H locs ls b1 b2 b3 hP hD hS hl
    refine lv_iload_n hx hb dX6_firstPieceOf_31 rfl (lv_at hl 0 rfl) ?_
    exact o_ri hf hr rfl hlocks hK hP hD hS (show 0 ≤ 0 by omega) (show 0 ≤ 0 by omega) ⟨Or.inl ⟨j, b1, b2, b3, rfl⟩, rfl, rfl⟩ dX6_firstPieceOf_32
  · intro H locs ls b1 hP hD hS hl
    refine lv_iconst (v := (-1)) hx hb dX6_firstPieceOf_39 (by decide) ?_
    exact o_ri hf hr rfl hlocks hK hP hD hS (show 0 ≤ 0 by omega) (show 0 ≤ 0 by omega) ⟨Or.inr ⟨b1, rfl⟩, rfl, rfl⟩ dX6_firstPieceOf_40
set_option maxHeartbeats 1000000 in
set_option maxRecDepth 100000 in
theorem pl_loop {p : Program} {l : Launch} {e : Env} {R : Room} {s : State} {m : MethodId} {args : Array Value} {below : List Frame} {meth : Method} {c : Code} {Q : State → Prop} {D : va_G} {A : Nat → Prop} {z : Nat → Nat} {cB cI_ cO : ClassId} {L0 : List Nat} {g0 : hG} {cells slots : Nat} {pr pcs spr nwh cp : Nat} {pa : List Nat} {ea : Nat → Nat} {P : List Q4} {el : Nat} (h_pr : ho L0 g0 pr 13 (.inr (7, [.ref pcs, .ref spr, .ref nwh]))) (h_pcs : alR cO (z 0) 14 15 L0 g0 pcs cp pa) (h_pc : pcR L0 g0 ea pa P) (hpa : pa.length ≤ 20000) (hRf : 8 ≤ R.frames) (hRl : 160 ≤ R.locals) (hRc : cells ≤ R.cells) (hRs : slots ≤ R.slots) (hA : ∀ q : Nat, s.heap.size ≤ q → A q) (hf : CallFix p m c cX6_lastPieceOf 3 s args gT yX6_lastPieceOf.cls) (hK : va_K D vcl (dT cB cI_ cO) s) (hZ : zA z A s s.heap) (hN : zB z s) :
    ∀ (k : Nat) (x : Int32) (H : Heap) (locs : List Loc) (ls : Array Slot), k ≤ pa.length → x = nI k - 1 → (∀ t, k ≤ t → t < pa.length → ¬ ea (P.getD t d4).1 = el) → va_P D vcl (dW L0 g0) H → va_D A (dW L0 g0) → va_S A s.heap H locs → lv_has ls 3 [(2, .int x), (1, .ref el), (0, .ref pr)] →
    (∀ (j : Nat) (H : Heap) (locs : List Loc) (ls : Array Slot), j < pa.length → ea (P.getD j d4).1 = el → (∀ t, j < t → t < pa.length → ¬ ea (P.getD t d4).1 = el) → va_P D vcl (dW L0 g0) H → va_D A (dW L0 g0) → va_S A s.heap H locs → lv_has ls 3 [(2, .int (nI j)), (0, .ref pr)] → W p l e R s m args below meth c H locs cells slots Q (F0 m 32 ls [])) →
    (∀  (H : Heap) (locs : List Loc) (ls : Array Slot), (∀ t, t < pa.length → ¬ ea (P.getD t d4).1 = el) → va_P D vcl (dW L0 g0) H → va_D A (dW L0 g0) → va_S A s.heap H locs → lv_has ls 3 [(0, .ref pr)] → W p l e R s m args below meth c H locs cells slots Q (F0 m 40 ls [])) →
    W p l e R s m args below meth c H locs cells slots Q (F0 m 10 ls []) := by
  obtain ⟨hx, hb, hml, hown, hts⟩ := id hf
  intro k
  induction k with
  | zero =>
    intro x H locs ls hk hx_ hne hP hD hS hl kk1 kk0
    obtain rfl : x = (-1) := hx_.trans (by decide)
    refine lv_iload_n hx hb dX6_lastPieceOf_10 rfl (lv_at hl 0 rfl) ?_
    refine lv_if_lt (tgt := 40) hx hb dX6_lastPieceOf_11 (by decide) (fun _ => ?_) (fun hno => absurd hno (by decide))
    exact kk0 H locs ls (fun t ht => hne t (Nat.zero_le t) ht) hP hD hS (lv_sub hl (l' := [(0, .ref pr)]) [2] rfl)
  | succ k ih =>
    intro x H locs ls hk hx_ hne hP hD hS hl kk1 kk0
    obtain rfl : x = nI k := hx_.trans (nI_pred k)
    refine lv_iload_n hx hb dX6_lastPieceOf_10 rfl (lv_at hl 0 rfl) ?_
    refine lv_if_lt (tgt := 40) hx hb dX6_lastPieceOf_11 (by decide) (fun c_1 => ?_) (fun c_1 => ?_)
    · have c_1 := q_lt (a := k) (b := 0) (by omega) (by omega) c_1
      exact False.elim (by omega)
    · have c_1 := q_nlt (a := k) (b := 0) (by omega) (by omega) c_1
      refine lv_aload_n hx hb dX6_lastPieceOf_14 rfl (lv_at hl 2 rfl) ?_
      refine o_get (D := D) (ci := 7) (v := .ref pcs) (C := RX6) (T := TX6) (N := 3) hx hb hts inX6 hown hK hP h_pr rfl 0 (by decide) (hts _ k_304) (fun _ h9 => h9) rfl dX6_lastPieceOf_15 ?_
      refine lv_iload_n hx hb dX6_lastPieceOf_18 rfl (lv_at hl 0 rfl) ?_
      obtain ⟨mc9, d9, h_al9⟩ := h_pcs.al
      refine o_crs (k := cells) (n := slots) hK hP hD hS hA (o_rV (As := [.int (nI k)]) (rest := []) hf (li_get _ _ _ _ _ _ _ _ pcs 14 15 cp pa k h_pcs (by omega) _) k_675 k_672 k_673 k_674 k_89 (nA := 1) (by decide +kernel) ⟨Nat.le_trans (by decide) hRf, Nat.le_trans (by decide) hRl⟩ hK hP hD hS hA hZ hN h_al9 rfl rfl rfl hl.1 rfl (Nat.le_of_ble_eq_true rfl) dX6_lastPieceOf_19 ⟨(show cells + 0 ≤ R.cells by omega), (show slots + 0 ≤ R.slots by omega)⟩) (Nat.le_refl _) (Nat.le_refl _) (fun r H locs hw hP hD hS => ?_)
      obtain rfl := hw
      have h_p0 := h_pc.2 k (by omega)
      refine o_cast hx hb hown (hts _ k_270) hK hP h_p0 rfl rfl dX6_lastPieceOf_22 ?_
      refine o_get (D := D) (ci := 6) (v := .ref (ea (P.getD k d4).1)) (C := RX5) (T := TX5) (N := 4) hx hb hts inX5 hown hK hP h_p0 rfl 0 (by decide) (hts _ k_279) (fun _ h9 => h9) rfl dX6_lastPieceOf_25 ?_
      refine lv_aload_n hx hb dX6_lastPieceOf_28 rfl (lv_at hl 1 rfl) ?_
      refine lv_acmp_ne (rx := (some (ea (P.getD k d4).1))) (ry := (some el)) (tgt := 34) hx hb dX6_lastPieceOf_29 (by decide) (fun c_2 => ?_) (fun c_2 => ?_)
      · refine lv_iinc (v := ((nI k) + (-1))) (lv' := [(2, .int ((nI k) + (-1))), (1, .ref el), (0, .ref pr)]) hx hb dX6_lastPieceOf_34 hl (k := 0) rfl rfl (by decide) rfl (fun ls hl => ?_)
        refine lv_goto (tgt := 10) hx hb dX6_lastPieceOf_37 (by decide) ?_
        exact ih _ H locs ls (by omega) (q_dec _) (fun t h1 => by by_cases e9 : t = k; (· rw [e9]; exact fun _ z9 => c_2 (congrArg some z9)); exact hne t (by omega)) hP hD hS (lv_sub hl (l' := [(2, .int ((nI k) + (-1))), (1, .ref el), (0, .ref pr)]) [0, 1, 2] rfl) kk1 kk0
      · exact kk1 k H locs ls (by omega) (Option.some.inj c_2) (fun t h1 => hne t (by omega)) hP hD hS (lv_sub hl (l' := [(2, .int (nI k)), (0, .ref pr)]) [0, 2] rfl)
set_option maxHeartbeats 1000000 in
set_option maxRecDepth 100000 in
theorem p_last (l : Launch) (D : va_G) (z : Nat → Nat) (cB cI_ cO : ClassId) (L0 : List Nat) (g0 : hG) (pr pcs spr nwh cp : Nat) (pa : List Nat) (ea : Nat → Nat) (P : List Q4) (el : Nat) (h_pr : ho L0 g0 pr 13 (.inr (7, [.ref pcs, .ref spr, .ref nwh]))) (h_pcs : alR cO (z 0) 14 15 L0 g0 pcs cp pa) (h_pc : pcR L0 g0 ea pa P) (hpa : pa.length ≤ 20000) : eIs l D yX6_lastPieceOf cX6_lastPieceOf 3 (some .int) 8 160 0 0 [.ref pr, .ref el] z cB cI_ cO L0 g0 (fun r => ((∃ j : Nat, j < pa.length ∧ ea (P.getD j d4).1 = el ∧ (∀ t, j < t → t < pa.length → ¬ ea (P.getD t d4).1 = el) ∧ r = nI j) ∨ ((∀ t, t < pa.length → ¬ ea (P.getD t d4).1 = el) ∧ r = -1))) := by
  refine o_si (by decide) (Nat.le_of_ble_eq_true rfl) ?_
  intro p e s m below meth c A ls hf hr hlocks hin hK hP hD hS hA hZ hN hl
  obtain ⟨hx, hb, hml, hown, hts⟩ := id hf
  have hl : lv_has ls 3 [(0, .ref pr), (1, .ref el)] := hl
  refine lv_aload_n hx hb dX6_lastPieceOf_0 rfl (lv_at hl 0 rfl) ?_
  refine o_get (D := D) (ci := 7) (v := .ref pcs) (C := RX6) (T := TX6) (N := 3) hx hb hts inX6 hown hK hP h_pr rfl 0 (by decide) (hts _ k_304) (fun _ h9 => h9) rfl dX6_lastPieceOf_1 ?_
  obtain ⟨mc9, d9, h_al9⟩ := h_pcs.al
  refine o_cis (k := 0) (n := 0) hK hP hD hS hA (o_rV (As := []) (rest := []) hf (li_size _ _ _ _ _ _ _ _ pcs 14 15 cp pa h_pcs _) k_606 k_671 k_604 k_605 k_89 (nA := 0) (by decide +kernel) ⟨Nat.le_of_ble_eq_true rfl, Nat.le_of_ble_eq_true rfl⟩ hK hP hD hS hA hZ hN h_al9 rfl rfl rfl hl.1 rfl (Nat.le_of_ble_eq_true rfl) dX6_lastPieceOf_4 ⟨(show 0 + 0 ≤ 0 by omega), (show 0 + 0 ≤ 0 by omega)⟩) (Nat.le_refl _) (Nat.le_refl _) (fun r H locs hw hP hD hS => ?_)
  obtain rfl := hw
  refine lv_iconst (v := 1) hx hb dX6_lastPieceOf_7 (by decide) ?_
  refine lv_isub hx hb dX6_lastPieceOf_8 ?_
  refine lv_istore_n (lv' := [(2, .int ((nI (pa.length)) - 1)), (0, .ref pr), (1, .ref el)]) hx hb dX6_lastPieceOf_9 rfl hl (by decide) rfl (fun ls hl => ?_)
  refine pl_loop  h_pr h_pcs h_pc hpa (Nat.le_of_ble_eq_true rfl) (Nat.le_of_ble_eq_true rfl) (show 0 ≤ 0 by omega) (show 0 ≤ 0 by omega) hA hf hK hZ hN pa.length _ _ _ ls (Nat.le_refl _) rfl (fun t h1 h2 => absurd h2 (by omega)) hP hD hS (lv_sub hl (l' := [(2, .int ((nI (pa.length)) - 1)), (1, .ref el), (0, .ref pr)]) [0, 2, 1] rfl) ?_ ?_
  · intro j H locs ls b1 b2 b3 hP hD hS hl
    refine lv_iload_n hx hb dX6_lastPieceOf_32 rfl (lv_at hl 0 rfl) ?_
    exact o_ri hf hr rfl hlocks hK hP hD hS (show 0 ≤ 0 by omega) (show 0 ≤ 0 by omega) ⟨Or.inl ⟨j, b1, b2, b3, rfl⟩, rfl, rfl⟩ dX6_lastPieceOf_33
  · intro H locs ls b1 hP hD hS hl
    refine lv_iconst (v := (-1)) hx hb dX6_lastPieceOf_40 (by decide) ?_
    exact o_ri hf hr rfl hlocks hK hP hD hS (show 0 ≤ 0 by omega) (show 0 ≤ 0 by omega) ⟨Or.inr ⟨b1, rfl⟩, rfl, rfl⟩ dX6_lastPieceOf_41
set_option maxHeartbeats 1000000 in
set_option maxRecDepth 100000 in
theorem pb_loop {p : Program} {l : Launch} {e : Env} {R : Room} {s : State} {m : MethodId} {args : Array Value} {below : List Frame} {meth : Method} {c : Code} {Q : State → Prop} {D : va_G} {A : Nat → Prop} {z : Nat → Nat} {cB cI_ cO : ClassId} {L0 : List Nat} {g0 : hG} {cells slots : Nat} {pr pcs spr nwh cp : Nat} {pa : List Nat} {ea : Nat → Nat} {P : List Q4} {gg : Nat} (h_pr : ho L0 g0 pr 13 (.inr (7, [.ref pcs, .ref spr, .ref nwh]))) (h_pcs : alR cO (z 0) 14 15 L0 g0 pcs cp pa) (h_pc : pcR L0 g0 ea pa P) (hpa : pa.length ≤ 20000) (hgg : gg ≤ 30000) (hG : ∀ t, t < pa.length → (P.getD t d4).2.2.2 ≤ 30000) (hRf : 8 ≤ R.frames) (hRl : 160 ≤ R.locals) (hRc : cells ≤ R.cells) (hRs : slots ≤ R.slots) (hA : ∀ q : Nat, s.heap.size ≤ q → A q) (hf : CallFix p m c cX6_beginOfGroup 3 s args gT yX6_beginOfGroup.cls) (hK : va_K D vcl (dT cB cI_ cO) s) (hZ : zA z A s s.heap) (hN : zB z s) :
    ∀ (k : Nat) (i : Nat) (H : Heap) (locs : List Loc) (ls : Array Slot), i + k = pa.length → va_P D vcl (dW L0 g0) H → va_D A (dW L0 g0) → va_S A s.heap H locs → lv_has ls 3 [(2, .int (nI i)), (1, .int (nI gg)), (0, .ref pr)] →
    (∀ (j : Nat) (H : Heap) (locs : List Loc) (ls : Array Slot), j = rg_first (fun t => (P.getD t d4).2.2.2) gg k i → va_P D vcl (dW L0 g0) H → va_D A (dW L0 g0) → va_S A s.heap H locs → lv_has ls 3 [(2, .int (nI j)), (0, .ref pr)] → W p l e R s m args below meth c H locs cells slots Q (F0 m 31 ls [])) →
    (∀  (H : Heap) (locs : List Loc) (ls : Array Slot), pa.length = rg_first (fun t => (P.getD t d4).2.2.2) gg k i → va_P D vcl (dW L0 g0) H → va_D A (dW L0 g0) → va_S A s.heap H locs → lv_has ls 3 [(0, .ref pr)] → W p l e R s m args below meth c H locs cells slots Q (F0 m 39 ls [])) →
    W p l e R s m args below meth c H locs cells slots Q (F0 m 2 ls []) := by
  obtain ⟨hx, hb, hml, hown, hts⟩ := id hf
  intro k
  induction k with
  | zero =>
    intro i H locs ls hik hP hD hS hl kk1 kk0
    refine lv_iload_n hx hb dX6_beginOfGroup_2 rfl (lv_at hl 0 rfl) ?_
    refine lv_aload_n hx hb dX6_beginOfGroup_3 rfl (lv_at hl 2 rfl) ?_
    refine o_get (D := D) (ci := 7) (v := .ref pcs) (C := RX6) (T := TX6) (N := 3) hx hb hts inX6 hown hK hP h_pr rfl 0 (by decide) (hts _ k_304) (fun _ h9 => h9) rfl dX6_beginOfGroup_4 ?_
    obtain ⟨mc9, d9, h_al9⟩ := h_pcs.al
    refine o_cis (k := cells) (n := slots) hK hP hD hS hA (o_rV (As := []) (rest := [.int (nI i)]) hf (li_size _ _ _ _ _ _ _ _ pcs 14 15 cp pa h_pcs _) k_606 k_671 k_604 k_605 k_89 (nA := 0) (by decide +kernel) ⟨Nat.le_trans (by decide) hRf, Nat.le_trans (by decide) hRl⟩ hK hP hD hS hA hZ hN h_al9 rfl rfl rfl hl.1 rfl (Nat.le_of_ble_eq_true rfl) dX6_beginOfGroup_7 ⟨(show cells + 0 ≤ R.cells by omega), (show slots + 0 ≤ R.slots by omega)⟩) (Nat.le_refl _) (Nat.le_refl _) (fun r H locs hw hP hD hS => ?_)
    obtain rfl := hw
    refine lv_icmp_ge (tgt := 39) hx hb dX6_beginOfGroup_10 (by decide) (fun c_1 => ?_) (fun c_1 => ?_)
    · have c_1 := q_le (a := pa.length) (b := i) (by omega) (by omega) c_1
      exact kk0 H locs ls (show pa.length = i by omega) hP hD hS (lv_sub hl (l' := [(0, .ref pr)]) [2] rfl)
    · have c_1 := q_nle (a := pa.length) (b := i) (by omega) (by omega) c_1
      exact False.elim (by omega)
  | succ k ih =>
    intro i H locs ls hik hP hD hS hl kk1 kk0
    refine lv_iload_n hx hb dX6_beginOfGroup_2 rfl (lv_at hl 0 rfl) ?_
    refine lv_aload_n hx hb dX6_beginOfGroup_3 rfl (lv_at hl 2 rfl) ?_
    refine o_get (D := D) (ci := 7) (v := .ref pcs) (C := RX6) (T := TX6) (N := 3) hx hb hts inX6 hown hK hP h_pr rfl 0 (by decide) (hts _ k_304) (fun _ h9 => h9) rfl dX6_beginOfGroup_4 ?_
    obtain ⟨mc9, d9, h_al9⟩ := h_pcs.al
    refine o_cis (k := cells) (n := slots) hK hP hD hS hA (o_rV (As := []) (rest := [.int (nI i)]) hf (li_size _ _ _ _ _ _ _ _ pcs 14 15 cp pa h_pcs _) k_606 k_671 k_604 k_605 k_89 (nA := 0) (by decide +kernel) ⟨Nat.le_trans (by decide) hRf, Nat.le_trans (by decide) hRl⟩ hK hP hD hS hA hZ hN h_al9 rfl rfl rfl hl.1 rfl (Nat.le_of_ble_eq_true rfl) dX6_beginOfGroup_7 ⟨(show cells + 0 ≤ R.cells by omega), (show slots + 0 ≤ R.slots by omega)⟩) (Nat.le_refl _) (Nat.le_refl _) (fun r H locs hw hP hD hS => ?_)
    obtain rfl := hw
    refine lv_icmp_ge (tgt := 39) hx hb dX6_beginOfGroup_10 (by decide) (fun c_1 => ?_) (fun c_1 => ?_)
    · have c_1 := q_le (a := pa.length) (b := i) (by omega) (by omega) c_1
      exact False.elim (by omega)
    · have c_1 := q_nle (a := pa.length) (b := i) (by omega) (by omega) c_1
      refine lv_aload_n hx hb dX6_beginOfGroup_13 rfl (lv_at hl 2 rfl) ?_
      refine o_get (D := D) (ci := 7) (v := .ref pcs) (C := RX6) (T := TX6) (N := 3) hx hb hts inX6 hown hK hP h_pr rfl 0 (by decide) (hts _ k_304) (fun _ h9 => h9) rfl dX6_beginOfGroup_14 ?_
      refine lv_iload_n hx hb dX6_beginOfGroup_17 rfl (lv_at hl 0 rfl) ?_
      obtain ⟨mc9, d9, h_al9⟩ := h_pcs.al
      refine o_crs (k := cells) (n := slots) hK hP hD hS hA (o_rV (As := [.int (nI i)]) (rest := []) hf (li_get _ _ _ _ _ _ _ _ pcs 14 15 cp pa i h_pcs (by omega) _) k_675 k_672 k_673 k_674 k_89 (nA := 1) (by decide +kernel) ⟨Nat.le_trans (by decide) hRf, Nat.le_trans (by decide) hRl⟩ hK hP hD hS hA hZ hN h_al9 rfl rfl rfl hl.1 rfl (Nat.le_of_ble_eq_true rfl) dX6_beginOfGroup_18 ⟨(show cells + 0 ≤ R.cells by omega), (show slots + 0 ≤ R.slots by omega)⟩) (Nat.le_refl _) (Nat.le_refl _) (fun r H locs hw hP hD hS => ?_)
      obtain rfl := hw
      have h_p0 := h_pc.2 i (by omega)
      refine o_cast hx hb hown (hts _ k_270) hK hP h_p0 rfl rfl dX6_beginOfGroup_21 ?_
      have hgi := hG i (by omega)
      refine o_get (D := D) (ci := 6) (v := .int (nI ((P.getD i d4).2.2.2))) (C := RX5) (T := TX5) (N := 4) hx hb hts inX5 hown hK hP h_p0 rfl 3 (by decide) (hts _ k_293) (fun _ h9 => h9) rfl dX6_beginOfGroup_24 ?_
      refine lv_iload_n hx hb dX6_beginOfGroup_27 rfl (lv_at hl 1 rfl) ?_
      refine lv_icmp_lt (tgt := 33) hx hb dX6_beginOfGroup_28 (by decide) (fun c_2 => ?_) (fun c_2 => ?_)
      · have c_2 := q_lt (a := (P.getD i d4).2.2.2) (b := gg) (by omega) (by omega) c_2
        refine lv_iinc (v := nI (i + 1)) (lv' := [(2, .int (nI (i + 1))), (1, .int (nI gg)), (0, .ref pr)]) hx hb dX6_beginOfGroup_33 hl (k := 0) rfl (nI_addE (a := i) (b := 1) (by omega)) (by decide) rfl (fun ls hl => ?_)
        refine lv_goto (tgt := 2) hx hb dX6_beginOfGroup_36 (by decide) ?_
        exact ih (i + 1) H locs ls (by omega) hP hD hS (lv_sub hl (l' := [(2, .int (nI (i + 1))), (1, .int (nI gg)), (0, .ref pr)]) [0, 1, 2] rfl) (fun j H locs ls b1 => kk1 j H locs ls (b1.trans (if_pos (show (P.getD i d4).2.2.2 < gg by omega)).symm)) (fun H locs ls b1 => kk0 H locs ls (b1.trans (if_pos (show (P.getD i d4).2.2.2 < gg by omega)).symm))
      · have c_2 := q_nlt (a := (P.getD i d4).2.2.2) (b := gg) (by omega) (by omega) c_2
        exact kk1 i H locs ls (if_neg (show ¬ (P.getD i d4).2.2.2 < gg by omega)).symm hP hD hS (lv_sub hl (l' := [(2, .int (nI i)), (0, .ref pr)]) [0, 2] rfl)
set_option maxHeartbeats 1000000 in
set_option maxRecDepth 100000 in
theorem p_group (l : Launch) (D : va_G) (z : Nat → Nat) (cB cI_ cO : ClassId) (L0 : List Nat) (g0 : hG) (pr pcs spr nwh cp : Nat) (pa : List Nat) (ea : Nat → Nat) (P : List Q4) (gg : Nat) (h_pr : ho L0 g0 pr 13 (.inr (7, [.ref pcs, .ref spr, .ref nwh]))) (h_pcs : alR cO (z 0) 14 15 L0 g0 pcs cp pa) (h_pc : pcR L0 g0 ea pa P) (hpa : pa.length ≤ 20000) (hgg : gg ≤ 30000) (hG : ∀ t, t < pa.length → (P.getD t d4).2.2.2 ≤ 30000) : eIs l D yX6_beginOfGroup cX6_beginOfGroup 3 (some .int) 8 160 0 0 [.ref pr, .int (nI gg)] z cB cI_ cO L0 g0 (fun r => r = nI (rg_first (fun t => (P.getD t d4).2.2.2) gg pa.length 0)) := by
  refine o_si (by decide) (Nat.le_of_ble_eq_true rfl) ?_
  intro p e s m below meth c A ls hf hr hlocks hin hK hP hD hS hA hZ hN hl
  obtain ⟨hx, hb, hml, hown, hts⟩ := id hf
  have hl : lv_has ls 3 [(0, .ref pr), (1, .int (nI gg))] := hl
  refine lv_iconst (v := 0) hx hb dX6_beginOfGroup_0 (by decide) ?_
  refine lv_istore_n (lv' := [(2, .int 0), (0, .ref pr), (1, .int (nI gg))]) hx hb dX6_beginOfGroup_1 rfl hl (by decide) rfl (fun ls hl => ?_)
  refine pb_loop  h_pr h_pcs h_pc hpa hgg hG (Nat.le_of_ble_eq_true rfl) (Nat.le_of_ble_eq_true rfl) (show 0 ≤ 0 by omega) (show 0 ≤ 0 by omega) hA hf hK hZ hN pa.length 0 _ _ ls (by omega) hP hD hS (lv_sub hl (l' := [(2, .int 0), (1, .int (nI gg)), (0, .ref pr)]) [0, 2, 1] rfl) ?_ ?_
  · intro j H locs ls b1 hP hD hS hl
    refine lv_iload_n hx hb dX6_beginOfGroup_31 rfl (lv_at hl 0 rfl) ?_
    exact o_ri hf hr rfl hlocks hK hP hD hS (show 0 ≤ 0 by omega) (show 0 ≤ 0 by omega) ⟨congrArg nI b1, rfl, rfl⟩ dX6_beginOfGroup_32
  · intro H locs ls b1 hP hD hS hl
    refine lv_aload_n hx hb dX6_beginOfGroup_39 rfl (lv_at hl 0 rfl) ?_
    refine o_get (D := D) (ci := 7) (v := .ref pcs) (C := RX6) (T := TX6) (N := 3) hx hb hts inX6 hown hK hP h_pr rfl 0 (by decide) (hts _ k_304) (fun _ h9 => h9) rfl dX6_beginOfGroup_40 ?_
    obtain ⟨mc9, d9, h_al9⟩ := h_pcs.al
    refine o_cis (k := 0) (n := 0) hK hP hD hS hA (o_rV (As := []) (rest := []) hf (li_size _ _ _ _ _ _ _ _ pcs 14 15 cp pa h_pcs _) k_606 k_671 k_604 k_605 k_89 (nA := 0) (by decide +kernel) ⟨Nat.le_of_ble_eq_true rfl, Nat.le_of_ble_eq_true rfl⟩ hK hP hD hS hA hZ hN h_al9 rfl rfl rfl hl.1 rfl (Nat.le_of_ble_eq_true rfl) dX6_beginOfGroup_43 ⟨(show 0 + 0 ≤ 0 by omega), (show 0 + 0 ≤ 0 by omega)⟩) (Nat.le_refl _) (Nat.le_refl _) (fun r H locs hw hP hD hS => ?_)
    obtain rfl := hw
    exact o_ri hf hr rfl hlocks hK hP hD hS (show 0 ≤ 0 by omega) (show 0 ≤ 0 by omega) ⟨congrArg nI b1, rfl, rfl⟩ dX6_beginOfGroup_46
