/-- the room of the sheets' arrays behind laying k groups from g on -/
noncomputable def glG (EE : Nat → E5) (P : List Q4) (n mo : Nat) : Nat → Nat → Nat → Nat
  | 0, _, M => M
  | k + 1, g, M => glG EE P n mo k (g + 1) (glx M 0 (gl_S EE P (rg_first (fun t => (P.getD t d4).2.2.2) g n 0) (rg_first (fun t => (P.getD t d4).2.2.2) (g + 1) n 0) mo))
theorem glG_ge {EE : Nat → E5} {P : List Q4} {n mo : Nat} : ∀ k g M, M ≤ glG EE P n mo k g M := by
  intro k
  induction k with
  | zero => intro g M; exact Nat.le_refl _
  | succ k ih => intro g M; exact Nat.le_trans (glx_ge _ _ _) (ih _ _)
theorem glx_b {EE : Nat → E5} {P : List Q4} {ne n fi en mo M : Nat} (hQ : pq_ok ne EE P) (hen : en ≤ P.length) (hmo1 : 10 ≤ mo) (hmo : mo ≤ 40) (hn : n = P.length) (hM1 : 1 ≤ M) : glx M 0 (gl_S EE P fi en mo) = M ∨ glx M 0 (gl_S EE P fi en mo) ≤ 2 * qS P n ∨ glx M 0 (gl_S EE P fi en mo) ≤ 2 := by
  have h1 := (glS_ok (EE := EE) (fi := fi) hQ hen hmo1 hmo).1
  have h2 := glx_le (gl_S EE P fi en mo) M 0 (Nat.zero_le _) hM1
  have h3 := qS_m P (show en ≤ n by omega)
  omega
abbrev cX9_digest : ByteArray := prog_1_method_23_code
def yX9_digest : MethodName := ⟨RX9, "digest", "()J"⟩
theorem k_44 : (Cond.selects RX9 yX9_digestOfElement yX9_digestOfElement) ∈ gT := gT_i 44 (by decide +kernel) rfl
theorem k_45 : (Cond.selects RX9 yX9_digestOfGroup yX9_digestOfGroup) ∈ gT := gT_i 45 (by decide +kernel) rfl
theorem k_759 : (Cond.instanceMethod yX9_pages) ∈ gT := gT_i 759 (by decide +kernel) rfl
theorem k_760 : (Cond.selects RX9 yX9_pages yX9_pages) ∈ gT := gT_i 760 (by decide +kernel) rfl
theorem k_761 : (Cond.code yX9_pages cX9_pages 1 (some .int)) ∈ gT := gT_i 761 (by decide +kernel) rfl
theorem k_864 : (Cond.instanceMethod yX9_cost) ∈ gT := gT_i 864 (by decide +kernel) rfl
theorem k_865 : (Cond.selects RX9 yX9_cost yX9_cost) ∈ gT := gT_i 865 (by decide +kernel) rfl
theorem k_866 : (Cond.code yX9_cost cX9_cost 1 (some .int)) ∈ gT := gT_i 866 (by decide +kernel) rfl
theorem k_1108 : (Cond.instanceMethod yX9_count) ∈ gT := gT_i 1108 (by decide +kernel) rfl
theorem k_1109 : (Cond.selects RX9 yX9_count yX9_count) ∈ gT := gT_i 1109 (by decide +kernel) rfl
theorem k_1110 : (Cond.code yX9_count cX9_count 2 (some .int)) ∈ gT := gT_i 1110 (by decide +kernel) rfl
theorem k_1123 : (Cond.constantLong RX9 288 (101)) ∈ gT := gT_i 1123 (by decide +kernel) rfl
theorem k_1125 : (Cond.methodLink RX9 292 yX9_count) ∈ gT := gT_i 1125 (by decide +kernel) rfl
theorem k_1126 : (Cond.methodLink RX9 295 yX9_digestOfElement) ∈ gT := gT_i 1126 (by decide +kernel) rfl
theorem k_1128 : (Cond.instanceMethod yX9_digestOfElement) ∈ gT := gT_i 1128 (by decide +kernel) rfl
theorem k_1129 : (Cond.code yX9_digestOfElement cX9_digestOfElement 9 (some .long)) ∈ gT := gT_i 1129 (by decide +kernel) rfl
theorem k_1131 : (Cond.methodLink RX9 299 yX9_pages) ∈ gT := gT_i 1131 (by decide +kernel) rfl
theorem k_1132 : (Cond.methodLink RX9 302 yX9_cost) ∈ gT := gT_i 1132 (by decide +kernel) rfl
theorem k_1133 : (Cond.methodLink RX9 305 yX9_digestOfGroup) ∈ gT := gT_i 1133 (by decide +kernel) rfl
theorem k_1135 : (Cond.instanceMethod yX9_digestOfGroup) ∈ gT := gT_i 1135 (by decide +kernel) rfl
theorem k_1136 : (Cond.code yX9_digestOfGroup cX9_digestOfGroup 7 (some .long)) ∈ gT := gT_i 1136 (by decide +kernel) rfl
theorem dX9_digest_32 : decode cX9_digest 32 = .ok (.iload_n 3, 1) := by decide +kernel
theorem dX9_digest_33 : decode cX9_digest 33 = .ok (.aload_n 0, 1) := by decide +kernel
theorem dX9_digest_34 : decode cX9_digest 34 = .ok (.getfield 28, 3) := by decide +kernel
theorem dX9_digest_37 : decode cX9_digest 37 = .ok (.invokevirtual 113, 3) := by decide +kernel
theorem dX9_digest_40 : decode cX9_digest 40 = .ok (.if_icmp .ge 16, 3) := by decide +kernel
theorem dX9_digest_43 : decode cX9_digest 43 = .ok (.aload_n 0, 1) := by decide +kernel
theorem dX9_digest_44 : decode cX9_digest 44 = .ok (.lload_n 1, 1) := by decide +kernel
theorem dX9_digest_45 : decode cX9_digest 45 = .ok (.iload_n 3, 1) := by decide +kernel
theorem dX9_digest_46 : decode cX9_digest 46 = .ok (.invokevirtual 295, 3) := by decide +kernel
theorem dX9_digest_49 : decode cX9_digest 49 = .ok (.lstore_n 1, 1) := by decide +kernel
theorem dX9_digest_50 : decode cX9_digest 50 = .ok (.iinc 3 1, 3) := by decide +kernel
theorem dX9_digest_53 : decode cX9_digest 53 = .ok (.goto (-21), 3) := by decide +kernel
theorem dX9_digest_0 : decode cX9_digest 0 = .ok (.ldc2_w 288, 3) := by decide +kernel
theorem dX9_digest_3 : decode cX9_digest 3 = .ok (.lstore_n 1, 1) := by decide +kernel
theorem dX9_digest_4 : decode cX9_digest 4 = .ok (.iconst 0, 1) := by decide +kernel
theorem dX9_digest_5 : decode cX9_digest 5 = .ok (.istore_n 3, 1) := by decide +kernel
theorem dX9_digest_6 : decode cX9_digest 6 = .ok (.iload_n 3, 1) := by decide +kernel
theorem dX9_digest_7 : decode cX9_digest 7 = .ok (.iconst 5, 1) := by decide +kernel
theorem dX9_digest_8 : decode cX9_digest 8 = .ok (.if_icmp .gt 22, 3) := by decide +kernel
theorem dX9_digest_11 : decode cX9_digest 11 = .ok (.ldc2_w 290, 3) := by decide +kernel
theorem dX9_digest_14 : decode cX9_digest 14 = .ok (.lload_n 1, 1) := by decide +kernel
theorem dX9_digest_15 : decode cX9_digest 15 = .ok (.lmul, 1) := by decide +kernel
theorem dX9_digest_16 : decode cX9_digest 16 = .ok (.aload_n 0, 1) := by decide +kernel
theorem dX9_digest_17 : decode cX9_digest 17 = .ok (.iload_n 3, 1) := by decide +kernel
theorem dX9_digest_18 : decode cX9_digest 18 = .ok (.invokevirtual 292, 3) := by decide +kernel
theorem dX9_digest_21 : decode cX9_digest 21 = .ok (.i2l, 1) := by decide +kernel
theorem dX9_digest_22 : decode cX9_digest 22 = .ok (.ladd, 1) := by decide +kernel
theorem dX9_digest_23 : decode cX9_digest 23 = .ok (.lstore_n 1, 1) := by decide +kernel
theorem dX9_digest_24 : decode cX9_digest 24 = .ok (.iinc 3 1, 3) := by decide +kernel
theorem dX9_digest_27 : decode cX9_digest 27 = .ok (.goto (-21), 3) := by decide +kernel
theorem dX9_digest_30 : decode cX9_digest 30 = .ok (.iconst 0, 1) := by decide +kernel
theorem dX9_digest_31 : decode cX9_digest 31 = .ok (.istore_n 3, 1) := by decide +kernel
theorem dX9_digest_56 : decode cX9_digest 56 = .ok (.ldc2_w 290, 3) := by decide +kernel
theorem dX9_digest_59 : decode cX9_digest 59 = .ok (.lload_n 1, 1) := by decide +kernel
theorem dX9_digest_60 : decode cX9_digest 60 = .ok (.lmul, 1) := by decide +kernel
theorem dX9_digest_61 : decode cX9_digest 61 = .ok (.aload_n 0, 1) := by decide +kernel
theorem dX9_digest_62 : decode cX9_digest 62 = .ok (.invokevirtual 299, 3) := by decide +kernel
theorem dX9_digest_65 : decode cX9_digest 65 = .ok (.i2l, 1) := by decide +kernel
theorem dX9_digest_66 : decode cX9_digest 66 = .ok (.ladd, 1) := by decide +kernel
theorem dX9_digest_67 : decode cX9_digest 67 = .ok (.lstore_n 1, 1) := by decide +kernel
theorem dX9_digest_68 : decode cX9_digest 68 = .ok (.aload_n 0, 1) := by decide +kernel
theorem dX9_digest_69 : decode cX9_digest 69 = .ok (.getfield 116, 3) := by decide +kernel
theorem dX9_digest_72 : decode cX9_digest 72 = .ok (.ifCond .ne 15, 3) := by decide +kernel
theorem dX9_digest_75 : decode cX9_digest 75 = .ok (.ldc2_w 290, 3) := by decide +kernel
theorem dX9_digest_78 : decode cX9_digest 78 = .ok (.lload_n 1, 1) := by decide +kernel
theorem dX9_digest_79 : decode cX9_digest 79 = .ok (.lmul, 1) := by decide +kernel
theorem dX9_digest_80 : decode cX9_digest 80 = .ok (.aload_n 0, 1) := by decide +kernel
theorem dX9_digest_81 : decode cX9_digest 81 = .ok (.invokevirtual 302, 3) := by decide +kernel
theorem dX9_digest_84 : decode cX9_digest 84 = .ok (.i2l, 1) := by decide +kernel
theorem dX9_digest_85 : decode cX9_digest 85 = .ok (.ladd, 1) := by decide +kernel
theorem dX9_digest_86 : decode cX9_digest 86 = .ok (.lreturn, 1) := by decide +kernel
theorem dX9_digest_89 : decode cX9_digest 89 = .ok (.iload_n 3, 1) := by decide +kernel
theorem dX9_digest_90 : decode cX9_digest 90 = .ok (.aload_n 0, 1) := by decide +kernel
theorem dX9_digest_91 : decode cX9_digest 91 = .ok (.getfield 150, 3) := by decide +kernel
theorem dX9_digest_94 : decode cX9_digest 94 = .ok (.if_icmp .gt 16, 3) := by decide +kernel
theorem dX9_digest_97 : decode cX9_digest 97 = .ok (.aload_n 0, 1) := by decide +kernel
theorem dX9_digest_98 : decode cX9_digest 98 = .ok (.lload_n 1, 1) := by decide +kernel
theorem dX9_digest_99 : decode cX9_digest 99 = .ok (.iload_n 3, 1) := by decide +kernel
theorem dX9_digest_100 : decode cX9_digest 100 = .ok (.invokevirtual 305, 3) := by decide +kernel
theorem dX9_digest_103 : decode cX9_digest 103 = .ok (.lstore_n 1, 1) := by decide +kernel
theorem dX9_digest_104 : decode cX9_digest 104 = .ok (.iinc 3 1, 3) := by decide +kernel
theorem dX9_digest_107 : decode cX9_digest 107 = .ok (.goto (-18), 3) := by decide +kernel
theorem dX9_digest_87 : decode cX9_digest 87 = .ok (.iconst 1, 1) := by decide +kernel
theorem dX9_digest_88 : decode cX9_digest 88 = .ok (.istore_n 3, 1) := by decide +kernel
theorem dX9_digest_110 : decode cX9_digest 110 = .ok (.lload_n 1, 1) := by decide +kernel
theorem dX9_digest_111 : decode cX9_digest 111 = .ok (.lreturn, 1) := by decide +kernel
set_option maxHeartbeats 1000000 in
set_option maxRecDepth 100000 in
theorem dz_e {p : Program} {l : Launch} {e : Env} {R : Room} {s : State} {m : MethodId} {args : Array Value} {below : List Frame} {meth : Method} {c : Code} {Q : State → Prop} {D : va_G} {A : Nat → Prop} {z : Nat → Nat} {cB cI_ cO : ClassId} {L0 : List Nat} {g0 : hG} {cells slots : Nat} {dk tp rd els reo nob pr bk gl sl mo : Nat} {v10 v11 : Int32} {cap : Nat} {xs : List Nat} {Es : List E5} (h_dk : ho L0 g0 dk 1 (.inr (10, [.ref tp, .ref rd, .ref els, .ref reo, .ref nob, .ref pr, .ref bk, .ref gl, .ref sl, .int (nI mo), .int v10, .int v11]))) (h_els : alR cO (z 0) 5 6 L0 g0 els cap xs) (h_es : elsR cB cI_ L0 g0 xs Es) (hxl : xs.length ≤ 60) (hRf : 6 ≤ R.frames) (hRl : 140 ≤ R.locals) (hRc : cells ≤ R.cells) (hRs : slots ≤ R.slots) (hA : ∀ q : Nat, s.heap.size ≤ q → A q) (hf : CallFix p m c cX9_digest 4 s args gT yX9_digest.cls) (hK : va_K D vcl (dT cB cI_ cO) s) (hZ : zA z A s s.heap) (hN : zB z s) :
    ∀ (k : Nat) (i : Nat) (hh : Int64) (H : Heap) (locs : List Loc) (ls : Array Slot), i + k = xs.length → va_P D vcl (dW L0 g0) H → va_D A (dW L0 g0) → va_S A s.heap H locs → lv_has ls 4 [(3, .int (nI i)), (1, .long hh), (0, .ref dk)] →
    (∀ (hh : Int64) (H : Heap) (locs : List Loc) (ls : Array Slot), va_P D vcl (dW L0 g0) H → va_D A (dW L0 g0) → va_S A s.heap H locs → lv_has ls 4 [(1, .long hh), (0, .ref dk)] → W p l e R s m args below meth c H locs cells slots Q (F0 m 56 ls [])) →
    W p l e R s m args below meth c H locs cells slots Q (F0 m 32 ls []) := by
  obtain ⟨hx, hb, hml, hown, hts⟩ := id hf
  intro k
  induction k with
  | zero =>
    intro i hh H locs ls hik hP hD hS hl kk
    refine lv_iload_n hx hb dX9_digest_32 rfl (lv_at hl 0 rfl) ?_
    refine lv_aload_n hx hb dX9_digest_33 rfl (lv_at hl 2 rfl) ?_
    refine o_get (D := D) (ci := 10) (v := .ref els) (C := RX9) (T := TX9) (N := 12) hx hb hts inX9 hown hK hP h_dk rfl 2 (by decide) (hts _ k_431) (fun _ h9 => h9) rfl dX9_digest_34 ?_
    obtain ⟨mc9, d9, h_al9⟩ := h_els.al
    refine o_cis (k := cells) (n := slots) hK hP hD hS hA (o_rV (As := []) (rest := [.int (nI i)]) hf (li_size _ _ _ _ _ _ _ _ els 5 6 cap xs h_els _) k_606 k_686 k_604 k_605 k_89 (nA := 0) (by decide +kernel) ⟨Nat.le_trans (by decide) hRf, Nat.le_trans (by decide) hRl⟩ hK hP hD hS hA hZ hN h_al9 rfl rfl rfl hl.1 rfl (Nat.le_of_ble_eq_true rfl) dX9_digest_37 ⟨(show cells + 0 ≤ R.cells by omega), (show slots + 0 ≤ R.slots by omega)⟩) (Nat.le_refl _) (Nat.le_refl _) (fun r H locs hw hP hD hS => ?_)
    obtain rfl := hw
    refine lv_icmp_ge (tgt := 56) hx hb dX9_digest_40 (by decide) (fun c_1 => ?_) (fun c_1 => ?_)
    · have c_1 := q_le (a := xs.length) (b := i) (by omega) (by omega) c_1
      exact kk _ H locs ls hP hD hS (lv_sub hl (l' := [(1, .long hh), (0, .ref dk)]) [1, 2] rfl)
    · have c_1 := q_nle (a := xs.length) (b := i) (by omega) (by omega) c_1
      exact False.elim (by omega)
  | succ k ih =>
    intro i hh H locs ls hik hP hD hS hl kk
    refine lv_iload_n hx hb dX9_digest_32 rfl (lv_at hl 0 rfl) ?_
    refine lv_aload_n hx hb dX9_digest_33 rfl (lv_at hl 2 rfl) ?_
    refine o_get (D := D) (ci := 10) (v := .ref els) (C := RX9) (T := TX9) (N := 12) hx hb hts inX9 hown hK hP h_dk rfl 2 (by decide) (hts _ k_431) (fun _ h9 => h9) rfl dX9_digest_34 ?_
    obtain ⟨mc9, d9, h_al9⟩ := h_els.al
    refine o_cis (k := cells) (n := slots) hK hP hD hS hA (o_rV (As := []) (rest := [.int (nI i)]) hf (li_size _ _ _ _ _ _ _ _ els 5 6 cap xs h_els _) k_606 k_686 k_604 k_605 k_89 (nA := 0) (by decide +kernel) ⟨Nat.le_trans (by decide) hRf, Nat.le_trans (by decide) hRl⟩ hK hP hD hS hA hZ hN h_al9 rfl rfl rfl hl.1 rfl (Nat.le_of_ble_eq_true rfl) dX9_digest_37 ⟨(show cells + 0 ≤ R.cells by omega), (show slots + 0 ≤ R.slots by omega)⟩) (Nat.le_refl _) (Nat.le_refl _) (fun r H locs hw hP hD hS => ?_)
    obtain rfl := hw
    refine lv_icmp_ge (tgt := 56) hx hb dX9_digest_40 (by decide) (fun c_1 => ?_) (fun c_1 => ?_)
    · have c_1 := q_le (a := xs.length) (b := i) (by omega) (by omega) c_1
      exact False.elim (by omega)
    · have c_1 := q_nle (a := xs.length) (b := i) (by omega) (by omega) c_1
      refine lv_aload_n hx hb dX9_digest_43 rfl (lv_at hl 2 rfl) ?_
      refine lv_lload_n hx hb dX9_digest_44 rfl (lv_at hl 1 rfl) ?_
      refine lv_iload_n hx hb dX9_digest_45 rfl (lv_at hl 0 rfl) ?_
      refine o_cls (k := cells) (n := slots) hK hP hD hS hA (o_rV (As := [.long hh, .int (nI i)]) (rest := []) hf (d_dge _ _ _ _ _ _ _ _ dk tp rd els reo nob pr bk gl sl mo v10 v11 cap xs Es hh i h_dk h_els h_es hxl (by omega) _) k_1129 k_1126 k_1128 k_44 k_84 (nA := 2) (by decide +kernel) ⟨Nat.le_trans (by decide) hRf, Nat.le_trans (by decide) hRl⟩ hK hP hD hS hA hZ hN h_dk rfl rfl rfl hl.1 rfl (Nat.le_of_ble_eq_true rfl) dX9_digest_46 ⟨(show cells + 0 ≤ R.cells by omega), (show slots + 0 ≤ R.slots by omega)⟩) (Nat.le_refl _) (Nat.le_refl _) (fun r H locs hw hP hD hS => ?_)
      obtain _ := hw
      refine lv_lstore_n (lv' := [(1, .long r), (3, .int (nI i)), (0, .ref dk)]) hx hb dX9_digest_49 rfl hl (by decide) rfl (fun ls hl => ?_)
      refine lv_iinc (v := nI (i + 1)) (lv' := [(3, .int (nI (i + 1))), (1, .long r), (0, .ref dk)]) hx hb dX9_digest_50 hl (k := 1) rfl (nI_addE (a := i) (b := 1) (by omega)) (by decide) rfl (fun ls hl => ?_)
      refine lv_goto (tgt := 32) hx hb dX9_digest_53 (by decide) ?_
      exact ih (i + 1) _ H locs ls (by omega) hP hD hS (lv_sub hl (l' := [(3, .int (nI (i + 1))), (1, .long r), (0, .ref dk)]) [0, 1, 2] rfl) kk
set_option maxHeartbeats 1000000 in
set_option maxRecDepth 100000 in
theorem d_digU (l : Launch) (D : va_G) (z : Nat → Nat) (cB cI_ cO : ClassId) (L0 : List Nat) (g0 : hG) (dk tp rd els reo nob pr bk gl sl mo pcs spr nwh cp cap lf by_ n : Nat) (x1 x2 x3 x4 x5 x6 v11 : Int32) (pa xs : List Nat) (P : List Q4) (Es : List E5) (T : Nat → Int32) (h_dk : ho L0 g0 dk 1 (.inr (10, [.ref tp, .ref rd, .ref els, .ref reo, .ref nob, .ref pr, .ref bk, .ref gl, .ref sl, .int (nI mo), .int 0, .int v11]))) (h_tp : ho L0 g0 tp 2 (.inr (9, [.ref by_, .int (nI n)]))) (h_by : ho L0 g0 by_ 3 (.inl (cB, 1200, .inl T))) (h_pr : ho L0 g0 pr 13 (.inr (7, [.ref pcs, .ref spr, .ref nwh]))) (h_pcs : alR cO (z 0) 14 15 L0 g0 pcs cp pa) (h_pc : pcR L0 g0 (fun e => xs.getD e 0) pa P) (h_els : alR cO (z 0) 5 6 L0 g0 els cap xs) (h_es : elsR cB cI_ L0 g0 xs Es) (h_lf : ho L0 g0 lf 20 (.inr (4, [.ref pr, .int x1, .int x2, .int x3, .int x4, .int x5, .int x6]))) (h_bs : bkS cI_ L0 g0 pr bk lf (fun e => Es.getD e dE) P pa.length mo) (hxl : xs.length ≤ 60) (hpa60 : pa.length ≤ 60) (hpa : pa.length ≤ 20000) (hQ : pq_ok xs.length (fun e => Es.getD e dE) P) (hU : pu_ok (fun e => Es.getD e dE) P) (hSb : ∀ i, i ≤ pa.length → qS P i ≤ 8000) (hmo1 : 10 ≤ mo) (hmo : mo ≤ 40) : eL l D yX9_digest cX9_digest 4 (some .long) 12 343 4 (8 * qS P pa.length) [.ref dk] z cB cI_ cO L0 g0 (fun r L g => ∃ (u1 u2 u3 u4 u5 u6 : Int32), fr [20, 21, 22, 23, 24] L0 g0 L g ∧ bkS cI_ L g pr bk lf (fun e => Es.getD e dE) P pa.length mo ∧ ho L g lf 20 (.inr (4, [.ref pr, .int u1, .int u2, .int u3, .int u4, .int u5, .int u6]))) := by
  refine o_sl (by decide) (Nat.le_of_ble_eq_true rfl) ?_
  intro p e s m below meth c A ls hf hr hlocks hin hK hP hD hS hA hZ hN hl
  obtain ⟨hx, hb, hml, hown, hts⟩ := id hf
  have hl : lv_has ls 4 [(0, .ref dk)] := hl
  have hfr : fr [20, 21, 22, 23, 24] L0 g0 L0 g0 := fr.rf
  refine lv_ldc2 (v := 101) hx hb hown (hts _ k_1123) dX9_digest_0 ?_
  refine lv_lstore_n (lv' := [(1, .long 101), (0, .ref dk)]) hx hb dX9_digest_3 rfl hl (by decide) rfl (fun ls hl => ?_)
  refine lv_iconst (v := 0) hx hb dX9_digest_4 (by decide) ?_
  refine lv_istore_n (lv' := [(3, .int 0), (1, .long 101), (0, .ref dk)]) hx hb dX9_digest_5 rfl hl (by decide) rfl (fun ls hl => ?_)
  refine lv_iload_n hx hb dX9_digest_6 rfl (lv_at hl 0 rfl) ?_
  refine lv_iconst (v := 5) hx hb dX9_digest_7 (by decide) ?_
  refine lv_icmp_gt (tgt := 30) hx hb dX9_digest_8 (by decide) (fun hno => absurd hno (by decide)) (fun _ => ?_)
  refine lv_ldc2 (v := 31) hx hb hown (hts _ k_1124) dX9_digest_11 ?_
  refine lv_lload_n hx hb dX9_digest_14 rfl (lv_at hl 1 rfl) ?_
  refine lv_lmul hx hb dX9_digest_15 ?_
  refine q_setl (y := 3131) (by decide) ?_
  refine lv_aload_n hx hb dX9_digest_16 rfl (lv_at hl 2 rfl) ?_
  refine lv_iload_n hx hb dX9_digest_17 rfl (lv_at hl 0 rfl) ?_
  refine o_cis (k := 0) (n := 0) hK hP hD hS hA (o_rV (As := [.int 0]) (rest := [.long 3131]) hf (d_count _ _ _ _ _ _ _ _ dk tp rd els reo nob pr bk gl sl mo 0 v11 cap xs Es by_ n T 0 h_dk h_els h_es h_tp h_by hxl _) k_1110 k_1125 k_1108 k_1109 k_84 (nA := 1) (by decide +kernel) ⟨Nat.le_of_ble_eq_true rfl, Nat.le_of_ble_eq_true rfl⟩ hK hP hD hS hA hZ hN h_dk rfl rfl rfl hl.1 rfl (Nat.le_of_ble_eq_true rfl) dX9_digest_18 ⟨(show 0 + 0 ≤ 4 by omega), (show 0 + 0 ≤ 8 * qS P pa.length by omega)⟩) (Nat.le_refl _) (Nat.le_refl _) (fun r H locs hw hP hD hS => ?_)
  obtain _ := hw
  refine lv_i2l (v := (r).toInt64) hx hb dX9_digest_21 rfl ?_
  refine lv_ladd hx hb dX9_digest_22 ?_
  refine lv_lstore_n (lv' := [(1, .long (3131 + (r).toInt64)), (3, .int 0), (0, .ref dk)]) hx hb dX9_digest_23 rfl hl (by decide) rfl (fun ls hl => ?_)
  obtain ⟨hh_1, ehh_1⟩ : ∃ x : Int64, x = (3131 + (r).toInt64) := ⟨_, rfl⟩
  rw [← ehh_1] at hl
  refine lv_iinc (v := 1) (lv' := [(3, .int 1), (1, .long hh_1), (0, .ref dk)]) hx hb dX9_digest_24 hl (k := 1) rfl (by decide) (by decide) rfl (fun ls hl => ?_)
  refine lv_goto (tgt := 6) hx hb dX9_digest_27 (by decide) ?_
  refine lv_iload_n hx hb dX9_digest_6 rfl (lv_at hl 0 rfl) ?_
  refine lv_iconst (v := 5) hx hb dX9_digest_7 (by decide) ?_
  refine lv_icmp_gt (tgt := 30) hx hb dX9_digest_8 (by decide) (fun hno => absurd hno (by decide)) (fun _ => ?_)
  refine lv_ldc2 (v := 31) hx hb hown (hts _ k_1124) dX9_digest_11 ?_
  refine lv_lload_n hx hb dX9_digest_14 rfl (lv_at hl 1 rfl) ?_
  refine lv_lmul hx hb dX9_digest_15 ?_
  refine lv_aload_n hx hb dX9_digest_16 rfl (lv_at hl 2 rfl) ?_
  refine lv_iload_n hx hb dX9_digest_17 rfl (lv_at hl 0 rfl) ?_
  refine o_cis (k := 0) (n := 0) hK hP hD hS hA (o_rV (As := [.int 1]) (rest := [.long (31 * hh_1)]) hf (d_count _ _ _ _ _ _ _ _ dk tp rd els reo nob pr bk gl sl mo 0 v11 cap xs Es by_ n T 1 h_dk h_els h_es h_tp h_by hxl _) k_1110 k_1125 k_1108 k_1109 k_84 (nA := 1) (by decide +kernel) ⟨Nat.le_of_ble_eq_true rfl, Nat.le_of_ble_eq_true rfl⟩ hK hP hD hS hA hZ hN h_dk rfl rfl rfl hl.1 rfl (Nat.le_of_ble_eq_true rfl) dX9_digest_18 ⟨(show 0 + 0 ≤ 4 by omega), (show 0 + 0 ≤ 8 * qS P pa.length by omega)⟩) (Nat.le_refl _) (Nat.le_refl _) (fun r H locs hw hP hD hS => ?_)
  obtain _ := hw
  refine lv_i2l (v := (r).toInt64) hx hb dX9_digest_21 rfl ?_
  refine lv_ladd hx hb dX9_digest_22 ?_
  refine lv_lstore_n (lv' := [(1, .long ((31 * hh_1) + (r).toInt64)), (3, .int 1), (0, .ref dk)]) hx hb dX9_digest_23 rfl hl (by decide) rfl (fun ls hl => ?_)
  obtain ⟨hh_2, ehh_2⟩ : ∃ x : Int64, x = ((31 * hh_1) + (r).toInt64) := ⟨_, rfl⟩
  rw [← ehh_2] at hl
  refine lv_iinc (v := 2) (lv' := [(3, .int 2), (1, .long hh_2), (0, .ref dk)]) hx hb dX9_digest_24 hl (k := 1) rfl (by decide) (by decide) rfl (fun ls hl => ?_)
  refine lv_goto (tgt := 6) hx hb dX9_digest_27 (by decide) ?_
  refine lv_iload_n hx hb dX9_digest_6 rfl (lv_at hl 0 rfl) ?_
  refine lv_iconst (v := 5) hx hb dX9_digest_7 (by decide) ?_
  refine lv_icmp_gt (tgt := 30) hx hb dX9_digest_8 (by decide) (fun hno => absurd hno (by decide)) (fun _ => ?_)
  refine lv_ldc2 (v := 31) hx hb hown (hts _ k_1124) dX9_digest_11 ?_
  refine lv_lload_n hx hb dX9_digest_14 rfl (lv_at hl 1 rfl) ?_
  refine lv_lmul hx hb dX9_digest_15 ?_
  refine lv_aload_n hx hb dX9_digest_16 rfl (lv_at hl 2 rfl) ?_
  refine lv_iload_n hx hb dX9_digest_17 rfl (lv_at hl 0 rfl) ?_
  refine o_cis (k := 0) (n := 0) hK hP hD hS hA (o_rV (As := [.int 2]) (rest := [.long (31 * hh_2)]) hf (d_count _ _ _ _ _ _ _ _ dk tp rd els reo nob pr bk gl sl mo 0 v11 cap xs Es by_ n T 2 h_dk h_els h_es h_tp h_by hxl _) k_1110 k_1125 k_1108 k_1109 k_84 (nA := 1) (by decide +kernel) ⟨Nat.le_of_ble_eq_true rfl, Nat.le_of_ble_eq_true rfl⟩ hK hP hD hS hA hZ hN h_dk rfl rfl rfl hl.1 rfl (Nat.le_of_ble_eq_true rfl) dX9_digest_18 ⟨(show 0 + 0 ≤ 4 by omega), (show 0 + 0 ≤ 8 * qS P pa.length by omega)⟩) (Nat.le_refl _) (Nat.le_refl _) (fun r H locs hw hP hD hS => ?_)
  obtain _ := hw
  refine lv_i2l (v := (r).toInt64) hx hb dX9_digest_21 rfl ?_
  refine lv_ladd hx hb dX9_digest_22 ?_
  refine lv_lstore_n (lv' := [(1, .long ((31 * hh_2) + (r).toInt64)), (3, .int 2), (0, .ref dk)]) hx hb dX9_digest_23 rfl hl (by decide) rfl (fun ls hl => ?_)
  obtain ⟨hh_3, ehh_3⟩ : ∃ x : Int64, x = ((31 * hh_2) + (r).toInt64) := ⟨_, rfl⟩
  rw [← ehh_3] at hl
  refine lv_iinc (v := 3) (lv' := [(3, .int 3), (1, .long hh_3), (0, .ref dk)]) hx hb dX9_digest_24 hl (k := 1) rfl (by decide) (by decide) rfl (fun ls hl => ?_)
  refine lv_goto (tgt := 6) hx hb dX9_digest_27 (by decide) ?_
  refine lv_iload_n hx hb dX9_digest_6 rfl (lv_at hl 0 rfl) ?_
  refine lv_iconst (v := 5) hx hb dX9_digest_7 (by decide) ?_
  refine lv_icmp_gt (tgt := 30) hx hb dX9_digest_8 (by decide) (fun hno => absurd hno (by decide)) (fun _ => ?_)
  refine lv_ldc2 (v := 31) hx hb hown (hts _ k_1124) dX9_digest_11 ?_
  refine lv_lload_n hx hb dX9_digest_14 rfl (lv_at hl 1 rfl) ?_
  refine lv_lmul hx hb dX9_digest_15 ?_
  refine lv_aload_n hx hb dX9_digest_16 rfl (lv_at hl 2 rfl) ?_
  refine lv_iload_n hx hb dX9_digest_17 rfl (lv_at hl 0 rfl) ?_
  refine o_cis (k := 0) (n := 0) hK hP hD hS hA (o_rV (As := [.int 3]) (rest := [.long (31 * hh_3)]) hf (d_count _ _ _ _ _ _ _ _ dk tp rd els reo nob pr bk gl sl mo 0 v11 cap xs Es by_ n T 3 h_dk h_els h_es h_tp h_by hxl _) k_1110 k_1125 k_1108 k_1109 k_84 (nA := 1) (by decide +kernel) ⟨Nat.le_of_ble_eq_true rfl, Nat.le_of_ble_eq_true rfl⟩ hK hP hD hS hA hZ hN h_dk rfl rfl rfl hl.1 rfl (Nat.le_of_ble_eq_true rfl) dX9_digest_18 ⟨(show 0 + 0 ≤ 4 by omega), (show 0 + 0 ≤ 8 * qS P pa.length by omega)⟩) (Nat.le_refl _) (Nat.le_refl _) (fun r H locs hw hP hD hS => ?_)
  obtain _ := hw
  refine lv_i2l (v := (r).toInt64) hx hb dX9_digest_21 rfl ?_
  refine lv_ladd hx hb dX9_digest_22 ?_
  refine lv_lstore_n (lv' := [(1, .long ((31 * hh_3) + (r).toInt64)), (3, .int 3), (0, .ref dk)]) hx hb dX9_digest_23 rfl hl (by decide) rfl (fun ls hl => ?_)
  obtain ⟨hh_4, ehh_4⟩ : ∃ x : Int64, x = ((31 * hh_3) + (r).toInt64) := ⟨_, rfl⟩
  rw [← ehh_4] at hl
  refine lv_iinc (v := 4) (lv' := [(3, .int 4), (1, .long hh_4), (0, .ref dk)]) hx hb dX9_digest_24 hl (k := 1) rfl (by decide) (by decide) rfl (fun ls hl => ?_)
  refine lv_goto (tgt := 6) hx hb dX9_digest_27 (by decide) ?_
  refine lv_iload_n hx hb dX9_digest_6 rfl (lv_at hl 0 rfl) ?_
  refine lv_iconst (v := 5) hx hb dX9_digest_7 (by decide) ?_
  refine lv_icmp_gt (tgt := 30) hx hb dX9_digest_8 (by decide) (fun hno => absurd hno (by decide)) (fun _ => ?_)
  refine lv_ldc2 (v := 31) hx hb hown (hts _ k_1124) dX9_digest_11 ?_
  refine lv_lload_n hx hb dX9_digest_14 rfl (lv_at hl 1 rfl) ?_
  refine lv_lmul hx hb dX9_digest_15 ?_
  refine lv_aload_n hx hb dX9_digest_16 rfl (lv_at hl 2 rfl) ?_
  refine lv_iload_n hx hb dX9_digest_17 rfl (lv_at hl 0 rfl) ?_
  refine o_cis (k := 0) (n := 0) hK hP hD hS hA (o_rV (As := [.int 4]) (rest := [.long (31 * hh_4)]) hf (d_count _ _ _ _ _ _ _ _ dk tp rd els reo nob pr bk gl sl mo 0 v11 cap xs Es by_ n T 4 h_dk h_els h_es h_tp h_by hxl _) k_1110 k_1125 k_1108 k_1109 k_84 (nA := 1) (by decide +kernel) ⟨Nat.le_of_ble_eq_true rfl, Nat.le_of_ble_eq_true rfl⟩ hK hP hD hS hA hZ hN h_dk rfl rfl rfl hl.1 rfl (Nat.le_of_ble_eq_true rfl) dX9_digest_18 ⟨(show 0 + 0 ≤ 4 by omega), (show 0 + 0 ≤ 8 * qS P pa.length by omega)⟩) (Nat.le_refl _) (Nat.le_refl _) (fun r H locs hw hP hD hS => ?_)
  obtain _ := hw
  refine lv_i2l (v := (r).toInt64) hx hb dX9_digest_21 rfl ?_
  refine lv_ladd hx hb dX9_digest_22 ?_
  refine lv_lstore_n (lv' := [(1, .long ((31 * hh_4) + (r).toInt64)), (3, .int 4), (0, .ref dk)]) hx hb dX9_digest_23 rfl hl (by decide) rfl (fun ls hl => ?_)
  obtain ⟨hh_5, ehh_5⟩ : ∃ x : Int64, x = ((31 * hh_4) + (r).toInt64) := ⟨_, rfl⟩
  rw [← ehh_5] at hl
  refine lv_iinc (v := 5) (lv' := [(3, .int 5), (1, .long hh_5), (0, .ref dk)]) hx hb dX9_digest_24 hl (k := 1) rfl (by decide) (by decide) rfl (fun ls hl => ?_)
  refine lv_goto (tgt := 6) hx hb dX9_digest_27 (by decide) ?_
  refine lv_iload_n hx hb dX9_digest_6 rfl (lv_at hl 0 rfl) ?_
  refine lv_iconst (v := 5) hx hb dX9_digest_7 (by decide) ?_
  refine lv_icmp_gt (tgt := 30) hx hb dX9_digest_8 (by decide) (fun hno => absurd hno (by decide)) (fun _ => ?_)
  refine lv_ldc2 (v := 31) hx hb hown (hts _ k_1124) dX9_digest_11 ?_
  refine lv_lload_n hx hb dX9_digest_14 rfl (lv_at hl 1 rfl) ?_
  refine lv_lmul hx hb dX9_digest_15 ?_
  refine lv_aload_n hx hb dX9_digest_16 rfl (lv_at hl 2 rfl) ?_
  refine lv_iload_n hx hb dX9_digest_17 rfl (lv_at hl 0 rfl) ?_
  refine o_cis (k := 0) (n := 0) hK hP hD hS hA (o_rV (As := [.int 5]) (rest := [.long (31 * hh_5)]) hf (d_count _ _ _ _ _ _ _ _ dk tp rd els reo nob pr bk gl sl mo 0 v11 cap xs Es by_ n T 5 h_dk h_els h_es h_tp h_by hxl _) k_1110 k_1125 k_1108 k_1109 k_84 (nA := 1) (by decide +kernel) ⟨Nat.le_of_ble_eq_true rfl, Nat.le_of_ble_eq_true rfl⟩ hK hP hD hS hA hZ hN h_dk rfl rfl rfl hl.1 rfl (Nat.le_of_ble_eq_true rfl) dX9_digest_18 ⟨(show 0 + 0 ≤ 4 by omega), (show 0 + 0 ≤ 8 * qS P pa.length by omega)⟩) (Nat.le_refl _) (Nat.le_refl _) (fun r H locs hw hP hD hS => ?_)
  obtain _ := hw
  refine lv_i2l (v := (r).toInt64) hx hb dX9_digest_21 rfl ?_
  refine lv_ladd hx hb dX9_digest_22 ?_
  refine lv_lstore_n (lv' := [(1, .long ((31 * hh_5) + (r).toInt64)), (3, .int 5), (0, .ref dk)]) hx hb dX9_digest_23 rfl hl (by decide) rfl (fun ls hl => ?_)
  obtain ⟨hh_6, ehh_6⟩ : ∃ x : Int64, x = ((31 * hh_5) + (r).toInt64) := ⟨_, rfl⟩
  rw [← ehh_6] at hl
  refine lv_iinc (v := 6) (lv' := [(3, .int 6), (1, .long hh_6), (0, .ref dk)]) hx hb dX9_digest_24 hl (k := 1) rfl (by decide) (by decide) rfl (fun ls hl => ?_)
  refine lv_goto (tgt := 6) hx hb dX9_digest_27 (by decide) ?_
  refine lv_iload_n hx hb dX9_digest_6 rfl (lv_at hl 0 rfl) ?_
  refine lv_iconst (v := 5) hx hb dX9_digest_7 (by decide) ?_
  refine lv_icmp_gt (tgt := 30) hx hb dX9_digest_8 (by decide) (fun _ => ?_) (fun hno => absurd hno (by decide))
  refine lv_iconst (v := 0) hx hb dX9_digest_30 (by decide) ?_
  refine lv_istore_n (lv' := [(3, .int 0), (1, .long hh_6), (0, .ref dk)]) hx hb dX9_digest_31 rfl hl (by decide) rfl (fun ls hl => ?_)
  refine dz_e  h_dk h_els h_es hxl (Nat.le_of_ble_eq_true rfl) (Nat.le_of_ble_eq_true rfl) (show 0 ≤ 4 by omega) (show 0 ≤ 8 * qS P pa.length by omega) hA hf hK hZ hN xs.length 0 _ _ _ ls (by omega) hP hD hS (lv_sub hl (l' := [(3, .int 0), (1, .long hh_6), (0, .ref dk)]) [0, 1, 2] rfl) ?_
  · intro hh H locs ls hP hD hS hl
    refine lv_ldc2 (v := 31) hx hb hown (hts _ k_1124) dX9_digest_56 ?_
    refine lv_lload_n hx hb dX9_digest_59 rfl (lv_at hl 0 rfl) ?_
    refine lv_lmul hx hb dX9_digest_60 ?_
    refine lv_aload_n hx hb dX9_digest_61 rfl (lv_at hl 1 rfl) ?_
    refine o_ci (k := 0 + 2) (n := 0 + (4 * qS P pa.length)) hK hP hD hS hA (o_rV (As := []) (rest := [.long (31 * hh)]) hf (d_pagesU _ _ _ _ _ _ _ _ dk tp rd els reo nob bk gl sl mo pr pcs spr nwh cp pa (fun e => xs.getD e 0) P xs.length (fun e => Es.getD e dE) lf x1 x2 x3 x4 x5 x6 v11 h_dk h_pr h_pcs h_pc h_es.2.2 h_lf h_bs hpa60 hpa hQ hU hSb hmo1 hmo _) k_761 k_1131 k_759 k_760 k_84 (nA := 0) (by decide +kernel) ⟨Nat.le_of_ble_eq_true rfl, Nat.le_of_ble_eq_true rfl⟩ hK hP hD hS hA hZ hN h_dk rfl rfl rfl hl.1 rfl (Nat.le_of_ble_eq_true rfl) dX9_digest_62 ⟨(show 0 + 2 ≤ 4 by omega), (show 0 + (4 * qS P pa.length) ≤ 8 * qS P pa.length by omega)⟩) (by omega) (by omega) (fun r L g H locs hw hP hD hS => ?_)
    obtain ⟨y9, y10, u1, u2, u3, u4, u5, u6, C, cn, rfl, hf9, hbk, h_lf⟩ := hw
    have h_dk := h_dk.fr hf9 (by decide)
    have h_tp := h_tp.fr hf9 (by decide)
    have h_by := h_by.fr hf9 (by decide)
    have h_pr := h_pr.fr hf9 (by decide)
    have hfr := hfr.tr hf9
    have h_pcs := h_pcs.frd hf9 (by decide)
    have h_pc := h_pc.frd hf9 (by decide)
    have h_els := h_els.frd hf9 (by decide)
    have h_es := h_es.frd hf9 (by decide)
    have h_bs : bkS cI_ L g pr bk lf (fun e => Es.getD e dE) P pa.length mo := Or.inr ⟨y9, y10, C, cn, hbk⟩
    refine lv_i2l (v := ((nI cn)).toInt64) hx hb dX9_digest_65 rfl ?_
    refine lv_ladd hx hb dX9_digest_66 ?_
    refine lv_lstore_n (lv' := [(1, .long ((31 * hh) + ((nI cn)).toInt64)), (0, .ref dk)]) hx hb dX9_digest_67 rfl hl (by decide) rfl (fun ls hl => ?_)
    obtain ⟨hh_7, ehh_7⟩ : ∃ x : Int64, x = ((31 * hh) + ((nI cn)).toInt64) := ⟨_, rfl⟩
    rw [← ehh_7] at hl
    refine lv_aload_n hx hb dX9_digest_68 rfl (lv_at hl 1 rfl) ?_
    refine o_get (D := D) (ci := 10) (v := .int 0) (C := RX9) (T := TX9) (N := 12) hx hb hts inX9 hown hK hP h_dk rfl 10 (by decide) (hts _ k_439) (fun _ h9 => h9) rfl dX9_digest_69 ?_
    refine lv_if_ne (tgt := 87) hx hb dX9_digest_72 (by decide) (fun hno => absurd hno (by decide)) (fun _ => ?_)
    refine lv_ldc2 (v := 31) hx hb hown (hts _ k_1124) dX9_digest_75 ?_
    refine lv_lload_n hx hb dX9_digest_78 rfl (lv_at hl 0 rfl) ?_
    refine lv_lmul hx hb dX9_digest_79 ?_
    refine lv_aload_n hx hb dX9_digest_80 rfl (lv_at hl 1 rfl) ?_
    refine o_ci (k := 0 + 2 + 2) (n := 0 + (4 * qS P pa.length) + (4 * qS P pa.length)) hK hP hD hS hA (o_rV (As := []) (rest := [.long (31 * hh_7)]) hf (d_costU _ _ _ _ _ _ _ _ dk tp rd els reo nob bk gl sl mo pr pcs spr nwh cp pa (fun e => xs.getD e 0) P xs.length (fun e => Es.getD e dE) lf u1 u2 u3 u4 u5 u6 v11 h_dk h_pr h_pcs h_pc h_es.2.2 h_lf h_bs hpa60 hpa hQ hU hSb hmo1 hmo _) k_866 k_1132 k_864 k_865 k_84 (nA := 0) (by decide +kernel) ⟨Nat.le_of_ble_eq_true rfl, Nat.le_of_ble_eq_true rfl⟩ hK hP hD hS hA hZ hN h_dk rfl rfl rfl hl.1 rfl (Nat.le_of_ble_eq_true rfl) dX9_digest_81 ⟨(show 0 + 2 + 2 ≤ 4 by omega), (show 0 + (4 * qS P pa.length) + (4 * qS P pa.length) ≤ 8 * qS P pa.length by omega)⟩) (by omega) (by omega) (fun r L g H locs hw hP hD hS => ?_)
    obtain ⟨_, y9, y10, u1, u2, u3, u4, u5, u6, C, cn, hf9, hbk, h_lf⟩ := hw
    have h_dk := h_dk.fr hf9 (by decide)
    have h_tp := h_tp.fr hf9 (by decide)
    have h_by := h_by.fr hf9 (by decide)
    have h_pr := h_pr.fr hf9 (by decide)
    have hfr := hfr.tr hf9
    have h_pcs := h_pcs.frd hf9 (by decide)
    have h_pc := h_pc.frd hf9 (by decide)
    have h_els := h_els.frd hf9 (by decide)
    have h_es := h_es.frd hf9 (by decide)
    have h_bs : bkS cI_ L g pr bk lf (fun e => Es.getD e dE) P pa.length mo := Or.inr ⟨y9, y10, C, cn, hbk⟩
    refine lv_i2l (v := (r).toInt64) hx hb dX9_digest_84 rfl ?_
    refine lv_ladd hx hb dX9_digest_85 ?_
    exact o_rl hf hr hlocks hK hP hD hS (show 0 + 2 + 2 ≤ 4 by omega) (show 0 + (4 * qS P pa.length) + (4 * qS P pa.length) ≤ 8 * qS P pa.length by omega) ⟨u1, u2, u3, u4, u5, u6, hfr, h_bs, h_lf⟩ dX9_digest_86
set_option maxHeartbeats 1000000 in
set_option maxRecDepth 100000 in
theorem dz_g {p : Program} {l : Launch} {e : Env} {R : Room} {s : State} {m : MethodId} {args : Array Value} {below : List Frame} {meth : Method} {c : Code} {Q : State → Prop} {D : va_G} {A : Nat → Prop} {z : Nat → Nat} {cB cI_ cO : ClassId} {L0 : List Nat} {g0 : hG} {dk tp rd els reo nob bk sl gs : Nat} {pr pcs spr nwh cp : Nat} {pa : List Nat} {ea : Nat → Nat} {P : List Q4} {ne : Nat} {EE : Nat → E5} {nb gl lf mo BM cE sE : Nat} (hpa : pa.length ≤ 20000) (hQ : pq_ok ne EE P) (hSn : qS P pa.length ≤ 8000) (hmo1 : 10 ≤ mo) (hmo : mo ≤ 40) (hgs : gs ≤ 10000) (hGb : ∀ t, t < pa.length → (P.getD t d4).2.2.2 ≤ 30000) (hgr : grp_ok EE P pa.length) (hcE : cE ≤ R.cells) (hsE : sE ≤ R.slots) (hRf : 12 ≤ R.frames) (hRl : 360 ≤ R.locals) (hA : ∀ q : Nat, s.heap.size ≤ q → A q) (hf : CallFix p m c cX9_digest 4 s args gT yX9_digest.cls) (hK : va_K D vcl (dT cB cI_ cO) s) (hZ : zA z A s s.heap) (hN : zB z s) :
    ∀ (k : Nat) (gg : Nat) (hh : Int64) (ra : Nat) (fa : Nat) (la : Nat) (M : Nat) (f0 : Nat → Int32) (f1 : Nat → Int32) (f2 : Nat → Int32) (v5 : Int32) (v6 : Int32) (v7 : Int32) (v8 : Int32) (v9 : Int32) (x1 : Int32) (x2 : Int32) (x3 : Int32) (x4 : Int32) (x5 : Int32) (x6 : Int32) (cells slots : Nat) (L : List Nat) (g : hG) (H : Heap) (locs : List Loc) (ls : Array Slot), gg + k = gs + 1 → 1 ≤ M → M ≤ 20000 → BM = glG EE P pa.length mo k gg M → cells + 3 * (BM - M) ≤ cE → slots + 6 * (BM - M) ≤ sE → ho L g dk 1 (.inr (10, [.ref tp, .ref rd, .ref els, .ref reo, .ref nob, .ref pr, .ref bk, .ref gl, .ref sl, .int (nI mo), .int 1, .int (nI gs)])) → ho L g pr 13 (.inr (7, [.ref pcs, .ref spr, .ref nwh])) → alR cO (z 0) 14 15 L g pcs cp pa → pcR L g ea pa P → esR cB cI_ L g ea ne EE → ho L g nwh 19 (.inr (6, [.ref nb, .int 0, .int 0, .int 0])) → ho L g gl 25 (.inr (3, [.ref pr, .ref lf, .ref ra, .ref fa, .ref la, .int v5, .int v6, .int v7, .int v8, .int v9])) → ho L g lf 20 (.inr (4, [.ref pr, .int x1, .int x2, .int x3, .int x4, .int x5, .int x6])) → ho L g ra 26 (.inl (cI_, M, .inl f0)) → ho L g fa 27 (.inl (cI_, M, .inl f1)) → ho L g la 28 (.inl (cI_, M, .inl f2)) → fr [20, 25, 26, 27, 28] L0 g0 L g → va_P D vcl (dW L g) H → va_D A (dW L g) → va_S A s.heap H locs → lv_has ls 4 [(3, .int (nI gg)), (1, .long hh), (0, .ref dk)] →
    (∀ (hh : Int64) (ra : Nat) (fa : Nat) (la : Nat) (M : Nat) (f0 : Nat → Int32) (f1 : Nat → Int32) (f2 : Nat → Int32) (v5 : Int32) (v6 : Int32) (v7 : Int32) (v8 : Int32) (v9 : Int32) (x1 : Int32) (x2 : Int32) (x3 : Int32) (x4 : Int32) (x5 : Int32) (x6 : Int32)  (L : List Nat) (g : hG) (H : Heap) (locs : List Loc) (ls : Array Slot), M = BM → ho L g dk 1 (.inr (10, [.ref tp, .ref rd, .ref els, .ref reo, .ref nob, .ref pr, .ref bk, .ref gl, .ref sl, .int (nI mo), .int 1, .int (nI gs)])) → ho L g pr 13 (.inr (7, [.ref pcs, .ref spr, .ref nwh])) → alR cO (z 0) 14 15 L g pcs cp pa → pcR L g ea pa P → esR cB cI_ L g ea ne EE → ho L g nwh 19 (.inr (6, [.ref nb, .int 0, .int 0, .int 0])) → ho L g gl 25 (.inr (3, [.ref pr, .ref lf, .ref ra, .ref fa, .ref la, .int v5, .int v6, .int v7, .int v8, .int v9])) → ho L g lf 20 (.inr (4, [.ref pr, .int x1, .int x2, .int x3, .int x4, .int x5, .int x6])) → ho L g ra 26 (.inl (cI_, M, .inl f0)) → ho L g fa 27 (.inl (cI_, M, .inl f1)) → ho L g la 28 (.inl (cI_, M, .inl f2)) → fr [20, 25, 26, 27, 28] L0 g0 L g → va_P D vcl (dW L g) H → va_D A (dW L g) → va_S A s.heap H locs → lv_has ls 4 [(1, .long hh), (0, .ref dk)] → W p l e R s m args below meth c H locs cE sE Q (F0 m 110 ls [])) →
    W p l e R s m args below meth c H locs cells slots Q (F0 m 89 ls []) := by
  obtain ⟨hx, hb, hml, hown, hts⟩ := id hf
  intro k
  induction k with
  | zero =>
    intro gg hh ra fa la M f0 f1 f2 v5 v6 v7 v8 v9 x1 x2 x3 x4 x5 x6 cells slots L g H locs ls hik hM1 hM9 hBM hRc hRs h_dk h_pr h_pcs h_pc h_es h_nwh h_gl h_lf h_ra h_fa h_la hfr hP hD hS hl kk
    refine lv_iload_n hx hb dX9_digest_89 rfl (lv_at hl 0 rfl) ?_
    refine lv_aload_n hx hb dX9_digest_90 rfl (lv_at hl 2 rfl) ?_
    refine o_get (D := D) (ci := 10) (v := .int (nI gs)) (C := RX9) (T := TX9) (N := 12) hx hb hts inX9 hown hK hP h_dk rfl 11 (by decide) (hts _ k_440) (fun _ h9 => h9) rfl dX9_digest_91 ?_
    refine lv_icmp_gt (tgt := 110) hx hb dX9_digest_94 (by decide) (fun c_1 => ?_) (fun c_1 => ?_)
    · have c_1 := q_lt (a := gs) (b := gg) (by omega) (by omega) c_1
      have hBM9 : BM = M := hBM
      refine W.widen (k := cE) (n := sE) (by omega) (by omega) ?_
      exact kk _ ra fa la M f0 f1 f2 v5 v6 v7 v8 v9 x1 x2 x3 x4 x5 x6 _ _ H locs ls hBM9.symm h_dk h_pr h_pcs h_pc h_es h_nwh h_gl h_lf h_ra h_fa h_la hfr hP hD hS (lv_sub hl (l' := [(1, .long hh), (0, .ref dk)]) [1, 2] rfl)
    · have c_1 := q_nlt (a := gs) (b := gg) (by omega) (by omega) c_1
      exact False.elim (by omega)
  | succ k ih =>
    intro gg hh ra fa la M f0 f1 f2 v5 v6 v7 v8 v9 x1 x2 x3 x4 x5 x6 cells slots L g H locs ls hik hM1 hM9 hBM hRc hRs h_dk h_pr h_pcs h_pc h_es h_nwh h_gl h_lf h_ra h_fa h_la hfr hP hD hS hl kk
    refine lv_iload_n hx hb dX9_digest_89 rfl (lv_at hl 0 rfl) ?_
    refine lv_aload_n hx hb dX9_digest_90 rfl (lv_at hl 2 rfl) ?_
    refine o_get (D := D) (ci := 10) (v := .int (nI gs)) (C := RX9) (T := TX9) (N := 12) hx hb hts inX9 hown hK hP h_dk rfl 11 (by decide) (hts _ k_440) (fun _ h9 => h9) rfl dX9_digest_91 ?_
    refine lv_icmp_gt (tgt := 110) hx hb dX9_digest_94 (by decide) (fun c_1 => ?_) (fun c_1 => ?_)
    · have c_1 := q_lt (a := gs) (b := gg) (by omega) (by omega) c_1
      exact False.elim (by omega)
    · have c_1 := q_nlt (a := gs) (b := gg) (by omega) (by omega) c_1
      refine lv_aload_n hx hb dX9_digest_97 rfl (lv_at hl 2 rfl) ?_
      refine lv_lload_n hx hb dX9_digest_98 rfl (lv_at hl 1 rfl) ?_
      refine lv_iload_n hx hb dX9_digest_99 rfl (lv_at hl 0 rfl) ?_
      have hplm := h_pc.1
      have hfb1 := rg_first_le (fun t => (P.getD t d4).2.2.2) (gg + 1) pa.length 0
      obtain ⟨fi, efi⟩ : ∃ x, x = (rg_first (fun t => (P.getD t d4).2.2.2) gg pa.length 0) := ⟨_, rfl⟩
      obtain ⟨en, een⟩ : ∃ x, x = (rg_first (fun t => (P.getD t d4).2.2.2) (gg + 1) pa.length 0) := ⟨_, rfl⟩
      obtain ⟨B, eB⟩ : ∃ x, x = glx M 0 (gl_S EE P fi en mo) := ⟨_, rfl⟩
      have hgb := glx_b (fi := fi) (M := M) hQ (show en ≤ P.length by omega) hmo1 hmo hplm hM1
      rw [← eB] at hgb
      have hgg2 := hgr gg
      rw [← efi, ← een] at hgg2
      have hBge : M ≤ B := by rw [eB]; exact glx_ge _ _ _
      have hBM2 : BM = glG EE P pa.length mo k (gg + 1) B := by rw [hBM, eB, efi, een]; rfl
      have hBM3 : B ≤ BM := by rw [hBM2]; exact glG_ge _ _ _
      refine o_cl (k := cells + (3 * (B - M))) (n := slots + (6 * (B - M))) hK hP hD hS hA (o_rV (As := [.long hh, .int (nI gg)]) (rest := []) hf (d_dgg _ _ _ _ _ _ _ _ dk tp rd els reo nob bk sl pr pcs spr nwh cp pa ea P ne EE nb gl lf ra fa la v5 v6 v7 v8 v9 x1 x2 x3 x4 x5 x6 M f0 f1 f2 mo gg fi en B (nI gs) hh h_dk h_pr h_pcs h_pc h_es h_nwh h_gl h_lf h_ra h_fa h_la hpa hQ hSn hmo1 hmo (by omega) hGb efi een hgg2.1 hgg2.2 hM1 (by omega) eB _) k_1136 k_1133 k_1135 k_45 k_84 (nA := 2) (by decide +kernel) ⟨Nat.le_trans (by decide) hRf, Nat.le_trans (by decide) hRl⟩ hK hP hD hS hA hZ hN h_dk rfl rfl rfl hl.1 rfl (Nat.le_of_ble_eq_true rfl) dX9_digest_100 ⟨(show cells + (3 * (B - M)) ≤ R.cells by omega), (show slots + (6 * (B - M)) ≤ R.slots by omega)⟩) (by omega) (by omega) (fun r L g H locs hw hP hD hS => ?_)
      obtain ⟨S2, ra2, fa2, la2, M2, k0, k1, k2, w7, w8, w9, u1, u2, u3, u4, u5, u6, eS, hsh, hM3, hf9, h_gl, h_lf, h_ra, h_fa, h_la⟩ := hw
      have h_dk := h_dk.fr hf9 (by decide)
      have h_pr := h_pr.fr hf9 (by decide)
      have h_nwh := h_nwh.fr hf9 (by decide)
      have hfr := hfr.tr hf9
      have h_pcs := h_pcs.frd hf9 (by decide)
      have h_pc := h_pc.frd hf9 (by decide)
      have h_es := h_es.frd hf9 (by decide)
      refine lv_lstore_n (lv' := [(1, .long r), (3, .int (nI gg)), (0, .ref dk)]) hx hb dX9_digest_103 rfl hl (by decide) rfl (fun ls hl => ?_)
      refine lv_iinc (v := nI (gg + 1)) (lv' := [(3, .int (nI (gg + 1))), (1, .long r), (0, .ref dk)]) hx hb dX9_digest_104 hl (k := 1) rfl (nI_addE (a := gg) (b := 1) (by omega)) (by decide) rfl (fun ls hl => ?_)
      refine lv_goto (tgt := 89) hx hb dX9_digest_107 (by decide) ?_
      obtain ⟨hM4, hM5, hM6⟩ := hM3
      subst hM5
      refine W.widen (k := cells + 3 * (M2 - M)) (n := slots + 6 * (M2 - M)) (by omega) (by omega) ?_
      exact ih (gg + 1) _ ra2 fa2 la2 M2 k0 k1 k2 _ _ _ _ _ u1 u2 u3 u4 u5 u6 _ _ _ _ H locs ls (by omega) (by omega) (by omega) hBM2 (by omega) (by omega) h_dk h_pr h_pcs h_pc h_es h_nwh h_gl h_lf h_ra h_fa h_la hfr hP hD hS (lv_sub hl (l' := [(3, .int (nI (gg + 1))), (1, .long r), (0, .ref dk)]) [0, 1, 2] rfl) kk
set_option maxHeartbeats 1000000 in
set_option maxRecDepth 100000 in
theorem d_digL (l : Launch) (D : va_G) (z : Nat → Nat) (cB cI_ cO : ClassId) (L0 : List Nat) (g0 : hG) (dk tp rd els reo nob pr bk gl sl mo gs pcs spr nwh cp cap lf by_ n nb ra fa la M BM : Nat) (v5 v6 v7 v8 v9 x1 x2 x3 x4 x5 x6 : Int32) (pa xs : List Nat) (P : List Q4) (Es : List E5) (T f0 f1 f2 : Nat → Int32) (h_dk : ho L0 g0 dk 1 (.inr (10, [.ref tp, .ref rd, .ref els, .ref reo, .ref nob, .ref pr, .ref bk, .ref gl, .ref sl, .int (nI mo), .int 1, .int (nI gs)]))) (h_tp : ho L0 g0 tp 2 (.inr (9, [.ref by_, .int (nI n)]))) (h_by : ho L0 g0 by_ 3 (.inl (cB, 1200, .inl T))) (h_pr : ho L0 g0 pr 13 (.inr (7, [.ref pcs, .ref spr, .ref nwh]))) (h_pcs : alR cO (z 0) 14 15 L0 g0 pcs cp pa) (h_pc : pcR L0 g0 (fun e => xs.getD e 0) pa P) (h_els : alR cO (z 0) 5 6 L0 g0 els cap xs) (h_es : elsR cB cI_ L0 g0 xs Es) (h_nwh : ho L0 g0 nwh 19 (.inr (6, [.ref nb, .int 0, .int 0, .int 0]))) (h_gl : ho L0 g0 gl 25 (.inr (3, [.ref pr, .ref lf, .ref ra, .ref fa, .ref la, .int v5, .int v6, .int v7, .int v8, .int v9]))) (h_lf : ho L0 g0 lf 20 (.inr (4, [.ref pr, .int x1, .int x2, .int x3, .int x4, .int x5, .int x6]))) (h_ra : ho L0 g0 ra 26 (.inl (cI_, M, .inl f0))) (h_fa : ho L0 g0 fa 27 (.inl (cI_, M, .inl f1))) (h_la : ho L0 g0 la 28 (.inl (cI_, M, .inl f2))) (hxl : xs.length ≤ 60) (hpa : pa.length ≤ 20000) (hQ : pq_ok xs.length (fun e => Es.getD e dE) P) (hSn : qS P pa.length ≤ 8000) (hmo1 : 10 ≤ mo) (hmo : mo ≤ 40) (hgs : gs ≤ 10000) (hG : ∀ t, t < pa.length → (P.getD t d4).2.2.2 ≤ 30000) (hgr : grp_ok (fun e => Es.getD e dE) P pa.length) (hM1 : 1 ≤ M) (hM9 : M ≤ 20000) (hBM : BM = glG (fun e => Es.getD e dE) P pa.length mo gs 1 M) : eL l D yX9_digest cX9_digest 4 (some .long) 12 360 (3 * (BM - M)) (6 * (BM - M)) [.ref dk] z cB cI_ cO L0 g0 (fun r L g => ∃ (ra2 fa2 la2 : Nat) (k0 k1 k2 : Nat → Int32) (w5 w6 w7 w8 w9 u1 u2 u3 u4 u5 u6 : Int32), fr [20, 25, 26, 27, 28] L0 g0 L g ∧ ho L g gl 25 (.inr (3, [.ref pr, .ref lf, .ref ra2, .ref fa2, .ref la2, .int w5, .int w6, .int w7, .int w8, .int w9])) ∧ ho L g lf 20 (.inr (4, [.ref pr, .int u1, .int u2, .int u3, .int u4, .int u5, .int u6])) ∧ ho L g ra2 26 (.inl (cI_, BM, .inl k0)) ∧ ho L g fa2 27 (.inl (cI_, BM, .inl k1)) ∧ ho L g la2 28 (.inl (cI_, BM, .inl k2))) := by
  refine o_sl (by decide) (Nat.le_of_ble_eq_true rfl) ?_
  intro p e s m below meth c A ls hf hr hlocks hin hK hP hD hS hA hZ hN hl
  obtain ⟨hx, hb, hml, hown, hts⟩ := id hf
  have hl : lv_has ls 4 [(0, .ref dk)] := hl
  have hfr : fr [20, 25, 26, 27, 28] L0 g0 L0 g0 := fr.rf
  refine lv_ldc2 (v := 101) hx hb hown (hts _ k_1123) dX9_digest_0 ?_
  refine lv_lstore_n (lv' := [(1, .long 101), (0, .ref dk)]) hx hb dX9_digest_3 rfl hl (by decide) rfl (fun ls hl => ?_)
  refine lv_iconst (v := 0) hx hb dX9_digest_4 (by decide) ?_
  refine lv_istore_n (lv' := [(3, .int 0), (1, .long 101), (0, .ref dk)]) hx hb dX9_digest_5 rfl hl (by decide) rfl (fun ls hl => ?_)
  refine lv_iload_n hx hb dX9_digest_6 rfl (lv_at hl 0 rfl) ?_
  refine lv_iconst (v := 5) hx hb dX9_digest_7 (by decide) ?_
  refine lv_icmp_gt (tgt := 30) hx hb dX9_digest_8 (by decide) (fun hno => absurd hno (by decide)) (fun _ => ?_)
  refine lv_ldc2 (v := 31) hx hb hown (hts _ k_1124) dX9_digest_11 ?_
  refine lv_lload_n hx hb dX9_digest_14 rfl (lv_at hl 1 rfl) ?_
  refine lv_lmul hx hb dX9_digest_15 ?_
  refine q_setl (y := 3131) (by decide) ?_
  refine lv_aload_n hx hb dX9_digest_16 rfl (lv_at hl 2 rfl) ?_
  refine lv_iload_n hx hb dX9_digest_17 rfl (lv_at hl 0 rfl) ?_
  refine o_cis (k := 0) (n := 0) hK hP hD hS hA (o_rV (As := [.int 0]) (rest := [.long 3131]) hf (d_count _ _ _ _ _ _ _ _ dk tp rd els reo nob pr bk gl sl mo 1 (nI gs) cap xs Es by_ n T 0 h_dk h_els h_es h_tp h_by hxl _) k_1110 k_1125 k_1108 k_1109 k_84 (nA := 1) (by decide +kernel) ⟨Nat.le_of_ble_eq_true rfl, Nat.le_of_ble_eq_true rfl⟩ hK hP hD hS hA hZ hN h_dk rfl rfl rfl hl.1 rfl (Nat.le_of_ble_eq_true rfl) dX9_digest_18 ⟨(show 0 + 0 ≤ 3 * (BM - M) by omega), (show 0 + 0 ≤ 6 * (BM - M) by omega)⟩) (Nat.le_refl _) (Nat.le_refl _) (fun r H locs hw hP hD hS => ?_)
  obtain _ := hw
  refine lv_i2l (v := (r).toInt64) hx hb dX9_digest_21 rfl ?_
  refine lv_ladd hx hb dX9_digest_22 ?_
  refine lv_lstore_n (lv' := [(1, .long (3131 + (r).toInt64)), (3, .int 0), (0, .ref dk)]) hx hb dX9_digest_23 rfl hl (by decide) rfl (fun ls hl => ?_)
  obtain ⟨hh_1, ehh_1⟩ : ∃ x : Int64, x = (3131 + (r).toInt64) := ⟨_, rfl⟩
  rw [← ehh_1] at hl
  refine lv_iinc (v := 1) (lv' := [(3, .int 1), (1, .long hh_1), (0, .ref dk)]) hx hb dX9_digest_24 hl (k := 1) rfl (by decide) (by decide) rfl (fun ls hl => ?_)
  refine lv_goto (tgt := 6) hx hb dX9_digest_27 (by decide) ?_
  refine lv_iload_n hx hb dX9_digest_6 rfl (lv_at hl 0 rfl) ?_
  refine lv_iconst (v := 5) hx hb dX9_digest_7 (by decide) ?_
  refine lv_icmp_gt (tgt := 30) hx hb dX9_digest_8 (by decide) (fun hno => absurd hno (by decide)) (fun _ => ?_)
  refine lv_ldc2 (v := 31) hx hb hown (hts _ k_1124) dX9_digest_11 ?_
  refine lv_lload_n hx hb dX9_digest_14 rfl (lv_at hl 1 rfl) ?_
  refine lv_lmul hx hb dX9_digest_15 ?_
  refine lv_aload_n hx hb dX9_digest_16 rfl (lv_at hl 2 rfl) ?_
  refine lv_iload_n hx hb dX9_digest_17 rfl (lv_at hl 0 rfl) ?_
  refine o_cis (k := 0) (n := 0) hK hP hD hS hA (o_rV (As := [.int 1]) (rest := [.long (31 * hh_1)]) hf (d_count _ _ _ _ _ _ _ _ dk tp rd els reo nob pr bk gl sl mo 1 (nI gs) cap xs Es by_ n T 1 h_dk h_els h_es h_tp h_by hxl _) k_1110 k_1125 k_1108 k_1109 k_84 (nA := 1) (by decide +kernel) ⟨Nat.le_of_ble_eq_true rfl, Nat.le_of_ble_eq_true rfl⟩ hK hP hD hS hA hZ hN h_dk rfl rfl rfl hl.1 rfl (Nat.le_of_ble_eq_true rfl) dX9_digest_18 ⟨(show 0 + 0 ≤ 3 * (BM - M) by omega), (show 0 + 0 ≤ 6 * (BM - M) by omega)⟩) (Nat.le_refl _) (Nat.le_refl _) (fun r H locs hw hP hD hS => ?_)
  obtain _ := hw
  refine lv_i2l (v := (r).toInt64) hx hb dX9_digest_21 rfl ?_
  refine lv_ladd hx hb dX9_digest_22 ?_
  refine lv_lstore_n (lv' := [(1, .long ((31 * hh_1) + (r).toInt64)), (3, .int 1), (0, .ref dk)]) hx hb dX9_digest_23 rfl hl (by decide) rfl (fun ls hl => ?_)
  obtain ⟨hh_2, ehh_2⟩ : ∃ x : Int64, x = ((31 * hh_1) + (r).toInt64) := ⟨_, rfl⟩
  rw [← ehh_2] at hl
  refine lv_iinc (v := 2) (lv' := [(3, .int 2), (1, .long hh_2), (0, .ref dk)]) hx hb dX9_digest_24 hl (k := 1) rfl (by decide) (by decide) rfl (fun ls hl => ?_)
  refine lv_goto (tgt := 6) hx hb dX9_digest_27 (by decide) ?_
  refine lv_iload_n hx hb dX9_digest_6 rfl (lv_at hl 0 rfl) ?_
  refine lv_iconst (v := 5) hx hb dX9_digest_7 (by decide) ?_
  refine lv_icmp_gt (tgt := 30) hx hb dX9_digest_8 (by decide) (fun hno => absurd hno (by decide)) (fun _ => ?_)
  refine lv_ldc2 (v := 31) hx hb hown (hts _ k_1124) dX9_digest_11 ?_
  refine lv_lload_n hx hb dX9_digest_14 rfl (lv_at hl 1 rfl) ?_
  refine lv_lmul hx hb dX9_digest_15 ?_
  refine lv_aload_n hx hb dX9_digest_16 rfl (lv_at hl 2 rfl) ?_
  refine lv_iload_n hx hb dX9_digest_17 rfl (lv_at hl 0 rfl) ?_
  refine o_cis (k := 0) (n := 0) hK hP hD hS hA (o_rV (As := [.int 2]) (rest := [.long (31 * hh_2)]) hf (d_count _ _ _ _ _ _ _ _ dk tp rd els reo nob pr bk gl sl mo 1 (nI gs) cap xs Es by_ n T 2 h_dk h_els h_es h_tp h_by hxl _) k_1110 k_1125 k_1108 k_1109 k_84 (nA := 1) (by decide +kernel) ⟨Nat.le_of_ble_eq_true rfl, Nat.le_of_ble_eq_true rfl⟩ hK hP hD hS hA hZ hN h_dk rfl rfl rfl hl.1 rfl (Nat.le_of_ble_eq_true rfl) dX9_digest_18 ⟨(show 0 + 0 ≤ 3 * (BM - M) by omega), (show 0 + 0 ≤ 6 * (BM - M) by omega)⟩) (Nat.le_refl _) (Nat.le_refl _) (fun r H locs hw hP hD hS => ?_)
  obtain _ := hw
  refine lv_i2l (v := (r).toInt64) hx hb dX9_digest_21 rfl ?_
  refine lv_ladd hx hb dX9_digest_22 ?_
  refine lv_lstore_n (lv' := [(1, .long ((31 * hh_2) + (r).toInt64)), (3, .int 2), (0, .ref dk)]) hx hb dX9_digest_23 rfl hl (by decide) rfl (fun ls hl => ?_)
  obtain ⟨hh_3, ehh_3⟩ : ∃ x : Int64, x = ((31 * hh_2) + (r).toInt64) := ⟨_, rfl⟩
  rw [← ehh_3] at hl
  refine lv_iinc (v := 3) (lv' := [(3, .int 3), (1, .long hh_3), (0, .ref dk)]) hx hb dX9_digest_24 hl (k := 1) rfl (by decide) (by decide) rfl (fun ls hl => ?_)
  refine lv_goto (tgt := 6) hx hb dX9_digest_27 (by decide) ?_
  refine lv_iload_n hx hb dX9_digest_6 rfl (lv_at hl 0 rfl) ?_
  refine lv_iconst (v := 5) hx hb dX9_digest_7 (by decide) ?_
  refine lv_icmp_gt (tgt := 30) hx hb dX9_digest_8 (by decide) (fun hno => absurd hno (by decide)) (fun _ => ?_)
  refine lv_ldc2 (v := 31) hx hb hown (hts _ k_1124) dX9_digest_11 ?_
  refine lv_lload_n hx hb dX9_digest_14 rfl (lv_at hl 1 rfl) ?_
  refine lv_lmul hx hb dX9_digest_15 ?_
  refine lv_aload_n hx hb dX9_digest_16 rfl (lv_at hl 2 rfl) ?_
  refine lv_iload_n hx hb dX9_digest_17 rfl (lv_at hl 0 rfl) ?_
  refine o_cis (k := 0) (n := 0) hK hP hD hS hA (o_rV (As := [.int 3]) (rest := [.long (31 * hh_3)]) hf (d_count _ _ _ _ _ _ _ _ dk tp rd els reo nob pr bk gl sl mo 1 (nI gs) cap xs Es by_ n T 3 h_dk h_els h_es h_tp h_by hxl _) k_1110 k_1125 k_1108 k_1109 k_84 (nA := 1) (by decide +kernel) ⟨Nat.le_of_ble_eq_true rfl, Nat.le_of_ble_eq_true rfl⟩ hK hP hD hS hA hZ hN h_dk rfl rfl rfl hl.1 rfl (Nat.le_of_ble_eq_true rfl) dX9_digest_18 ⟨(show 0 + 0 ≤ 3 * (BM - M) by omega), (show 0 + 0 ≤ 6 * (BM - M) by omega)⟩) (Nat.le_refl _) (Nat.le_refl _) (fun r H locs hw hP hD hS => ?_)
  obtain _ := hw
  refine lv_i2l (v := (r).toInt64) hx hb dX9_digest_21 rfl ?_
  refine lv_ladd hx hb dX9_digest_22 ?_
  refine lv_lstore_n (lv' := [(1, .long ((31 * hh_3) + (r).toInt64)), (3, .int 3), (0, .ref dk)]) hx hb dX9_digest_23 rfl hl (by decide) rfl (fun ls hl => ?_)
  obtain ⟨hh_4, ehh_4⟩ : ∃ x : Int64, x = ((31 * hh_3) + (r).toInt64) := ⟨_, rfl⟩
  rw [← ehh_4] at hl
  refine lv_iinc (v := 4) (lv' := [(3, .int 4), (1, .long hh_4), (0, .ref dk)]) hx hb dX9_digest_24 hl (k := 1) rfl (by decide) (by decide) rfl (fun ls hl => ?_)
  refine lv_goto (tgt := 6) hx hb dX9_digest_27 (by decide) ?_
  refine lv_iload_n hx hb dX9_digest_6 rfl (lv_at hl 0 rfl) ?_
  refine lv_iconst (v := 5) hx hb dX9_digest_7 (by decide) ?_
  refine lv_icmp_gt (tgt := 30) hx hb dX9_digest_8 (by decide) (fun hno => absurd hno (by decide)) (fun _ => ?_)
  refine lv_ldc2 (v := 31) hx hb hown (hts _ k_1124) dX9_digest_11 ?_
  refine lv_lload_n hx hb dX9_digest_14 rfl (lv_at hl 1 rfl) ?_
  refine lv_lmul hx hb dX9_digest_15 ?_
  refine lv_aload_n hx hb dX9_digest_16 rfl (lv_at hl 2 rfl) ?_
  refine lv_iload_n hx hb dX9_digest_17 rfl (lv_at hl 0 rfl) ?_
  refine o_cis (k := 0) (n := 0) hK hP hD hS hA (o_rV (As := [.int 4]) (rest := [.long (31 * hh_4)]) hf (d_count _ _ _ _ _ _ _ _ dk tp rd els reo nob pr bk gl sl mo 1 (nI gs) cap xs Es by_ n T 4 h_dk h_els h_es h_tp h_by hxl _) k_1110 k_1125 k_1108 k_1109 k_84 (nA := 1) (by decide +kernel) ⟨Nat.le_of_ble_eq_true rfl, Nat.le_of_ble_eq_true rfl⟩ hK hP hD hS hA hZ hN h_dk rfl rfl rfl hl.1 rfl (Nat.le_of_ble_eq_true rfl) dX9_digest_18 ⟨(show 0 + 0 ≤ 3 * (BM - M) by omega), (show 0 + 0 ≤ 6 * (BM - M) by omega)⟩) (Nat.le_refl _) (Nat.le_refl _) (fun r H locs hw hP hD hS => ?_)
  obtain _ := hw
  refine lv_i2l (v := (r).toInt64) hx hb dX9_digest_21 rfl ?_
  refine lv_ladd hx hb dX9_digest_22 ?_
  refine lv_lstore_n (lv' := [(1, .long ((31 * hh_4) + (r).toInt64)), (3, .int 4), (0, .ref dk)]) hx hb dX9_digest_23 rfl hl (by decide) rfl (fun ls hl => ?_)
  obtain ⟨hh_5, ehh_5⟩ : ∃ x : Int64, x = ((31 * hh_4) + (r).toInt64) := ⟨_, rfl⟩
  rw [← ehh_5] at hl
  refine lv_iinc (v := 5) (lv' := [(3, .int 5), (1, .long hh_5), (0, .ref dk)]) hx hb dX9_digest_24 hl (k := 1) rfl (by decide) (by decide) rfl (fun ls hl => ?_)
  refine lv_goto (tgt := 6) hx hb dX9_digest_27 (by decide) ?_
  refine lv_iload_n hx hb dX9_digest_6 rfl (lv_at hl 0 rfl) ?_
  refine lv_iconst (v := 5) hx hb dX9_digest_7 (by decide) ?_
  refine lv_icmp_gt (tgt := 30) hx hb dX9_digest_8 (by decide) (fun hno => absurd hno (by decide)) (fun _ => ?_)
  refine lv_ldc2 (v := 31) hx hb hown (hts _ k_1124) dX9_digest_11 ?_
  refine lv_lload_n hx hb dX9_digest_14 rfl (lv_at hl 1 rfl) ?_
  refine lv_lmul hx hb dX9_digest_15 ?_
  refine lv_aload_n hx hb dX9_digest_16 rfl (lv_at hl 2 rfl) ?_
  refine lv_iload_n hx hb dX9_digest_17 rfl (lv_at hl 0 rfl) ?_
  refine o_cis (k := 0) (n := 0) hK hP hD hS hA (o_rV (As := [.int 5]) (rest := [.long (31 * hh_5)]) hf (d_count _ _ _ _ _ _ _ _ dk tp rd els reo nob pr bk gl sl mo 1 (nI gs) cap xs Es by_ n T 5 h_dk h_els h_es h_tp h_by hxl _) k_1110 k_1125 k_1108 k_1109 k_84 (nA := 1) (by decide +kernel) ⟨Nat.le_of_ble_eq_true rfl, Nat.le_of_ble_eq_true rfl⟩ hK hP hD hS hA hZ hN h_dk rfl rfl rfl hl.1 rfl (Nat.le_of_ble_eq_true rfl) dX9_digest_18 ⟨(show 0 + 0 ≤ 3 * (BM - M) by omega), (show 0 + 0 ≤ 6 * (BM - M) by omega)⟩) (Nat.le_refl _) (Nat.le_refl _) (fun r H locs hw hP hD hS => ?_)
  obtain _ := hw
  refine lv_i2l (v := (r).toInt64) hx hb dX9_digest_21 rfl ?_
  refine lv_ladd hx hb dX9_digest_22 ?_
  refine lv_lstore_n (lv' := [(1, .long ((31 * hh_5) + (r).toInt64)), (3, .int 5), (0, .ref dk)]) hx hb dX9_digest_23 rfl hl (by decide) rfl (fun ls hl => ?_)
  obtain ⟨hh_6, ehh_6⟩ : ∃ x : Int64, x = ((31 * hh_5) + (r).toInt64) := ⟨_, rfl⟩
  rw [← ehh_6] at hl
  refine lv_iinc (v := 6) (lv' := [(3, .int 6), (1, .long hh_6), (0, .ref dk)]) hx hb dX9_digest_24 hl (k := 1) rfl (by decide) (by decide) rfl (fun ls hl => ?_)
  refine lv_goto (tgt := 6) hx hb dX9_digest_27 (by decide) ?_
  refine lv_iload_n hx hb dX9_digest_6 rfl (lv_at hl 0 rfl) ?_
  refine lv_iconst (v := 5) hx hb dX9_digest_7 (by decide) ?_
  refine lv_icmp_gt (tgt := 30) hx hb dX9_digest_8 (by decide) (fun _ => ?_) (fun hno => absurd hno (by decide))
  refine lv_iconst (v := 0) hx hb dX9_digest_30 (by decide) ?_
  refine lv_istore_n (lv' := [(3, .int 0), (1, .long hh_6), (0, .ref dk)]) hx hb dX9_digest_31 rfl hl (by decide) rfl (fun ls hl => ?_)
  refine dz_e  h_dk h_els h_es hxl (Nat.le_of_ble_eq_true rfl) (Nat.le_of_ble_eq_true rfl) (show 0 ≤ 3 * (BM - M) by omega) (show 0 ≤ 6 * (BM - M) by omega) hA hf hK hZ hN xs.length 0 _ _ _ ls (by omega) hP hD hS (lv_sub hl (l' := [(3, .int 0), (1, .long hh_6), (0, .ref dk)]) [0, 1, 2] rfl) ?_
  · intro hh H locs ls hP hD hS hl
    refine lv_ldc2 (v := 31) hx hb hown (hts _ k_1124) dX9_digest_56 ?_
    refine lv_lload_n hx hb dX9_digest_59 rfl (lv_at hl 0 rfl) ?_
    refine lv_lmul hx hb dX9_digest_60 ?_
    refine lv_aload_n hx hb dX9_digest_61 rfl (lv_at hl 1 rfl) ?_
    refine o_cis (k := 0) (n := 0) hK hP hD hS hA (o_rV (As := []) (rest := [.long (31 * hh)]) hf (d_pagesL _ _ _ _ _ _ _ _ dk tp rd els reo nob pr bk gl sl mo gs h_dk _) k_761 k_1131 k_759 k_760 k_84 (nA := 0) (by decide +kernel) ⟨Nat.le_of_ble_eq_true rfl, Nat.le_of_ble_eq_true rfl⟩ hK hP hD hS hA hZ hN h_dk rfl rfl rfl hl.1 rfl (Nat.le_of_ble_eq_true rfl) dX9_digest_62 ⟨(show 0 + 0 ≤ 3 * (BM - M) by omega), (show 0 + 0 ≤ 6 * (BM - M) by omega)⟩) (Nat.le_refl _) (Nat.le_refl _) (fun r H locs hw hP hD hS => ?_)
    obtain rfl := hw
    refine lv_i2l (v := ((nI gs)).toInt64) hx hb dX9_digest_65 rfl ?_
    refine lv_ladd hx hb dX9_digest_66 ?_
    refine lv_lstore_n (lv' := [(1, .long ((31 * hh) + ((nI gs)).toInt64)), (0, .ref dk)]) hx hb dX9_digest_67 rfl hl (by decide) rfl (fun ls hl => ?_)
    obtain ⟨hh_7, ehh_7⟩ : ∃ x : Int64, x = ((31 * hh) + ((nI gs)).toInt64) := ⟨_, rfl⟩
    rw [← ehh_7] at hl
    refine lv_aload_n hx hb dX9_digest_68 rfl (lv_at hl 1 rfl) ?_
    refine o_get (D := D) (ci := 10) (v := .int 1) (C := RX9) (T := TX9) (N := 12) hx hb hts inX9 hown hK hP h_dk rfl 10 (by decide) (hts _ k_439) (fun _ h9 => h9) rfl dX9_digest_69 ?_
    refine lv_if_ne (tgt := 87) hx hb dX9_digest_72 (by decide) (fun _ => ?_) (fun hno => absurd hno (by decide))
    refine lv_iconst (v := 1) hx hb dX9_digest_87 (by decide) ?_
    refine lv_istore_n (lv' := [(3, .int 1), (1, .long hh_7), (0, .ref dk)]) hx hb dX9_digest_88 rfl hl (by decide) rfl (fun ls hl => ?_)
    refine dz_g (L0 := L0) (g0 := g0) (EE := (fun e => Es.getD e dE)) (ne := xs.length) (BM := BM) (cE := 3 * (BM - M)) (sE := 6 * (BM - M)) hpa hQ hSn hmo1 hmo hgs hG hgr (Nat.le_refl _) (Nat.le_refl _) (Nat.le_of_ble_eq_true rfl) (Nat.le_of_ble_eq_true rfl) hA hf hK hZ hN gs 1 _ ra fa la M f0 f1 f2 v5 v6 v7 v8 v9 x1 x2 x3 x4 x5 x6 0 0 _ _ _ _ ls (by omega) hM1 hM9 hBM (by omega) (by omega) h_dk h_pr h_pcs h_pc h_es.2.2 h_nwh h_gl h_lf h_ra h_fa h_la hfr hP hD hS (lv_sub hl (l' := [(3, .int 1), (1, .long hh_7), (0, .ref dk)]) [0, 1, 2] rfl) (fun hh ra2 fa2 la2 M2 k0 k1 k2 w5 w6 w7 w8 w9 u1 u2 u3 u4 u5 u6 L g H locs ls eM h_dk h_pr h_pcs h_pc h_es9 h_nwh h_gl h_lf h_ra h_fa h_la hfr hP hD hS hl => ?_)
    refine lv_lload_n hx hb dX9_digest_110 rfl (lv_at hl 0 rfl) ?_
    rw [eM] at h_ra h_fa h_la
    exact o_rl hf hr hlocks hK hP hD hS (show 3 * (BM - M) ≤ 3 * (BM - M) by omega) (show 6 * (BM - M) ≤ 6 * (BM - M) by omega) ⟨ra2, fa2, la2, k0, k1, k2, w5, w6, w7, w8, w9, u1, u2, u3, u4, u5, u6, hfr, h_gl, h_lf, h_ra, h_fa, h_la⟩ dX9_digest_111
