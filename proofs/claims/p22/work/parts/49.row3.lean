/-- q at place i -/
def lsJ (P : List Q4) (i : Nat) (q : Q4) : List Q4 := P.take i ++ q :: P.drop i
theorem lsJ_len {P : List Q4} {i : Nat} {q : Q4} (h : i ≤ P.length) : (lsJ P i q).length = P.length + 1 := by
  unfold lsJ
  rw [List.length_append, List.length_cons, List.length_take, List.length_drop]
  omega
theorem lsJ_at {P : List Q4} {i : Nat} {q : Q4} (h : i ≤ P.length) (j : Nat) : (lsJ P i q).getD j d4 = if j < i then P.getD j d4 else if j = i then q else P.getD (j - 1) d4 := by
  unfold lsJ
  have hl : (P.take i).length = i := by rw [List.length_take]; omega
  simp only [List.getD_eq_getElem?_getD]
  by_cases c : j < i
  · rw [if_pos c, List.getElem?_append_left (by omega), List.getElem?_take_of_lt c]
  · rw [if_neg c, List.getElem?_append_right (by omega), hl]
    by_cases c2 : j = i
    · rw [if_pos c2, show j - i = 0 by omega]; rfl
    · rw [if_neg c2, show j - i = (j - 1 - i) + 1 by omega, List.getElem?_cons_succ, List.getElem?_drop, show i + (j - 1 - i) = j - 1 by omega]
theorem pcR_ins {L : List Nat} {g : hG} {ea : Nat → Nat} {pa : List Nat} {P : List Q4} {i x e a b c : Nat} (h : pcR L g ea pa P) (hi : i ≤ pa.length) (hx : ho L g x 18 (.inr (6, [.ref (ea e), .int (nI a), .int (nI b), .int (nI c)]))) : pcR L g ea (lsI pa i x) (lsJ P i (e, a, b, c)) := by
  have hl := h.1
  refine ⟨by rw [lsI_len hi, lsJ_len (by omega), hl], fun j hj => ?_⟩
  rw [lsI_len hi] at hj
  rw [lsI_at hi, lsJ_at (by omega)]
  by_cases c1 : j < i
  · rw [if_pos c1, if_pos c1]; exact h.2 j (by omega)
  · rw [if_neg c1, if_neg c1]
    by_cases c2 : j = i
    · rw [if_pos c2, if_pos c2]; exact hx
    · rw [if_neg c2, if_neg c2]; exact h.2 (j - 1) (by omega)
theorem ls_er4 {P : List Q4} {i : Nat} (h : i < P.length) (j : Nat) : (P.eraseIdx i).length = P.length - 1 ∧ (P.eraseIdx i).getD j d4 = if j < i then P.getD j d4 else P.getD (j + 1) d4 := by
  refine ⟨by rw [List.length_eraseIdx, if_pos h], ?_⟩
  simp only [List.getD_eq_getElem?_getD]
  rw [List.getElem?_eraseIdx]
  by_cases c : j < i
  · rw [if_pos c, if_pos c]
  · rw [if_neg c, if_neg c]
theorem pcR_rm {L : List Nat} {g : hG} {ea : Nat → Nat} {pa : List Nat} {P : List Q4} {i : Nat} (h : pcR L g ea pa P) (hi : i < pa.length) : pcR L g ea (pa.eraseIdx i) (P.eraseIdx i) := by
  have hl := h.1
  refine ⟨by rw [(ls_er hi 0).1, (ls_er4 (P := P) (show i < P.length by omega) 0).1, hl], fun j hj => ?_⟩
  rw [(ls_er hi 0).1] at hj
  rw [(ls_er hi j).2, (ls_er4 (show i < P.length by omega) j).2]
  by_cases c : j < i
  · rw [if_pos c, if_pos c]; exact h.2 j (by omega)
  · rw [if_neg c, if_neg c]; exact h.2 (j + 1) (by omega)
theorem pcR.un {L : List Nat} {g g1 : hG} {ea : Nat → Nat} {pa : List Nat} {P : List Q4} {x t : Nat} (h : pcR L g ea pa P) (hu : up1 g x t g1) (hx : x ∉ pa) : pcR L g1 ea pa P := ⟨h.1, fun i hi => (h.2 i hi).un hu (fun e => hx (e ▸ ls_mem hi))⟩
theorem spR.un {L : List Nat} {g g1 : hG} {sa : List Nat} {x t : Nat} (h : spR L g sa) (hu : up1 g x t g1) (hx : x ∉ sa) : spR L g1 sa := fun y hy => by
  obtain ⟨v0, v1, v2, v3, h9⟩ := h y hy
  exact ⟨v0, v1, v2, v3, h9.un hu (fun e => hx (e ▸ hy))⟩
theorem spR.sub {L : List Nat} {g : hG} {sa sb : List Nat} (h : spR L g sa) (hs : ∀ y, y ∈ sb → y ∈ sa) : spR L g sb := fun y hy => h y (hs y hy)
def pnew (sa : List Nat) : Nat := if sa.length = 0 then 1 else 0
theorem lsI_perm {pa : List Nat} {i x : Nat} : List.Perm (lsI pa i x) (x :: pa) := by
  unfold lsI
  refine List.perm_middle.trans ?_
  rw [List.take_append_drop]
theorem nodup_in {pa sa : List Nat} {i x : Nat} (h : (pa ++ sa).Nodup) (hx : x ∉ pa ∧ x ∉ sa) : (lsI pa i x ++ sa).Nodup := by
  refine (lsI_perm.append_right sa).nodup_iff.mpr ?_
  rw [List.cons_append]
  exact List.nodup_cons.mpr ⟨fun z => (List.mem_append.mp z).elim hx.1 hx.2, h⟩
/-- the last spare piece -/
theorem sp_last {pa sa : List Nat} (h : (pa ++ sa).Nodup) (hs : 0 < sa.length) : sa.getD (sa.length - 1) 0 ∈ sa ∧ sa.getD (sa.length - 1) 0 ∉ pa ∧ sa.getD (sa.length - 1) 0 ∉ sa.eraseIdx (sa.length - 1) ∧ (pa ++ sa.eraseIdx (sa.length - 1)).Nodup ∧ (∀ y, y ∈ sa.eraseIdx (sa.length - 1) → y ∈ sa) ∧ (sa.eraseIdx (sa.length - 1)).length + 1 = sa.length := by
  have hi : sa.length - 1 < sa.length := by omega
  have hp := er_perm hi
  have hn := (hp.append_left pa).nodup_iff.mp h
  have hn2 := List.nodup_append.mp hn
  have hn3 := List.nodup_cons.mp hn2.2.1
  refine ⟨ls_mem hi, fun w => hn2.2.2 _ w _ List.mem_cons_self rfl, hn3.1, ?_, fun y hy => hp.symm.subset (List.mem_cons_of_mem _ hy), ?_⟩
  · exact List.nodup_append.mpr ⟨hn2.1, hn3.2, fun a ha b hb => hn2.2.2 a ha b (List.mem_cons_of_mem _ hb)⟩
  · rw [(ls_er hi 0).1]; omega
abbrev cX5_init : ByteArray := prog_7_method_1_code
def yX5_init : MethodName := ⟨RX5, "<init>", "(LScriptDesk$Element;)V"⟩
abbrev cX6_put : ByteArray := prog_8_method_5_code
def yX6_put : MethodName := ⟨RX6, "put", "(ILScriptDesk$Element;III)V"⟩
theorem k_93 : (Cond.initialized RX5) ∈ gT := gT_i 93 (by decide +kernel) rfl
theorem k_271 : (Cond.instantiable RX5 4) ∈ gT := gT_i 271 (by decide +kernel) rfl
theorem k_272 : (Cond.methodLink RX6 23 yX5_init) ∈ gT := gT_i 272 (by decide +kernel) rfl
theorem k_273 : (Cond.instanceMethod yX5_init) ∈ gT := gT_i 273 (by decide +kernel) rfl
theorem k_274 : (Cond.code yX5_init cX5_init 2 none) ∈ gT := gT_i 274 (by decide +kernel) rfl
theorem k_275 : (Cond.methodLink RX5 1 objectInit) ∈ gT := gT_i 275 (by decide +kernel) rfl
theorem k_276 : (Cond.fieldLink RX5 7 "ScriptDesk$Piece" "element" "LScriptDesk$Element;") ∈ gT := gT_i 276 (by decide +kernel) rfl
theorem k_279 : (Cond.fieldLink RX6 52 "ScriptDesk$Piece" "element" "LScriptDesk$Element;") ∈ gT := gT_i 279 (by decide +kernel) rfl
theorem k_287 : (Cond.fieldLink RX6 56 "ScriptDesk$Piece" "from" "I") ∈ gT := gT_i 287 (by decide +kernel) rfl
theorem k_292 : (Cond.fieldLink RX6 60 "ScriptDesk$Piece" "to" "I") ∈ gT := gT_i 292 (by decide +kernel) rfl
theorem k_293 : (Cond.fieldLink RX6 63 "ScriptDesk$Piece" "group" "I") ∈ gT := gT_i 293 (by decide +kernel) rfl
theorem k_700 : (Cond.methodLink RX6 45 yJx4a65c_isEmpty_aae02) ∈ gT := gT_i 700 (by decide +kernel) rfl
theorem k_701 : (Cond.instanceMethod yJx4a65c_isEmpty_aae02) ∈ gT := gT_i 701 (by decide +kernel) rfl
theorem k_702 : (Cond.selects RJx4a65c yJx4a65c_isEmpty_aae02 yJx4a65c_isEmpty_aae02) ∈ gT := gT_i 702 (by decide +kernel) rfl
theorem k_703 : (Cond.code yJx4a65c_isEmpty_aae02 cJx4a65c_isEmpty_aae02 1 (some .boolean)) ∈ gT := gT_i 703 (by decide +kernel) rfl
theorem k_704 : (Cond.methodLink RX6 49 yJx4a65c_remove_915e3) ∈ gT := gT_i 704 (by decide +kernel) rfl
theorem k_705 : (Cond.instanceMethod yJx4a65c_remove_915e3) ∈ gT := gT_i 705 (by decide +kernel) rfl
theorem k_706 : (Cond.selects RJx4a65c yJx4a65c_remove_915e3 yJx4a65c_remove_915e3) ∈ gT := gT_i 706 (by decide +kernel) rfl
theorem k_707 : (Cond.code yJx4a65c_remove_915e3 cJx4a65c_remove_915e3 4 (some (.object "java/lang/Object"))) ∈ gT := gT_i 707 (by decide +kernel) rfl
theorem k_713 : (Cond.methodLink RX6 66 yJx4a65c_add_7a177) ∈ gT := gT_i 713 (by decide +kernel) rfl
theorem k_714 : (Cond.instanceMethod yJx4a65c_add_7a177) ∈ gT := gT_i 714 (by decide +kernel) rfl
theorem k_715 : (Cond.selects RJx4a65c yJx4a65c_add_7a177 yJx4a65c_add_7a177) ∈ gT := gT_i 715 (by decide +kernel) rfl
theorem k_716 : (Cond.code yJx4a65c_add_7a177 cJx4a65c_add_7a177 5 none) ∈ gT := gT_i 716 (by decide +kernel) rfl
theorem dX5_init_0 : decode cX5_init 0 = .ok (.aload_n 0, 1) := by decide +kernel
theorem dX5_init_1 : decode cX5_init 1 = .ok (.invokespecial 1, 3) := by decide +kernel
theorem dX5_init_4 : decode cX5_init 4 = .ok (.aload_n 0, 1) := by decide +kernel
theorem dX5_init_5 : decode cX5_init 5 = .ok (.aload_n 1, 1) := by decide +kernel
theorem dX5_init_6 : decode cX5_init 6 = .ok (.putfield 7, 3) := by decide +kernel
theorem dX5_init_9 : decode cX5_init 9 = .ok (.return_, 1) := by decide +kernel
theorem dX6_put_0 : decode cX6_put 0 = .ok (.iload_n 1, 1) := by decide +kernel
theorem dX6_put_1 : decode cX6_put 1 = .ok (.ifCond .lt 14, 3) := by decide +kernel
theorem dX6_put_4 : decode cX6_put 4 = .ok (.iload_n 1, 1) := by decide +kernel
theorem dX6_put_5 : decode cX6_put 5 = .ok (.aload_n 0, 1) := by decide +kernel
theorem dX6_put_6 : decode cX6_put 6 = .ok (.getfield 12, 3) := by decide +kernel
theorem dX6_put_9 : decode cX6_put 9 = .ok (.invokevirtual 30, 3) := by decide +kernel
theorem dX6_put_12 : decode cX6_put 12 = .ok (.if_icmp .le 4, 3) := by decide +kernel
theorem dX6_put_16 : decode cX6_put 16 = .ok (.aload_n 0, 1) := by decide +kernel
theorem dX6_put_17 : decode cX6_put 17 = .ok (.getfield 18, 3) := by decide +kernel
theorem dX6_put_20 : decode cX6_put 20 = .ok (.invokevirtual 45, 3) := by decide +kernel
theorem dX6_put_23 : decode cX6_put 23 = .ok (.ifCond .eq 14, 3) := by decide +kernel
theorem dX6_put_26 : decode cX6_put 26 = .ok (.new 21, 3) := by decide +kernel
theorem dX6_put_29 : decode cX6_put 29 = .ok (.dup, 1) := by decide +kernel
theorem dX6_put_30 : decode cX6_put 30 = .ok (.aload_n 2, 1) := by decide +kernel
theorem dX6_put_31 : decode cX6_put 31 = .ok (.invokespecial 23, 3) := by decide +kernel
theorem dX6_put_34 : decode cX6_put 34 = .ok (.goto 22, 3) := by decide +kernel
theorem dX6_put_56 : decode cX6_put 56 = .ok (.astore 6, 2) := by decide +kernel
theorem dX6_put_58 : decode cX6_put 58 = .ok (.aload 6, 2) := by decide +kernel
theorem dX6_put_60 : decode cX6_put 60 = .ok (.aload_n 2, 1) := by decide +kernel
theorem dX6_put_61 : decode cX6_put 61 = .ok (.putfield 52, 3) := by decide +kernel
theorem dX6_put_64 : decode cX6_put 64 = .ok (.aload 6, 2) := by decide +kernel
theorem dX6_put_66 : decode cX6_put 66 = .ok (.iload_n 3, 1) := by decide +kernel
theorem dX6_put_67 : decode cX6_put 67 = .ok (.putfield 56, 3) := by decide +kernel
theorem dX6_put_70 : decode cX6_put 70 = .ok (.aload 6, 2) := by decide +kernel
theorem dX6_put_72 : decode cX6_put 72 = .ok (.iload 4, 2) := by decide +kernel
theorem dX6_put_74 : decode cX6_put 74 = .ok (.putfield 60, 3) := by decide +kernel
theorem dX6_put_77 : decode cX6_put 77 = .ok (.aload 6, 2) := by decide +kernel
theorem dX6_put_79 : decode cX6_put 79 = .ok (.iload 5, 2) := by decide +kernel
theorem dX6_put_81 : decode cX6_put 81 = .ok (.putfield 63, 3) := by decide +kernel
theorem dX6_put_84 : decode cX6_put 84 = .ok (.aload_n 0, 1) := by decide +kernel
theorem dX6_put_85 : decode cX6_put 85 = .ok (.getfield 12, 3) := by decide +kernel
theorem dX6_put_88 : decode cX6_put 88 = .ok (.iload_n 1, 1) := by decide +kernel
theorem dX6_put_89 : decode cX6_put 89 = .ok (.aload 6, 2) := by decide +kernel
theorem dX6_put_91 : decode cX6_put 91 = .ok (.invokevirtual 66, 3) := by decide +kernel
theorem dX6_put_94 : decode cX6_put 94 = .ok (.return_, 1) := by decide +kernel
theorem dX6_put_37 : decode cX6_put 37 = .ok (.aload_n 0, 1) := by decide +kernel
theorem dX6_put_38 : decode cX6_put 38 = .ok (.getfield 18, 3) := by decide +kernel
theorem dX6_put_41 : decode cX6_put 41 = .ok (.aload_n 0, 1) := by decide +kernel
theorem dX6_put_42 : decode cX6_put 42 = .ok (.getfield 18, 3) := by decide +kernel
theorem dX6_put_45 : decode cX6_put 45 = .ok (.invokevirtual 30, 3) := by decide +kernel
theorem dX6_put_48 : decode cX6_put 48 = .ok (.iconst 1, 1) := by decide +kernel
theorem dX6_put_49 : decode cX6_put 49 = .ok (.isub, 1) := by decide +kernel
theorem dX6_put_50 : decode cX6_put 50 = .ok (.invokevirtual 49, 3) := by decide +kernel
theorem dX6_put_53 : decode cX6_put 53 = .ok (.checkcast 21, 3) := by decide +kernel
set_option maxHeartbeats 1000000 in
set_option maxRecDepth 100000 in
theorem p_init (l : Launch) (D : va_G) (z : Nat → Nat) (cB cI_ cO : ClassId) (L0 : List Nat) (g0 : hG) (np el : Nat) (h_np : ho L0 g0 np 18 (.inr (6, [.null, .int 0, .int 0, .int 0])))  : eV l D yX5_init cX5_init 2 none 1 12 0 0 [.ref np, .ref el] z cB cI_ cO L0 g0 (fun L g => up1 g0 np 18 g ∧ L0 = L ∧ ho L g np 18 (.inr (6, [.ref el, .int 0, .int 0, .int 0]))) := by
  refine o_sv (by decide) (Nat.le_of_ble_eq_true rfl) ?_
  intro p e s m below meth c A ls hf hr hlocks hin hK hP hD hS hA hZ hN hl
  obtain ⟨hx, hb, hml, hown, hts⟩ := id hf
  have hl : lv_has ls 2 [(0, .ref np), (1, .ref el)] := hl
  refine lv_aload_n hx hb dX5_init_0 rfl (lv_at hl 0 rfl) ?_
  refine W.objInit hx hb hown (hts _ k_275) (hts _ k_113) (hts _ k_114) rfl (by rw [hml]; exact hl.1) rfl dX5_init_1 (Nat.le_of_ble_eq_true rfl) (Nat.le_of_ble_eq_true rfl) ?_
  refine q_eq (pc := 4) (st := []) rfl ?_
  refine lv_aload_n hx hb dX5_init_4 rfl (lv_at hl 0 rfl) ?_
  refine lv_aload_n hx hb dX5_init_5 rfl (lv_at hl 1 rfl) ?_
  refine o_put (D := D) (ci := 6) (v := .ref el) (ty := .object "ScriptDesk$Element") (C := RX5) (T := TX5) (N := 4) (fs1 := [.ref el, .int 0, .int 0, .int 0]) hx hb hts inX5 tyX5 tyX5_ok nmX5 hown hK hP hD hS h_np rfl 0 (by decide) (hts _ k_276) (fun _ h9 => h9) rfl (by decide +kernel) rfl rfl (Nat.le_of_ble_eq_true rfl) rfl dX5_init_6 (fun g H locs h_np hu hP hD hS => ?_)
  exact o_rv hf hr hlocks hK hP hD hS (show 0 ≤ 0 by omega) (show 0 ≤ 0 by omega) ⟨hu, rfl, h_np⟩ dX5_init_9
set_option maxHeartbeats 1000000 in
set_option maxRecDepth 100000 in
theorem p_put (l : Launch) (D : va_G) (z : Nat → Nat) (cB cI_ cO : ClassId) (L0 : List Nat) (g0 : hG) (pr pcs spr nwh cp cs : Nat) (pa sa : List Nat) (ea : Nat → Nat) (P : List Q4) (pl e_ a b c_ : Nat) (h_pr : ho L0 g0 pr 13 (.inr (7, [.ref pcs, .ref spr, .ref nwh]))) (h_pcs : alR cO (z 0) 14 15 L0 g0 pcs cp pa) (h_spr : alR cO (z 0) 16 17 L0 g0 spr cs sa) (h_pc : pcR L0 g0 ea pa P) (h_sp : spR L0 g0 sa) (hpa : pa.length ≤ 20000) (hpl : pl ≤ pa.length) (hnd : (pa ++ sa).Nodup) (hcp : ncap pa.length cp ≤ 60000) (hsa : sa.length ≤ 20000) : eV l D yX6_put cX6_put 7 none 6 131 (pnew sa + gcel pa.length cp) (4 * pnew sa + gslo pa.length cp) [.ref pr, .int (nI pl), .ref (ea e_), .int (nI a), .int (nI b), .int (nI c_)] z cB cI_ cO L0 g0 (fun L g => ∃ (x : Nat) (s2 : List Nat), fr [14, 15, 16, 17, 18] L0 g0 L g ∧ alR cO (z 0) 14 15 L g pcs (ncap pa.length cp) (lsI pa pl x) ∧ alR cO (z 0) 16 17 L g spr cs s2 ∧ pcR L g ea (lsI pa pl x) (lsJ P pl (e_, a, b, c_)) ∧ spR L g s2 ∧ (lsI pa pl x ++ s2).Nodup ∧ (lsI pa pl x).length + s2.length = pa.length + sa.length + pnew sa) := by
  refine o_sv (by decide) (Nat.le_of_ble_eq_true rfl) ?_
  intro p e s m below meth c A ls hf hr hlocks hin hK hP hD hS hA hZ hN hl
  obtain ⟨hx, hb, hml, hown, hts⟩ := id hf
  have hl : lv_has ls 7 [(0, .ref pr), (1, .int (nI pl)), (2, .ref (ea e_)), (3, .int (nI a)), (4, .int (nI b)), (5, .int (nI c_))] := hl
  have h_pc0 := h_pc
  have h_sp0 := h_sp
  have hfr : fr [14, 15, 16, 17, 18] L0 g0 L0 g0 := fr.rf
  refine lv_iload_n hx hb dX6_put_0 rfl (lv_at hl 1 rfl) ?_
  refine lv_if_lt (tgt := 15) hx hb dX6_put_1 (by decide) (fun c_1 => ?_) (fun c_1 => ?_)
  · have c_1 := q_lt (a := pl) (b := 0) (by omega) (by omega) c_1
    exact False.elim (by omega)
  · have c_1 := q_nlt (a := pl) (b := 0) (by omega) (by omega) c_1
    refine lv_iload_n hx hb dX6_put_4 rfl (lv_at hl 1 rfl) ?_
    refine lv_aload_n hx hb dX6_put_5 rfl (lv_at hl 0 rfl) ?_
    refine o_get (D := D) (ci := 7) (v := .ref pcs) (C := RX6) (T := TX6) (N := 3) hx hb hts inX6 hown hK hP h_pr rfl 0 (by decide) (hts _ k_304) (fun _ h9 => h9) rfl dX6_put_6 ?_
    obtain ⟨mc9, d9, h_al9⟩ := h_pcs.al
    refine o_cis (k := 0) (n := 0) hK hP hD hS hA (o_rV (As := []) (rest := [.int (nI pl)]) hf (li_size _ _ _ _ _ _ _ _ pcs 14 15 cp pa h_pcs _) k_606 k_671 k_604 k_605 k_89 (nA := 0) (by decide +kernel) ⟨Nat.le_of_ble_eq_true rfl, Nat.le_of_ble_eq_true rfl⟩ hK hP hD hS hA hZ hN h_al9 rfl rfl rfl hl.1 rfl (Nat.le_of_ble_eq_true rfl) dX6_put_9 ⟨(show 0 + 0 ≤ pnew sa + gcel pa.length cp by omega), (show 0 + 0 ≤ 4 * pnew sa + gslo pa.length cp by omega)⟩) (Nat.le_refl _) (Nat.le_refl _) (fun r H locs hw hP hD hS => ?_)
    obtain rfl := hw
    refine lv_icmp_le (tgt := 16) hx hb dX6_put_12 (by decide) (fun c_2 => ?_) (fun c_2 => ?_)
    · have c_2 := q_le (a := pl) (b := pa.length) (by omega) (by omega) c_2
      have hab := h_pcs.b
      have hnb := ncap_b hab.1 hab.2.2
      refine lv_aload_n hx hb dX6_put_16 rfl (lv_at hl 0 rfl) ?_
      refine o_get (D := D) (ci := 7) (v := .ref spr) (C := RX6) (T := TX6) (N := 3) hx hb hts inX6 hown hK hP h_pr rfl 1 (by decide) (hts _ k_305) (fun _ h9 => h9) rfl dX6_put_17 ?_
      obtain ⟨mc9, d9, h_al9⟩ := h_spr.al
      refine o_cis (k := 0) (n := 0) hK hP hD hS hA (o_rV (As := []) (rest := []) hf (li_isE _ _ _ _ _ _ _ _ spr 16 17 cs sa h_spr _) k_703 k_700 k_701 k_702 k_89 (nA := 0) (by decide +kernel) ⟨Nat.le_of_ble_eq_true rfl, Nat.le_of_ble_eq_true rfl⟩ hK hP hD hS hA hZ hN h_al9 rfl rfl rfl hl.1 rfl (Nat.le_of_ble_eq_true rfl) dX6_put_20 ⟨(show 0 + 0 ≤ pnew sa + gcel pa.length cp by omega), (show 0 + 0 ≤ 4 * pnew sa + gslo pa.length cp by omega)⟩) (Nat.le_refl _) (Nat.le_refl _) (fun r H locs hw hP hD hS => ?_)
      rcases hw with ⟨c_3, rfl⟩ | ⟨c_3, rfl⟩
      · have hP := hP
        refine lv_if_eq (tgt := 37) hx hb dX6_put_23 (by decide) (fun hno => absurd hno (by decide)) (fun _ => ?_)
        have hpn : pnew sa = 1 := if_pos (by omega)
        refine o_new (ci := 6) (fs := [.null, .int 0, .int 0, .int 0]) (C := RX5) (T := TX5) (N := 4) hx hb 18 hts inX5 tyX5 tyX5_ok hown (hts _ k_270) (hts _ k_271) (hts _ k_93) hK hP hD hS hA rfl dfX5 (show 0 + 1 ≤ pnew sa + gcel pa.length cp by omega) (show 0 + 4 ≤ 4 * pnew sa + gslo pa.length cp by omega) dX6_put_26 (fun q_np L g H h_np hnw hP hD hS => ?_)
        have h_pr := h_pr.nw hnw
        have hfr := hfr.nw hnw
        have h_pcs := h_pcs.frd hnw.fr (by decide)
        have h_spr := h_spr.frd hnw.fr (by decide)
        have h_pc := h_pc.frd hnw.fr (by decide)
        have h_sp := h_sp.frd hnw.fr (by decide)
        have hxp : q_np ∉ pa := fun z9 => hnw.1 (h_pc0.o4 _ z9).choose_spec.choose_spec.choose_spec.choose_spec.1
        have hxs : q_np ∉ sa := fun z9 => hnw.1 (h_sp0 _ z9).choose_spec.choose_spec.choose_spec.choose_spec.1
        refine lv_dup hx hb dX6_put_29 rfl ?_
        refine lv_aload_n hx hb dX6_put_30 rfl (lv_at hl 2 rfl) ?_
        refine o_cv (k := 0 + 1) (n := 0 + 4) hK hP hD hS hA (o_rI (As := [.ref (ea e_)]) (rest := [.ref q_np]) hf (p_init _ _ _ _ _ _ _ _ q_np (ea e_) h_np _) k_274 k_272 k_273 k_93 rfl (nA := 1) (by decide +kernel) ⟨Nat.le_of_ble_eq_true rfl, Nat.le_of_ble_eq_true rfl⟩ hK hP hD hS hA hZ hN rfl hl.1 rfl (Nat.le_of_ble_eq_true rfl) dX6_put_31 ⟨(show 0 + 1 + 0 ≤ pnew sa + gcel pa.length cp by omega), (show 0 + 4 + 0 ≤ 4 * pnew sa + gslo pa.length cp by omega)⟩) (Nat.le_refl _) (Nat.le_refl _) (fun L g H locs hw hP hD hS => ?_)
        obtain ⟨hu, rfl, h_np⟩ := hw
        have h_pr := h_pr.up hu (by decide)
        have hfr := hfr.up hu (by decide)
        have h_pcs := h_pcs.frd hu.fr (by decide)
        have h_spr := h_spr.frd hu.fr (by decide)
        have h_pc := h_pc.un hu hxp
        have h_sp := h_sp.un hu hxs
        refine lv_goto (tgt := 56) hx hb dX6_put_34 (by decide) ?_
        refine lv_astore (lv' := [(6, .ref q_np), (0, .ref pr), (1, .int (nI pl)), (2, .ref (ea e_)), (3, .int (nI a)), (4, .int (nI b)), (5, .int (nI c_))]) hx hb dX6_put_56 hl (by decide) rfl (fun ls hl => ?_)
        refine lv_aload hx hb dX6_put_58 (lv_at hl 0 rfl) ?_
        refine lv_aload_n hx hb dX6_put_60 rfl (lv_at hl 3 rfl) ?_
        refine o_put (D := D) (ci := 6) (v := .ref (ea e_)) (ty := .object "ScriptDesk$Element") (C := RX5) (T := TX5) (N := 4) (fs1 := [.ref (ea e_), .int 0, .int 0, .int 0]) hx hb hts inX5 tyX5 tyX5_ok nmX5 hown hK hP hD hS h_np rfl 0 (by decide) (hts _ k_279) (fun _ h9 => h9) rfl (by decide +kernel) rfl rfl (Nat.le_of_ble_eq_true rfl) rfl dX6_put_61 (fun g H locs h_np hu hP hD hS => ?_)
        have h_pr := h_pr.up hu (by decide)
        have hfr := hfr.up hu (by decide)
        have h_pcs := h_pcs.frd hu.fr (by decide)
        have h_spr := h_spr.frd hu.fr (by decide)
        have h_pc := h_pc.un hu hxp
        have h_sp := h_sp.un hu hxs
        refine lv_aload hx hb dX6_put_64 (lv_at hl 0 rfl) ?_
        refine lv_iload_n hx hb dX6_put_66 rfl (lv_at hl 4 rfl) ?_
        refine o_put (D := D) (ci := 6) (v := .int (nI a)) (ty := .int) (C := RX5) (T := TX5) (N := 4) (fs1 := [.ref (ea e_), .int (nI a), .int 0, .int 0]) hx hb hts inX5 tyX5 tyX5_ok nmX5 hown hK hP hD hS h_np rfl 1 (by decide) (hts _ k_287) (fun _ h9 => h9) rfl (by decide +kernel) rfl rfl (Nat.le_of_ble_eq_true rfl) rfl dX6_put_67 (fun g H locs h_np hu hP hD hS => ?_)
        have h_pr := h_pr.up hu (by decide)
        have hfr := hfr.up hu (by decide)
        have h_pcs := h_pcs.frd hu.fr (by decide)
        have h_spr := h_spr.frd hu.fr (by decide)
        have h_pc := h_pc.un hu hxp
        have h_sp := h_sp.un hu hxs
        refine lv_aload hx hb dX6_put_70 (lv_at hl 0 rfl) ?_
        refine lv_iload hx hb dX6_put_72 (lv_at hl 5 rfl) ?_
        refine o_put (D := D) (ci := 6) (v := .int (nI b)) (ty := .int) (C := RX5) (T := TX5) (N := 4) (fs1 := [.ref (ea e_), .int (nI a), .int (nI b), .int 0]) hx hb hts inX5 tyX5 tyX5_ok nmX5 hown hK hP hD hS h_np rfl 2 (by decide) (hts _ k_292) (fun _ h9 => h9) rfl (by decide +kernel) rfl rfl (Nat.le_of_ble_eq_true rfl) rfl dX6_put_74 (fun g H locs h_np hu hP hD hS => ?_)
        have h_pr := h_pr.up hu (by decide)
        have hfr := hfr.up hu (by decide)
        have h_pcs := h_pcs.frd hu.fr (by decide)
        have h_spr := h_spr.frd hu.fr (by decide)
        have h_pc := h_pc.un hu hxp
        have h_sp := h_sp.un hu hxs
        refine lv_aload hx hb dX6_put_77 (lv_at hl 0 rfl) ?_
        refine lv_iload hx hb dX6_put_79 (lv_at hl 6 rfl) ?_
        refine o_put (D := D) (ci := 6) (v := .int (nI c_)) (ty := .int) (C := RX5) (T := TX5) (N := 4) (fs1 := [.ref (ea e_), .int (nI a), .int (nI b), .int (nI c_)]) hx hb hts inX5 tyX5 tyX5_ok nmX5 hown hK hP hD hS h_np rfl 3 (by decide) (hts _ k_293) (fun _ h9 => h9) rfl (by decide +kernel) rfl rfl (Nat.le_of_ble_eq_true rfl) rfl dX6_put_81 (fun g H locs h_np hu hP hD hS => ?_)
        have h_pr := h_pr.up hu (by decide)
        have hfr := hfr.up hu (by decide)
        have h_pcs := h_pcs.frd hu.fr (by decide)
        have h_spr := h_spr.frd hu.fr (by decide)
        have h_pc := h_pc.un hu hxp
        have h_sp := h_sp.un hu hxs
        refine lv_aload_n hx hb dX6_put_84 rfl (lv_at hl 1 rfl) ?_
        refine o_get (D := D) (ci := 7) (v := .ref pcs) (C := RX6) (T := TX6) (N := 3) hx hb hts inX6 hown hK hP h_pr rfl 0 (by decide) (hts _ k_304) (fun _ h9 => h9) rfl dX6_put_85 ?_
        refine lv_iload_n hx hb dX6_put_88 rfl (lv_at hl 2 rfl) ?_
        refine lv_aload hx hb dX6_put_89 (lv_at hl 0 rfl) ?_
        obtain ⟨mc9, d9, h_al9⟩ := h_pcs.al
        refine o_cv (k := 0 + 1 + (gcel pa.length cp)) (n := 0 + 4 + (gslo pa.length cp)) hK hP hD hS hA (o_rV (As := [.int (nI pl), .ref q_np]) (rest := []) hf (li_addAt _ _ _ _ _ _ _ _ pcs 14 15 cp pa 18 q_np 6 rxP [.ref (ea e_), .int (nI a), .int (nI b), .int (nI c_)] pl h_pcs h_np (by decide) (by decide) (by decide) rfl hcaP h_pc.ob (by omega) (by omega) _) k_716 k_713 k_714 k_715 k_89 (nA := 2) (by decide +kernel) ⟨Nat.le_of_ble_eq_true rfl, Nat.le_of_ble_eq_true rfl⟩ hK hP hD hS hA hZ hN h_al9 rfl rfl rfl hl.1 rfl (Nat.le_of_ble_eq_true rfl) dX6_put_91 ⟨(show 0 + 1 + (gcel pa.length cp) ≤ pnew sa + gcel pa.length cp by omega), (show 0 + 4 + (gslo pa.length cp) ≤ 4 * pnew sa + gslo pa.length cp by omega)⟩) (by omega) (by omega) (fun L g H locs hw hP hD hS => ?_)
        obtain ⟨hf9, h_pcs⟩ := hw
        have h_pr := h_pr.fr hf9 (by decide)
        have h_np := h_np.fr hf9 (by decide)
        have hfr := hfr.tm hf9 (by decide)
        have h_spr := h_spr.frd hf9 (by decide)
        have h_pc := h_pc.frd hf9 (by decide)
        have h_sp := h_sp.frd hf9 (by decide)
        exact o_rv hf hr hlocks hK hP hD hS (show 0 + 1 + (gcel pa.length cp) ≤ pnew sa + gcel pa.length cp by omega) (show 0 + 4 + (gslo pa.length cp) ≤ 4 * pnew sa + gslo pa.length cp by omega) ⟨_, sa, hfr, h_pcs, h_spr, pcR_ins (h_pc) hpl h_np, h_sp, nodup_in hnd ⟨hxp, hxs⟩, by rw [lsI_len hpl]; omega⟩ dX6_put_94
      · have hP := hP
        refine lv_if_eq (tgt := 37) hx hb dX6_put_23 (by decide) (fun _ => ?_) (fun hno => absurd hno (by decide))
        have hpn : pnew sa = 0 := if_neg (by omega)
        have hsl := sp_last hnd (by omega)
        refine lv_aload_n hx hb dX6_put_37 rfl (lv_at hl 0 rfl) ?_
        refine o_get (D := D) (ci := 7) (v := .ref spr) (C := RX6) (T := TX6) (N := 3) hx hb hts inX6 hown hK hP h_pr rfl 1 (by decide) (hts _ k_305) (fun _ h9 => h9) rfl dX6_put_38 ?_
        refine lv_aload_n hx hb dX6_put_41 rfl (lv_at hl 0 rfl) ?_
        refine o_get (D := D) (ci := 7) (v := .ref spr) (C := RX6) (T := TX6) (N := 3) hx hb hts inX6 hown hK hP h_pr rfl 1 (by decide) (hts _ k_305) (fun _ h9 => h9) rfl dX6_put_42 ?_
        obtain ⟨mc9, d9, h_al9⟩ := h_spr.al
        refine o_cis (k := 0) (n := 0) hK hP hD hS hA (o_rV (As := []) (rest := [.ref spr]) hf (li_size _ _ _ _ _ _ _ _ spr 16 17 cs sa h_spr _) k_606 k_671 k_604 k_605 k_89 (nA := 0) (by decide +kernel) ⟨Nat.le_of_ble_eq_true rfl, Nat.le_of_ble_eq_true rfl⟩ hK hP hD hS hA hZ hN h_al9 rfl rfl rfl hl.1 rfl (Nat.le_of_ble_eq_true rfl) dX6_put_45 ⟨(show 0 + 0 ≤ pnew sa + gcel pa.length cp by omega), (show 0 + 0 ≤ 4 * pnew sa + gslo pa.length cp by omega)⟩) (Nat.le_refl _) (Nat.le_refl _) (fun r H locs hw hP hD hS => ?_)
        obtain rfl := hw
        refine lv_iconst (v := 1) hx hb dX6_put_48 (by decide) ?_
        refine lv_isub hx hb dX6_put_49 ?_
        refine q_seti (y := nI (sa.length - 1)) (nI_subE (a := sa.length) (b := 1) (by omega) (by omega)) ?_
        obtain ⟨mc9, d9, h_al9⟩ := h_spr.al
        refine o_cr (k := 0) (n := 0) hK hP hD hS hA (o_rV (As := [.int (nI (sa.length - 1))]) (rest := []) hf (li_rm _ _ _ _ _ _ _ _ spr 16 17 cs sa 18 6 rxP (sa.length - 1) h_spr (by decide) (by decide) (by decide) rfl hcaP h_sp.ob (by omega) _) k_707 k_704 k_705 k_706 k_89 (nA := 1) (by decide +kernel) ⟨Nat.le_of_ble_eq_true rfl, Nat.le_of_ble_eq_true rfl⟩ hK hP hD hS hA hZ hN h_al9 rfl rfl rfl hl.1 rfl (Nat.le_of_ble_eq_true rfl) dX6_put_50 ⟨(show 0 + 0 ≤ pnew sa + gcel pa.length cp by omega), (show 0 + 0 ≤ 4 * pnew sa + gslo pa.length cp by omega)⟩) (Nat.le_refl _) (Nat.le_refl _) (fun r L g H locs hw hP hD hS => ?_)
        obtain ⟨rfl, hf9, h_spr⟩ := hw
        have h_pr := h_pr.fr hf9 (by decide)
        have hfr := hfr.tm hf9 (by decide)
        have h_pcs := h_pcs.frd hf9 (by decide)
        have h_pc := h_pc.frd hf9 (by decide)
        have h_sp := h_sp.frd hf9 (by decide)
        obtain ⟨v0, v1, v2, v3, h_np⟩ := h_sp _ hsl.1
        have hxp := hsl.2.1
        have hxs := hsl.2.2.1
        have h_sp := h_sp.sub hsl.2.2.2.2.1
        refine o_cast hx hb hown (hts _ k_270) hK hP h_np rfl rfl dX6_put_53 ?_
        refine lv_astore (lv' := [(6, .ref (sa.getD (sa.length - 1) 0)), (0, .ref pr), (1, .int (nI pl)), (2, .ref (ea e_)), (3, .int (nI a)), (4, .int (nI b)), (5, .int (nI c_))]) hx hb dX6_put_56 hl (by decide) rfl (fun ls hl => ?_)
        refine lv_aload hx hb dX6_put_58 (lv_at hl 0 rfl) ?_
        refine lv_aload_n hx hb dX6_put_60 rfl (lv_at hl 3 rfl) ?_
        refine o_put (D := D) (ci := 6) (v := .ref (ea e_)) (ty := .object "ScriptDesk$Element") (C := RX5) (T := TX5) (N := 4) (fs1 := [.ref (ea e_), v1, v2, v3]) hx hb hts inX5 tyX5 tyX5_ok nmX5 hown hK hP hD hS h_np rfl 0 (by decide) (hts _ k_279) (fun _ h9 => h9) rfl (by decide +kernel) rfl rfl (Nat.le_of_ble_eq_true rfl) rfl dX6_put_61 (fun g H locs h_np hu hP hD hS => ?_)
        have h_pr := h_pr.up hu (by decide)
        have hfr := hfr.up hu (by decide)
        have h_pcs := h_pcs.frd hu.fr (by decide)
        have h_pc := h_pc.un hu hxp
        have h_sp := h_sp.un hu hxs
        have h_spr := h_spr.frd hu.fr (by decide)
        refine lv_aload hx hb dX6_put_64 (lv_at hl 0 rfl) ?_
        refine lv_iload_n hx hb dX6_put_66 rfl (lv_at hl 4 rfl) ?_
        refine o_put (D := D) (ci := 6) (v := .int (nI a)) (ty := .int) (C := RX5) (T := TX5) (N := 4) (fs1 := [.ref (ea e_), .int (nI a), v2, v3]) hx hb hts inX5 tyX5 tyX5_ok nmX5 hown hK hP hD hS h_np rfl 1 (by decide) (hts _ k_287) (fun _ h9 => h9) rfl (by decide +kernel) rfl rfl (Nat.le_of_ble_eq_true rfl) rfl dX6_put_67 (fun g H locs h_np hu hP hD hS => ?_)
        have h_pr := h_pr.up hu (by decide)
        have hfr := hfr.up hu (by decide)
        have h_pcs := h_pcs.frd hu.fr (by decide)
        have h_pc := h_pc.un hu hxp
        have h_sp := h_sp.un hu hxs
        have h_spr := h_spr.frd hu.fr (by decide)
        refine lv_aload hx hb dX6_put_70 (lv_at hl 0 rfl) ?_
        refine lv_iload hx hb dX6_put_72 (lv_at hl 5 rfl) ?_
        refine o_put (D := D) (ci := 6) (v := .int (nI b)) (ty := .int) (C := RX5) (T := TX5) (N := 4) (fs1 := [.ref (ea e_), .int (nI a), .int (nI b), v3]) hx hb hts inX5 tyX5 tyX5_ok nmX5 hown hK hP hD hS h_np rfl 2 (by decide) (hts _ k_292) (fun _ h9 => h9) rfl (by decide +kernel) rfl rfl (Nat.le_of_ble_eq_true rfl) rfl dX6_put_74 (fun g H locs h_np hu hP hD hS => ?_)
        have h_pr := h_pr.up hu (by decide)
        have hfr := hfr.up hu (by decide)
        have h_pcs := h_pcs.frd hu.fr (by decide)
        have h_pc := h_pc.un hu hxp
        have h_sp := h_sp.un hu hxs
        have h_spr := h_spr.frd hu.fr (by decide)
        refine lv_aload hx hb dX6_put_77 (lv_at hl 0 rfl) ?_
        refine lv_iload hx hb dX6_put_79 (lv_at hl 6 rfl) ?_
        refine o_put (D := D) (ci := 6) (v := .int (nI c_)) (ty := .int) (C := RX5) (T := TX5) (N := 4) (fs1 := [.ref (ea e_), .int (nI a), .int (nI b), .int (nI c_)]) hx hb hts inX5 tyX5 tyX5_ok nmX5 hown hK hP hD hS h_np rfl 3 (by decide) (hts _ k_293) (fun _ h9 => h9) rfl (by decide +kernel) rfl rfl (Nat.le_of_ble_eq_true rfl) rfl dX6_put_81 (fun g H locs h_np hu hP hD hS => ?_)
        have h_pr := h_pr.up hu (by decide)
        have hfr := hfr.up hu (by decide)
        have h_pcs := h_pcs.frd hu.fr (by decide)
        have h_pc := h_pc.un hu hxp
        have h_sp := h_sp.un hu hxs
        have h_spr := h_spr.frd hu.fr (by decide)
        refine lv_aload_n hx hb dX6_put_84 rfl (lv_at hl 1 rfl) ?_
        refine o_get (D := D) (ci := 7) (v := .ref pcs) (C := RX6) (T := TX6) (N := 3) hx hb hts inX6 hown hK hP h_pr rfl 0 (by decide) (hts _ k_304) (fun _ h9 => h9) rfl dX6_put_85 ?_
        refine lv_iload_n hx hb dX6_put_88 rfl (lv_at hl 2 rfl) ?_
        refine lv_aload hx hb dX6_put_89 (lv_at hl 0 rfl) ?_
        obtain ⟨mc9, d9, h_al9⟩ := h_pcs.al
        refine o_cv (k := 0 + (gcel pa.length cp)) (n := 0 + (gslo pa.length cp)) hK hP hD hS hA (o_rV (As := [.int (nI pl), .ref (sa.getD (sa.length - 1) 0)]) (rest := []) hf (li_addAt _ _ _ _ _ _ _ _ pcs 14 15 cp pa 18 (sa.getD (sa.length - 1) 0) 6 rxP [.ref (ea e_), .int (nI a), .int (nI b), .int (nI c_)] pl h_pcs h_np (by decide) (by decide) (by decide) rfl hcaP h_pc.ob (by omega) (by omega) _) k_716 k_713 k_714 k_715 k_89 (nA := 2) (by decide +kernel) ⟨Nat.le_of_ble_eq_true rfl, Nat.le_of_ble_eq_true rfl⟩ hK hP hD hS hA hZ hN h_al9 rfl rfl rfl hl.1 rfl (Nat.le_of_ble_eq_true rfl) dX6_put_91 ⟨(show 0 + (gcel pa.length cp) ≤ pnew sa + gcel pa.length cp by omega), (show 0 + (gslo pa.length cp) ≤ 4 * pnew sa + gslo pa.length cp by omega)⟩) (by omega) (by omega) (fun L g H locs hw hP hD hS => ?_)
        obtain ⟨hf9, h_pcs⟩ := hw
        have h_pr := h_pr.fr hf9 (by decide)
        have h_np := h_np.fr hf9 (by decide)
        have hfr := hfr.tm hf9 (by decide)
        have h_pc := h_pc.frd hf9 (by decide)
        have h_sp := h_sp.frd hf9 (by decide)
        have h_spr := h_spr.frd hf9 (by decide)
        exact o_rv hf hr hlocks hK hP hD hS (show 0 + (gcel pa.length cp) ≤ pnew sa + gcel pa.length cp by omega) (show 0 + (gslo pa.length cp) ≤ 4 * pnew sa + gslo pa.length cp by omega) ⟨_, _, hfr, h_pcs, h_spr, pcR_ins (h_pc) hpl h_np, h_sp, nodup_in hsl.2.2.2.1 ⟨hxp, hxs⟩, by rw [lsI_len hpl]; omega⟩ dX6_put_94
    · have c_2 := q_nle (a := pl) (b := pa.length) (by omega) (by omega) c_2
      exact False.elim (by omega)
