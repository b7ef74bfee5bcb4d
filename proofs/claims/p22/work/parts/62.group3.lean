def rs_lp (x : N3) : Nat := if x.2.1 = 0 then x.1 - 1 else x.1
/-- the sheets of a group, one behind the other -/
noncomputable def rs_sh (K : Nat → Int32) (Fm To Rr : Nat → Nat) (fi en mo : Nat) : Nat → Nat → Nat → List I3
  | 0, _, _ => []
  | f + 1, p, r => if p < en then (nI (rs_nx K Fm To Rr fi en mo p r).2.2, nI p, nI (rs_lp (rs_nx K Fm To Rr fi en mo p r))) :: rs_sh K Fm To Rr fi en mo f (rs_nx K Fm To Rr fi en mo p r).1 (rs_nx K Fm To Rr fi en mo p r).2.1 else []
theorem rs_sh_out {K : Nat → Int32} {Fm To Rr : Nat → Nat} {fi en mo f p r : Nat} (h : ¬ p < en) : rs_sh K Fm To Rr fi en mo f p r = [] := by
  cases f with
  | zero => rfl
  | succ f => exact if_neg h
theorem rs_sh_in {K : Nat → Int32} {Fm To Rr : Nat → Nat} {fi en mo f p r : Nat} {x : N3} (h : p < en) (e : rs_lay K Fm To Rr p r en mo 41 p r (pb (rp_ra (K p) (Fm p) p r fi)) 0 none = some x) : rs_sh K Fm To Rr fi en mo (f + 1) p r = (nI x.2.2, nI p, nI (rs_lp x)) :: rs_sh K Fm To Rr fi en mo f x.1 x.2.1 := by
  have e2 : rs_nx K Fm To Rr fi en mo p r = x := by unfold rs_nx; rw [e]; rfl
  rw [← e2]
  exact if_pos h
theorem gcp_b {n M : Nat} (h : n ≤ M) (h1 : 1 ≤ M) : n + 1 ≤ gcp n M ∧ M ≤ gcp n M ∧ (gcp n M = M ∨ gcp n M = 2 * n) := by
  unfold gcp
  by_cases c : n = M
  · rw [if_pos c]; omega
  · rw [if_neg c]; omega
/-- the room of the sheets' arrays behind adding these -/
def glx : Nat → Nat → List I3 → Nat
  | M, _, [] => M
  | M, n, _ :: t => glx (gcp n M) (n + 1) t
theorem glx_ge : ∀ (t : List I3) (M n : Nat), M ≤ glx M n t := by
  intro t
  induction t with
  | nil => intro M n; exact Nat.le_refl _
  | cons x t ih =>
    intro M n
    have h1 := ih (gcp n M) (n + 1)
    have h2 : M ≤ gcp n M := by unfold gcp; by_cases c : n = M; (· rw [if_pos c]; omega); rw [if_neg c]; exact Nat.le_refl _
    exact Nat.le_trans h2 h1
theorem glx_le : ∀ (t : List I3) (M n : Nat), n ≤ M → 1 ≤ M → glx M n t = M ∨ glx M n t ≤ 2 * (n + t.length) := by
  intro t
  induction t with
  | nil => intro M n _ _; exact Or.inl rfl
  | cons x t ih =>
    intro M n h h1
    have h2 := gcp_b h h1
    rcases ih (gcp n M) (n + 1) (by omega) (by omega) with h3 | h3
    · have h4 : glx M n (x :: t) = gcp n M := h3
      rw [h4, List.length_cons]
      omega
    · have h4 : glx M n (x :: t) ≤ 2 * (n + 1 + t.length) := h3
      rw [List.length_cons]
      omega
theorem d4_out {P : List Q4} {i : Nat} (h : P.length ≤ i) : P.getD i d4 = d4 := by
  rw [List.getD_eq_getElem?_getD, List.getElem?_eq_none h]
  rfl
abbrev cX2_lay : ByteArray := prog_4_method_2_code
def yX2_lay : MethodName := ⟨RX2, "lay", "(II)V"⟩
theorem k_33 : (Cond.selects RX2 yX2_addSheet yX2_addSheet) ∈ gT := gT_i 33 (by decide +kernel) rfl
theorem k_34 : (Cond.selects RX2 yX2_rowsOfPieces yX2_rowsOfPieces) ∈ gT := gT_i 34 (by decide +kernel) rfl
theorem k_35 : (Cond.selects RX2 yX2_fillSheet yX2_fillSheet) ∈ gT := gT_i 35 (by decide +kernel) rfl
theorem k_950 : (Cond.methodLink RX2 33 yX6_beginOfGroup) ∈ gT := gT_i 950 (by decide +kernel) rfl
theorem k_951 : (Cond.instanceMethod yX6_beginOfGroup) ∈ gT := gT_i 951 (by decide +kernel) rfl
theorem k_952 : (Cond.selects RX6 yX6_beginOfGroup yX6_beginOfGroup) ∈ gT := gT_i 952 (by decide +kernel) rfl
theorem k_953 : (Cond.code yX6_beginOfGroup cX6_beginOfGroup 3 (some .int)) ∈ gT := gT_i 953 (by decide +kernel) rfl
theorem k_954 : (Cond.methodLink RX2 42 yX2_addSheet) ∈ gT := gT_i 954 (by decide +kernel) rfl
theorem k_956 : (Cond.instanceMethod yX2_addSheet) ∈ gT := gT_i 956 (by decide +kernel) rfl
theorem k_957 : (Cond.code yX2_addSheet cX2_addSheet 4 none) ∈ gT := gT_i 957 (by decide +kernel) rfl
theorem k_969 : (Cond.methodLink RX2 55 yX2_rowsOfPieces) ∈ gT := gT_i 969 (by decide +kernel) rfl
theorem k_971 : (Cond.instanceMethod yX2_rowsOfPieces) ∈ gT := gT_i 971 (by decide +kernel) rfl
theorem k_972 : (Cond.code yX2_rowsOfPieces cX2_rowsOfPieces 4 (some .int)) ∈ gT := gT_i 972 (by decide +kernel) rfl
theorem k_973 : (Cond.methodLink RX2 58 yX2_fillSheet) ∈ gT := gT_i 973 (by decide +kernel) rfl
theorem k_975 : (Cond.instanceMethod yX2_fillSheet) ∈ gT := gT_i 975 (by decide +kernel) rfl
theorem k_976 : (Cond.code yX2_fillSheet cX2_fillSheet 7 none) ∈ gT := gT_i 976 (by decide +kernel) rfl
theorem dX2_lay_67 : decode cX2_lay 67 = .ok (.iload 6, 2) := by decide +kernel
theorem dX2_lay_69 : decode cX2_lay 69 = .ok (.iload 5, 2) := by decide +kernel
theorem dX2_lay_71 : decode cX2_lay 71 = .ok (.if_icmp .ge 110, 3) := by decide +kernel
theorem dX2_lay_74 : decode cX2_lay 74 = .ok (.iload_n 3, 1) := by decide +kernel
theorem dX2_lay_75 : decode cX2_lay 75 = .ok (.aload_n 0, 1) := by decide +kernel
theorem dX2_lay_76 : decode cX2_lay 76 = .ok (.getfield 39, 3) := by decide +kernel
theorem dX2_lay_79 : decode cX2_lay 79 = .ok (.if_icmp .ge 102, 3) := by decide +kernel
theorem dX2_lay_82 : decode cX2_lay 82 = .ok (.aload_n 0, 1) := by decide +kernel
theorem dX2_lay_83 : decode cX2_lay 83 = .ok (.iload_n 3, 1) := by decide +kernel
theorem dX2_lay_84 : decode cX2_lay 84 = .ok (.iload 4, 2) := by decide +kernel
theorem dX2_lay_86 : decode cX2_lay 86 = .ok (.iload_n 2, 1) := by decide +kernel
theorem dX2_lay_87 : decode cX2_lay 87 = .ok (.invokevirtual 58, 3) := by decide +kernel
theorem dX2_lay_90 : decode cX2_lay 90 = .ok (.aload_n 0, 1) := by decide +kernel
theorem dX2_lay_91 : decode cX2_lay 91 = .ok (.aload_n 0, 1) := by decide +kernel
theorem dX2_lay_92 : decode cX2_lay 92 = .ok (.getfield 61, 3) := by decide +kernel
theorem dX2_lay_95 : decode cX2_lay 95 = .ok (.iload_n 3, 1) := by decide +kernel
theorem dX2_lay_96 : decode cX2_lay 96 = .ok (.aload_n 0, 1) := by decide +kernel
theorem dX2_lay_97 : decode cX2_lay 97 = .ok (.getfield 64, 3) := by decide +kernel
theorem dX2_lay_100 : decode cX2_lay 100 = .ok (.invokevirtual 42, 3) := by decide +kernel
theorem dX2_lay_103 : decode cX2_lay 103 = .ok (.aload_n 0, 1) := by decide +kernel
theorem dX2_lay_104 : decode cX2_lay 104 = .ok (.getfield 67, 3) := by decide +kernel
theorem dX2_lay_107 : decode cX2_lay 107 = .ok (.aload_n 0, 1) := by decide +kernel
theorem dX2_lay_108 : decode cX2_lay 108 = .ok (.getfield 21, 3) := by decide +kernel
theorem dX2_lay_111 : decode cX2_lay 111 = .ok (.aload_n 0, 1) := by decide +kernel
theorem dX2_lay_112 : decode cX2_lay 112 = .ok (.getfield 64, 3) := by decide +kernel
theorem dX2_lay_115 : decode cX2_lay 115 = .ok (.invokevirtual 46, 3) := by decide +kernel
theorem dX2_lay_118 : decode cX2_lay 118 = .ok (.getfield 70, 3) := by decide +kernel
theorem dX2_lay_121 : decode cX2_lay 121 = .ok (.if_icmp .lt 7, 3) := by decide +kernel
theorem dX2_lay_128 : decode cX2_lay 128 = .ok (.iconst 0, 1) := by decide +kernel
theorem dX2_lay_129 : decode cX2_lay 129 = .ok (.istore 7, 2) := by decide +kernel
theorem dX2_lay_131 : decode cX2_lay 131 = .ok (.iload 7, 2) := by decide +kernel
theorem dX2_lay_133 : decode cX2_lay 133 = .ok (.ifCond .eq 12, 3) := by decide +kernel
theorem dX2_lay_145 : decode cX2_lay 145 = .ok (.aload_n 0, 1) := by decide +kernel
theorem dX2_lay_146 : decode cX2_lay 146 = .ok (.getfield 64, 3) := by decide +kernel
theorem dX2_lay_149 : decode cX2_lay 149 = .ok (.istore_n 3, 1) := by decide +kernel
theorem dX2_lay_150 : decode cX2_lay 150 = .ok (.iload 7, 2) := by decide +kernel
theorem dX2_lay_152 : decode cX2_lay 152 = .ok (.ifCond .eq 17, 3) := by decide +kernel
theorem dX2_lay_169 : decode cX2_lay 169 = .ok (.aload_n 0, 1) := by decide +kernel
theorem dX2_lay_170 : decode cX2_lay 170 = .ok (.getfield 67, 3) := by decide +kernel
theorem dX2_lay_173 : decode cX2_lay 173 = .ok (.istore 4, 2) := by decide +kernel
theorem dX2_lay_175 : decode cX2_lay 175 = .ok (.iinc 6 1, 3) := by decide +kernel
theorem dX2_lay_178 : decode cX2_lay 178 = .ok (.goto (-111), 3) := by decide +kernel
theorem dX2_lay_124 : decode cX2_lay 124 = .ok (.iconst 1, 1) := by decide +kernel
theorem dX2_lay_125 : decode cX2_lay 125 = .ok (.goto 4, 3) := by decide +kernel
theorem dX2_lay_136 : decode cX2_lay 136 = .ok (.aload_n 0, 1) := by decide +kernel
theorem dX2_lay_137 : decode cX2_lay 137 = .ok (.getfield 64, 3) := by decide +kernel
theorem dX2_lay_140 : decode cX2_lay 140 = .ok (.iconst 1, 1) := by decide +kernel
theorem dX2_lay_141 : decode cX2_lay 141 = .ok (.iadd, 1) := by decide +kernel
theorem dX2_lay_142 : decode cX2_lay 142 = .ok (.goto 7, 3) := by decide +kernel
theorem dX2_lay_155 : decode cX2_lay 155 = .ok (.aload_n 0, 1) := by decide +kernel
theorem dX2_lay_156 : decode cX2_lay 156 = .ok (.getfield 21, 3) := by decide +kernel
theorem dX2_lay_159 : decode cX2_lay 159 = .ok (.iload_n 3, 1) := by decide +kernel
theorem dX2_lay_160 : decode cX2_lay 160 = .ok (.invokevirtual 46, 3) := by decide +kernel
theorem dX2_lay_163 : decode cX2_lay 163 = .ok (.getfield 50, 3) := by decide +kernel
theorem dX2_lay_166 : decode cX2_lay 166 = .ok (.goto 7, 3) := by decide +kernel
theorem dX2_lay_0 : decode cX2_lay 0 = .ok (.aload_n 0, 1) := by decide +kernel
theorem dX2_lay_1 : decode cX2_lay 1 = .ok (.iconst 0, 1) := by decide +kernel
theorem dX2_lay_2 : decode cX2_lay 2 = .ok (.putfield 29, 3) := by decide +kernel
theorem dX2_lay_5 : decode cX2_lay 5 = .ok (.aload_n 0, 1) := by decide +kernel
theorem dX2_lay_6 : decode cX2_lay 6 = .ok (.getfield 21, 3) := by decide +kernel
theorem dX2_lay_9 : decode cX2_lay 9 = .ok (.iload_n 1, 1) := by decide +kernel
theorem dX2_lay_10 : decode cX2_lay 10 = .ok (.invokevirtual 33, 3) := by decide +kernel
theorem dX2_lay_13 : decode cX2_lay 13 = .ok (.istore_n 3, 1) := by decide +kernel
theorem dX2_lay_14 : decode cX2_lay 14 = .ok (.aload_n 0, 1) := by decide +kernel
theorem dX2_lay_15 : decode cX2_lay 15 = .ok (.aload_n 0, 1) := by decide +kernel
theorem dX2_lay_16 : decode cX2_lay 16 = .ok (.getfield 21, 3) := by decide +kernel
theorem dX2_lay_19 : decode cX2_lay 19 = .ok (.iload_n 1, 1) := by decide +kernel
theorem dX2_lay_20 : decode cX2_lay 20 = .ok (.iconst 1, 1) := by decide +kernel
theorem dX2_lay_21 : decode cX2_lay 21 = .ok (.iadd, 1) := by decide +kernel
theorem dX2_lay_22 : decode cX2_lay 22 = .ok (.invokevirtual 33, 3) := by decide +kernel
theorem dX2_lay_25 : decode cX2_lay 25 = .ok (.putfield 39, 3) := by decide +kernel
theorem dX2_lay_28 : decode cX2_lay 28 = .ok (.iload_n 3, 1) := by decide +kernel
theorem dX2_lay_29 : decode cX2_lay 29 = .ok (.aload_n 0, 1) := by decide +kernel
theorem dX2_lay_30 : decode cX2_lay 30 = .ok (.getfield 39, 3) := by decide +kernel
theorem dX2_lay_33 : decode cX2_lay 33 = .ok (.if_icmp .lt 11, 3) := by decide +kernel
theorem dX2_lay_36 : decode cX2_lay 36 = .ok (.aload_n 0, 1) := by decide +kernel
theorem dX2_lay_37 : decode cX2_lay 37 = .ok (.iconst 0, 1) := by decide +kernel
theorem dX2_lay_38 : decode cX2_lay 38 = .ok (.iconst (-1), 1) := by decide +kernel
theorem dX2_lay_39 : decode cX2_lay 39 = .ok (.iconst (-1), 1) := by decide +kernel
theorem dX2_lay_40 : decode cX2_lay 40 = .ok (.invokevirtual 42, 3) := by decide +kernel
theorem dX2_lay_43 : decode cX2_lay 43 = .ok (.return_, 1) := by decide +kernel
theorem dX2_lay_44 : decode cX2_lay 44 = .ok (.aload_n 0, 1) := by decide +kernel
theorem dX2_lay_45 : decode cX2_lay 45 = .ok (.getfield 21, 3) := by decide +kernel
theorem dX2_lay_48 : decode cX2_lay 48 = .ok (.iload_n 3, 1) := by decide +kernel
theorem dX2_lay_49 : decode cX2_lay 49 = .ok (.invokevirtual 46, 3) := by decide +kernel
theorem dX2_lay_52 : decode cX2_lay 52 = .ok (.getfield 50, 3) := by decide +kernel
theorem dX2_lay_55 : decode cX2_lay 55 = .ok (.istore 4, 2) := by decide +kernel
theorem dX2_lay_57 : decode cX2_lay 57 = .ok (.aload_n 0, 1) := by decide +kernel
theorem dX2_lay_58 : decode cX2_lay 58 = .ok (.iload_n 3, 1) := by decide +kernel
theorem dX2_lay_59 : decode cX2_lay 59 = .ok (.invokevirtual 55, 3) := by decide +kernel
theorem dX2_lay_62 : decode cX2_lay 62 = .ok (.istore 5, 2) := by decide +kernel
theorem dX2_lay_64 : decode cX2_lay 64 = .ok (.iconst 0, 1) := by decide +kernel
theorem dX2_lay_65 : decode cX2_lay 65 = .ok (.istore 6, 2) := by decide +kernel
theorem dX2_lay_181 : decode cX2_lay 181 = .ok (.return_, 1) := by decide +kernel
set_option maxHeartbeats 1000000 in
set_option maxRecDepth 100000 in
theorem ly_loop {p : Program} {l : Launch} {e : Env} {R : Room} {s : State} {m : MethodId} {args : Array Value} {below : List Frame} {meth : Method} {c : Code} {Q : State → Prop} {D : va_G} {A : Nat → Prop} {z : Nat → Nat} {cB cI_ cO : ClassId} {L0 : List Nat} {g0 : hG} {pr pcs spr nwh cp nob : Nat} {pa : List Nat} {ea : Nat → Nat} {P : List Q4} {ne : Nat} {EE : Nat → E5} {gl lf en fi mo gg B cE sE : Nat} (hpa : pa.length ≤ 20000) (hQ : pq_ok ne EE P) (hen : en ≤ pa.length) (hSn : qS P pa.length ≤ 8000) (hgF : ∀ p, fi < p → p < en → (P.getD p d4).2.1 = 0) (hgT : ∀ p, fi ≤ p → p + 1 < en → (P.getD p d4).2.2.1 = eRw (EE (P.getD p d4).1)) (hmo1 : 10 ≤ mo) (hmo : mo ≤ 40) (hB9 : B ≤ 30000) (hcE : cE ≤ R.cells) (hsE : sE ≤ R.slots) (hRf : 10 ≤ R.frames) (hRl : 270 ≤ R.locals) (hA : ∀ q : Nat, s.heap.size ≤ q → A q) (hf : CallFix p m c cX2_lay 8 s args gT yX2_lay.cls) (hK : va_K D vcl (dT cB cI_ cO) s) (hZ : zA z A s s.heap) (hN : zB z s) :
    ∀ (k : Nat) (pq : Nat) (i : Nat) (j : Nat) (Sh : List I3) (ra : Nat) (fa : Nat) (la : Nat) (M : Nat) (f0 : Nat → Int32) (f1 : Nat → Int32) (f2 : Nat → Int32) (v7 : Int32) (v8 : Int32) (v9 : Int32) (x1 : Int32) (x2 : Int32) (x3 : Int32) (x4 : Int32) (x5 : Int32) (x6 : Int32) (cells slots : Nat) (L : List Nat) (g : hG) (H : Heap) (locs : List Loc) (ls : Array Slot), pq ≤ en → (pq < en → i < (P.getD pq d4).2.2.1 - (P.getD pq d4).2.1) → (pq = en → i = 0) → qS P en ≤ k + (qS P pq + i) → j + qS P fi ≤ qS P pq + i ∧ qS P pq + i ≤ qS P en ∧ qS P en ≤ 8000 → fi ≤ pq → sh_is Sh f0 f1 f2 → 1 ≤ M → Sh.length ≤ M → B = glx M Sh.length (rs_sh (qK EE P) (qF P) (qT P) (qR EE P) fi en mo k pq i) → cells + 3 * (B - M) ≤ cE → slots + 6 * (B - M) ≤ sE → ho L g pr 13 (.inr (7, [.ref pcs, .ref spr, .ref nwh])) → alR cO (z 0) 14 15 L g pcs cp pa → pcR L g ea pa P → esR cB cI_ L g ea ne EE → ho L g nwh 19 (.inr (6, [.ref nob, .int 0, .int 0, .int 0])) → ho L g gl 25 (.inr (3, [.ref pr, .ref lf, .ref ra, .ref fa, .ref la, .int (nI (Sh.length)), .int (nI en), .int v7, .int v8, .int v9])) → ho L g lf 20 (.inr (4, [.ref pr, .int x1, .int x2, .int x3, .int x4, .int x5, .int x6])) → ho L g ra 26 (.inl (cI_, M, .inl f0)) → ho L g fa 27 (.inl (cI_, M, .inl f1)) → ho L g la 28 (.inl (cI_, M, .inl f2)) → fr [20, 25, 26, 27, 28] L0 g0 L g → va_P D vcl (dW L g) H → va_D A (dW L g) → va_S A s.heap H locs → lv_has ls 8 [(6, .int (nI j)), (3, .int (nI pq)), (4, .int (nI ((P.getD pq d4).2.1 + i))), (0, .ref gl), (1, .int (nI gg)), (2, .int (nI mo)), (5, .int (nI ((qS P en - qS P fi))))] →
    (∀ (S2 : List I3) (ra : Nat) (fa : Nat) (la : Nat) (M2 : Nat) (f0 : Nat → Int32) (f1 : Nat → Int32) (f2 : Nat → Int32) (v7 : Int32) (v8 : Int32) (v9 : Int32) (x1 : Int32) (x2 : Int32) (x3 : Int32) (x4 : Int32) (x5 : Int32) (x6 : Int32)  (L : List Nat) (g : hG) (H : Heap) (locs : List Loc) (ls : Array Slot), S2 = Sh ++ rs_sh (qK EE P) (qF P) (qT P) (qR EE P) fi en mo k pq i → sh_is S2 f0 f1 f2 → S2.length ≤ M2 ∧ M2 = B ∧ 1 ≤ M2 → ho L g pr 13 (.inr (7, [.ref pcs, .ref spr, .ref nwh])) → alR cO (z 0) 14 15 L g pcs cp pa → pcR L g ea pa P → esR cB cI_ L g ea ne EE → ho L g nwh 19 (.inr (6, [.ref nob, .int 0, .int 0, .int 0])) → ho L g gl 25 (.inr (3, [.ref pr, .ref lf, .ref ra, .ref fa, .ref la, .int (nI (S2.length)), .int (nI en), .int v7, .int v8, .int v9])) → ho L g lf 20 (.inr (4, [.ref pr, .int x1, .int x2, .int x3, .int x4, .int x5, .int x6])) → ho L g ra 26 (.inl (cI_, M2, .inl f0)) → ho L g fa 27 (.inl (cI_, M2, .inl f1)) → ho L g la 28 (.inl (cI_, M2, .inl f2)) → fr [20, 25, 26, 27, 28] L0 g0 L g → va_P D vcl (dW L g) H → va_D A (dW L g) → va_S A s.heap H locs → lv_has ls 8 [(0, .ref gl)] → W p l e R s m args below meth c H locs cE sE Q (F0 m 181 ls [])) →
    W p l e R s m args below meth c H locs cells slots Q (F0 m 67 ls []) := by
  obtain ⟨hx, hb, hml, hown, hts⟩ := id hf
  intro k
  induction k with
  | zero =>
    intro pq i j Sh ra fa la M f0 f1 f2 v7 v8 v9 x1 x2 x3 x4 x5 x6 cells slots L g H locs ls hple hi hi0 hfu hj hfi hsh hM1 hll hB hRc hRs h_pr h_pcs h_pc h_es h_nwh h_gl h_lf h_ra h_fa h_la hfr hP hD hS hl kk
    refine lv_iload hx hb dX2_lay_67 (lv_at hl 0 rfl) ?_
    refine lv_iload hx hb dX2_lay_69 (lv_at hl 6 rfl) ?_
    refine lv_icmp_ge (tgt := 181) hx hb dX2_lay_71 (by decide) (fun c_1 => ?_) (fun c_1 => ?_)
    · have c_1 := q_le (a := (qS P en - qS P fi)) (b := j) (by omega) (by omega) c_1
      have hpe : ¬ pq < en := fun h9 => by have h8 := qS_in P h9; have h7 := hi h9; omega
      have hB7 : M = B := by rw [hB, rs_sh_out hpe]; rfl
      refine W.widen (k := cE) (n := sE) (by omega) (by omega) ?_
      exact kk Sh ra fa la M f0 f1 f2 v7 v8 v9 x1 x2 x3 x4 x5 x6 _ _ H locs ls (by rw [rs_sh_out hpe, List.append_nil]) hsh ⟨hll, hB7, hM1⟩ h_pr h_pcs h_pc h_es h_nwh h_gl h_lf h_ra h_fa h_la hfr hP hD hS (lv_sub hl (l' := [(0, .ref gl)]) [3] rfl)
    · have c_1 := q_nle (a := (qS P en - qS P fi)) (b := j) (by omega) (by omega) c_1
      refine lv_iload_n hx hb dX2_lay_74 rfl (lv_at hl 1 rfl) ?_
      refine lv_aload_n hx hb dX2_lay_75 rfl (lv_at hl 3 rfl) ?_
      refine o_get (D := D) (ci := 3) (v := .int (nI en)) (C := RX2) (T := TX2) (N := 10) hx hb hts inX2 hown hK hP h_gl rfl 6 (by decide) (hts _ k_394) (fun _ h9 => h9) rfl dX2_lay_76 ?_
      refine lv_icmp_ge (tgt := 181) hx hb dX2_lay_79 (by decide) (fun c_2 => ?_) (fun c_2 => ?_)
      · have c_2 := q_le (a := en) (b := pq) (by omega) (by omega) c_2
        have hpe : ¬ pq < en := fun h9 => by have h8 := qS_in P h9; have h7 := hi h9; omega
        have hB7 : M = B := by rw [hB, rs_sh_out hpe]; rfl
        refine W.widen (k := cE) (n := sE) (by omega) (by omega) ?_
        exact kk Sh ra fa la M f0 f1 f2 v7 v8 v9 x1 x2 x3 x4 x5 x6 _ _ H locs ls (by rw [rs_sh_out hpe, List.append_nil]) hsh ⟨hll, hB7, hM1⟩ h_pr h_pcs h_pc h_es h_nwh h_gl h_lf h_ra h_fa h_la hfr hP hD hS (lv_sub hl (l' := [(0, .ref gl)]) [3] rfl)
      · have c_2 := q_nle (a := en) (b := pq) (by omega) (by omega) c_2
        have h8 := qS_in P (show pq < en by omega)
        have h7 := hi (by omega)
        exact False.elim (by omega)
  | succ k ih =>
    intro pq i j Sh ra fa la M f0 f1 f2 v7 v8 v9 x1 x2 x3 x4 x5 x6 cells slots L g H locs ls hple hi hi0 hfu hj hfi hsh hM1 hll hB hRc hRs h_pr h_pcs h_pc h_es h_nwh h_gl h_lf h_ra h_fa h_la hfr hP hD hS hl kk
    refine lv_iload hx hb dX2_lay_67 (lv_at hl 0 rfl) ?_
    refine lv_iload hx hb dX2_lay_69 (lv_at hl 6 rfl) ?_
    refine lv_icmp_ge (tgt := 181) hx hb dX2_lay_71 (by decide) (fun c_1 => ?_) (fun c_1 => ?_)
    · have c_1 := q_le (a := (qS P en - qS P fi)) (b := j) (by omega) (by omega) c_1
      have hpe : ¬ pq < en := fun h9 => by have h8 := qS_in P h9; have h7 := hi h9; omega
      have hB7 : M = B := by rw [hB, rs_sh_out hpe]; rfl
      refine W.widen (k := cE) (n := sE) (by omega) (by omega) ?_
      exact kk Sh ra fa la M f0 f1 f2 v7 v8 v9 x1 x2 x3 x4 x5 x6 _ _ H locs ls (by rw [rs_sh_out hpe, List.append_nil]) hsh ⟨hll, hB7, hM1⟩ h_pr h_pcs h_pc h_es h_nwh h_gl h_lf h_ra h_fa h_la hfr hP hD hS (lv_sub hl (l' := [(0, .ref gl)]) [3] rfl)
    · have c_1 := q_nle (a := (qS P en - qS P fi)) (b := j) (by omega) (by omega) c_1
      refine lv_iload_n hx hb dX2_lay_74 rfl (lv_at hl 1 rfl) ?_
      refine lv_aload_n hx hb dX2_lay_75 rfl (lv_at hl 3 rfl) ?_
      refine o_get (D := D) (ci := 3) (v := .int (nI en)) (C := RX2) (T := TX2) (N := 10) hx hb hts inX2 hown hK hP h_gl rfl 6 (by decide) (hts _ k_394) (fun _ h9 => h9) rfl dX2_lay_76 ?_
      refine lv_icmp_ge (tgt := 181) hx hb dX2_lay_79 (by decide) (fun c_2 => ?_) (fun c_2 => ?_)
      · have c_2 := q_le (a := en) (b := pq) (by omega) (by omega) c_2
        have hpe : ¬ pq < en := fun h9 => by have h8 := qS_in P h9; have h7 := hi h9; omega
        have hB7 : M = B := by rw [hB, rs_sh_out hpe]; rfl
        refine W.widen (k := cE) (n := sE) (by omega) (by omega) ?_
        exact kk Sh ra fa la M f0 f1 f2 v7 v8 v9 x1 x2 x3 x4 x5 x6 _ _ H locs ls (by rw [rs_sh_out hpe, List.append_nil]) hsh ⟨hll, hB7, hM1⟩ h_pr h_pcs h_pc h_es h_nwh h_gl h_lf h_ra h_fa h_la hfr hP hD hS (lv_sub hl (l' := [(0, .ref gl)]) [3] rfl)
      · have c_2 := q_nle (a := en) (b := pq) (by omega) (by omega) c_2
        have hpn : pq < en := by omega
        have hpl_ := h_pc.1
        have hqp := hQ pq (by omega)
        have hrp := h_es.rb hqp.1
        have hi1 := hi hpn
        have hSin := qS_in P hpn
        have hSe := qS_m P hen
        have hgb := gcp_b hll hM1
        have hMB : M ≤ B := by rw [hB]; exact glx_ge _ _ _
        refine lv_aload_n hx hb dX2_lay_82 rfl (lv_at hl 3 rfl) ?_
        refine lv_iload_n hx hb dX2_lay_83 rfl (lv_at hl 1 rfl) ?_
        refine lv_iload hx hb dX2_lay_84 (lv_at hl 2 rfl) ?_
        refine lv_iload_n hx hb dX2_lay_86 rfl (lv_at hl 5 rfl) ?_
        refine o_cv (k := cells) (n := slots) hK hP hD hS hA (o_rV (As := [.int (nI pq), .int (nI ((P.getD pq d4).2.1 + i)), .int (nI mo)]) (rest := []) hf (gl_fill _ _ _ _ _ _ _ _ pr pcs spr nwh cp pa ea P ne EE gl lf ra fa la (Sh.length) en v7 v8 v9 x1 x2 x3 x4 x5 x6 fi mo pq i h_pr h_pcs h_pc h_es h_gl h_lf hpa hQ hen hgF hgT hfi hmo1 hmo hpn (hi hpn) _) k_976 k_973 k_975 k_35 k_96 (nA := 3) (by decide +kernel) ⟨Nat.le_trans (by decide) hRf, Nat.le_trans (by decide) hRl⟩ hK hP hD hS hA hZ hN h_gl rfl rfl rfl hl.1 rfl (Nat.le_of_ble_eq_true rfl) dX2_lay_87 ⟨(show cells + 0 ≤ R.cells by omega), (show slots + 0 ≤ R.slots by omega)⟩) (Nat.le_refl _) (Nat.le_refl _) (fun L g H locs hw hP hD hS => ?_)
        obtain ⟨w7, w8, w9, u1, u2, u3, u4, u5, u6, hmk, hf9, h_gl, h_lf⟩ := hw
        have h_pr := h_pr.fr hf9 (by decide)
        have h_nwh := h_nwh.fr hf9 (by decide)
        have h_ra := h_ra.fr hf9 (by decide)
        have h_fa := h_fa.fr hf9 (by decide)
        have h_la := h_la.fr hf9 (by decide)
        have hfr := hfr.tm hf9 (by decide)
        have h_pcs := h_pcs.frd hf9 (by decide)
        have h_pc := h_pc.frd hf9 (by decide)
        have h_es := h_es.frd hf9 (by decide)
        obtain ⟨⟨t1, t2, t3⟩, hx9, hfar⟩ := rs_some (K := qK EE P) (Fm := qF P) (To := qT P) (Rr := qR EE P) (f := 40) (rows := pb (rp_ra (qK EE P pq) (qF P pq) pq i fi)) (pz_of hQ (show en ≤ P.length by omega)) hmo1 hmo hpn hi1 (pb_le _)
        rw [hx9] at hmk
        obtain ⟨mp, mr, rfl, rfl, rfl, hcase⟩ := hmk
        have hcase : (mp = t1 ∧ mr = (P.getD mp d4).2.1 + t2 ∧ 0 < t2) ∨ (mp + 1 = t1 ∧ mr = (P.getD mp d4).2.2.1 ∧ t2 = 0) := hcase
        have hfar : (pq < t1 ∨ (pq = t1 ∧ i < t2)) ∧ t1 ≤ en ∧ (t1 < en → t2 < (P.getD t1 d4).2.2.1 - (P.getD t1 d4).2.1) ∧ (t1 = en → t2 = 0) ∧ t3 ≤ 40 := hfar
        have hsf : qS P pq + i < qS P t1 + t2 := rs_S_far (To := qT P) (Fm := qF P) (x := (t1, t2, t3)) hfar hi1
        have hse : qS P t1 + t2 ≤ qS P en := rs_S_end (Fm := qF P) (To := qT P) hfar.2.1 hfar.2.2.1 hfar.2.2.2.1
        have hB5 : B = glx (gcp Sh.length M) (Sh.length + 1) (rs_sh (qK EE P) (qF P) (qT P) (qR EE P) fi en mo k t1 t2) := by rw [hB, rs_sh_in hpn hx9]; rfl
        have hB6 : gcp Sh.length M ≤ B := by rw [hB5]; exact glx_ge _ _ _
        rcases hcase with ⟨rfl, rfl, h2⟩ | ⟨rfl, rfl, rfl⟩
        · have hmp : mp < en := by omega
          have hqm := hQ mp (by omega)
          have hrm := h_es.rb hqm.1
          have hfa2 := hfar.2.2.1 hmp
          refine lv_aload_n hx hb dX2_lay_90 rfl (lv_at hl 3 rfl) ?_
          refine lv_aload_n hx hb dX2_lay_91 rfl (lv_at hl 3 rfl) ?_
          refine o_get (D := D) (ci := 3) (v := .int (nI t3)) (C := RX2) (T := TX2) (N := 10) hx hb hts inX2 hown hK hP h_gl rfl 9 (by decide) (hts _ k_397) (fun _ h9 => h9) rfl dX2_lay_92 ?_
          refine lv_iload_n hx hb dX2_lay_95 rfl (lv_at hl 1 rfl) ?_
          refine lv_aload_n hx hb dX2_lay_96 rfl (lv_at hl 3 rfl) ?_
          refine o_get (D := D) (ci := 3) (v := .int (nI mp)) (C := RX2) (T := TX2) (N := 10) hx hb hts inX2 hown hK hP h_gl rfl 7 (by decide) (hts _ k_395) (fun _ h9 => h9) rfl dX2_lay_97 ?_
          refine o_cv (k := cells + (3 * (gcp Sh.length M - M))) (n := slots + (6 * (gcp Sh.length M - M))) hK hP hD hS hA (o_rV (As := [.int (nI t3), .int (nI pq), .int (nI mp)]) (rest := []) hf (gl_add _ _ _ _ _ _ _ _ pr gl lf ra fa la en (nI mp) (nI ((P.getD mp d4).2.1 + t2)) (nI t3) M f0 f1 f2 Sh (nI t3) (nI pq) (nI mp)  h_gl h_ra h_fa h_la hsh (by omega) hM1 hll _) k_957 k_954 k_956 k_33 k_96 (nA := 3) (by decide +kernel) ⟨Nat.le_trans (by decide) hRf, Nat.le_trans (by decide) hRl⟩ hK hP hD hS hA hZ hN h_gl rfl rfl rfl hl.1 rfl (Nat.le_of_ble_eq_true rfl) dX2_lay_100 ⟨(show cells + (3 * (gcp Sh.length M - M)) ≤ R.cells by omega), (show slots + (6 * (gcp Sh.length M - M)) ≤ R.slots by omega)⟩) (by omega) (by omega) (fun L g H locs hw hP hD hS => ?_)
          obtain ⟨ra2, fa2, la2, k0, k1, k2, hsh2, hf9, h_gl, h_ra, h_fa, h_la⟩ := hw
          have h_pr := h_pr.fr hf9 (by decide)
          have h_nwh := h_nwh.fr hf9 (by decide)
          have h_lf := h_lf.fr hf9 (by decide)
          have hfr := hfr.tm hf9 (by decide)
          have h_pcs := h_pcs.frd hf9 (by decide)
          have h_pc := h_pc.frd hf9 (by decide)
          have h_es := h_es.frd hf9 (by decide)
          refine lv_aload_n hx hb dX2_lay_103 rfl (lv_at hl 3 rfl) ?_
          refine o_get (D := D) (ci := 3) (v := .int (nI ((P.getD mp d4).2.1 + t2))) (C := RX2) (T := TX2) (N := 10) hx hb hts inX2 hown hK hP h_gl rfl 8 (by decide) (hts _ k_396) (fun _ h9 => h9) rfl dX2_lay_104 ?_
          refine lv_aload_n hx hb dX2_lay_107 rfl (lv_at hl 3 rfl) ?_
          refine o_get (D := D) (ci := 3) (v := .ref pr) (C := RX2) (T := TX2) (N := 10) hx hb hts inX2 hown hK hP h_gl rfl 0 (by decide) (hts _ k_388) (fun _ h9 => h9) rfl dX2_lay_108 ?_
          refine lv_aload_n hx hb dX2_lay_111 rfl (lv_at hl 3 rfl) ?_
          refine o_get (D := D) (ci := 3) (v := .int (nI mp)) (C := RX2) (T := TX2) (N := 10) hx hb hts inX2 hown hK hP h_gl rfl 7 (by decide) (hts _ k_395) (fun _ h9 => h9) rfl dX2_lay_112 ?_
          refine o_crs (k := cells + (3 * (gcp Sh.length M - M))) (n := slots + (6 * (gcp Sh.length M - M))) hK hP hD hS hA (o_rV (As := [.int (nI mp)]) (rest := [.int (nI ((P.getD mp d4).2.1 + t2))]) hf (p_atI _ _ _ _ _ _ _ _ pr pcs spr nwh cp pa ea P mp h_pr h_pcs h_pc hpa (by omega) _) k_775 k_968 k_773 k_774 k_92 (nA := 1) (by decide +kernel) ⟨Nat.le_trans (by decide) hRf, Nat.le_trans (by decide) hRl⟩ hK hP hD hS hA hZ hN h_pr rfl rfl rfl hl.1 rfl (Nat.le_of_ble_eq_true rfl) dX2_lay_115 ⟨(show cells + (3 * (gcp Sh.length M - M)) + 0 ≤ R.cells by omega), (show slots + (6 * (gcp Sh.length M - M)) + 0 ≤ R.slots by omega)⟩) (Nat.le_refl _) (Nat.le_refl _) (fun r H locs hw hP hD hS => ?_)
          obtain rfl := hw
          have h_p3 := h_pc.2 mp (by omega)
          have hpl_ := h_pc.1
          have hq_p3 := hQ mp (by omega)
          have hr_p3 := h_es.rb hq_p3.1
          refine o_get (D := D) (ci := 6) (v := .int (nI ((P.getD mp d4).2.2.1))) (C := RX5) (T := TX5) (N := 4) hx hb hts inX5 hown hK hP h_p3 rfl 2 (by decide) (hts _ k_288) (fun _ h9 => h9) rfl dX2_lay_118 ?_
          refine lv_icmp_lt (tgt := 128) hx hb dX2_lay_121 (by decide) (fun c_4 => ?_) (fun c_4 => ?_)
          · have c_4 := q_lt (a := (P.getD mp d4).2.1 + t2) (b := (P.getD mp d4).2.2.1) (by omega) (by omega) c_4
            refine lv_iconst (v := 0) hx hb dX2_lay_128 (by decide) ?_
            refine lv_istore (lv' := [(7, .int 0), (6, .int (nI j)), (3, .int (nI pq)), (4, .int (nI ((P.getD pq d4).2.1 + i))), (0, .ref gl), (1, .int (nI gg)), (2, .int (nI mo)), (5, .int (nI ((qS P en - qS P fi))))]) hx hb dX2_lay_129 hl (by decide) rfl (fun ls hl => ?_)
            refine lv_iload hx hb dX2_lay_131 (lv_at hl 0 rfl) ?_
            refine lv_if_eq (tgt := 145) hx hb dX2_lay_133 (by decide) (fun _ => ?_) (fun hno => absurd hno (by decide))
            refine lv_aload_n hx hb dX2_lay_145 rfl (lv_at hl 4 rfl) ?_
            refine o_get (D := D) (ci := 3) (v := .int (nI mp)) (C := RX2) (T := TX2) (N := 10) hx hb hts inX2 hown hK hP h_gl rfl 7 (by decide) (hts _ k_395) (fun _ h9 => h9) rfl dX2_lay_146 ?_
            refine lv_istore_n (lv' := [(3, .int (nI mp)), (7, .int 0), (6, .int (nI j)), (4, .int (nI ((P.getD pq d4).2.1 + i))), (0, .ref gl), (1, .int (nI gg)), (2, .int (nI mo)), (5, .int (nI ((qS P en - qS P fi))))]) hx hb dX2_lay_149 rfl hl (by decide) rfl (fun ls hl => ?_)
            refine lv_iload hx hb dX2_lay_150 (lv_at hl 1 rfl) ?_
            refine lv_if_eq (tgt := 169) hx hb dX2_lay_152 (by decide) (fun _ => ?_) (fun hno => absurd hno (by decide))
            refine lv_aload_n hx hb dX2_lay_169 rfl (lv_at hl 4 rfl) ?_
            refine o_get (D := D) (ci := 3) (v := .int (nI ((P.getD mp d4).2.1 + t2))) (C := RX2) (T := TX2) (N := 10) hx hb hts inX2 hown hK hP h_gl rfl 8 (by decide) (hts _ k_396) (fun _ h9 => h9) rfl dX2_lay_170 ?_
            refine lv_istore (lv' := [(4, .int (nI ((P.getD mp d4).2.1 + t2))), (3, .int (nI mp)), (7, .int 0), (6, .int (nI j)), (0, .ref gl), (1, .int (nI gg)), (2, .int (nI mo)), (5, .int (nI ((qS P en - qS P fi))))]) hx hb dX2_lay_173 hl (by decide) rfl (fun ls hl => ?_)
            refine lv_iinc (v := nI (j + 1)) (lv' := [(6, .int (nI (j + 1))), (4, .int (nI ((P.getD mp d4).2.1 + t2))), (3, .int (nI mp)), (7, .int 0), (0, .ref gl), (1, .int (nI gg)), (2, .int (nI mo)), (5, .int (nI ((qS P en - qS P fi))))]) hx hb dX2_lay_175 hl (k := 3) rfl (nI_addE (a := j) (b := 1) (by omega)) (by decide) rfl (fun ls hl => ?_)
            refine lv_goto (tgt := 67) hx hb dX2_lay_178 (by decide) ?_
            have hlen : (Sh ++ [(nI t3, nI pq, nI mp)]).length = Sh.length + 1 := by rw [List.length_append]; rfl
            refine W.widen (k := cells + 3 * (gcp Sh.length M - M)) (n := slots + 6 * (gcp Sh.length M - M)) (by omega) (by omega) ?_
            rw [← hlen] at h_gl
            exact ih mp t2 (j + 1) (Sh ++ [(nI t3, nI pq, nI mp)]) ra2 fa2 la2 (gcp Sh.length M) k0 k1 k2 _ _ _ u1 u2 u3 u4 u5 u6 _ _ _ _ H locs ls (by omega) hfar.2.2.1 (by omega) (by omega) (by omega) (by omega) hsh2 (by omega) (by rw [hlen]; omega) (by rw [hlen]; exact hB5) (by omega) (by omega) h_pr h_pcs h_pc h_es h_nwh h_gl h_lf h_ra h_fa h_la hfr hP hD hS (lv_sub hl (l' := [(6, .int (nI (j + 1))), (3, .int (nI mp)), (4, .int (nI ((P.getD mp d4).2.1 + t2))), (0, .ref gl), (1, .int (nI gg)), (2, .int (nI mo)), (5, .int (nI ((qS P en - qS P fi))))]) [0, 2, 1, 4, 5, 6, 7] rfl) (fun S2 ra fa la M2 f0 f1 f2 v7 v8 v9 x1 x2 x3 x4 x5 x6 L g H locs ls a1 => kk S2 ra fa la M2 f0 f1 f2 v7 v8 v9 x1 x2 x3 x4 x5 x6 L g H locs ls (a1.trans (by rw [rs_sh_in hpn hx9, List.append_assoc, (show rs_lp (mp, t2, t3) = mp from if_neg (by show ¬ t2 = 0; omega))]; rfl)))
          · have c_4 := q_nlt (a := (P.getD mp d4).2.1 + t2) (b := (P.getD mp d4).2.2.1) (by omega) (by omega) c_4
            exact False.elim (by omega)
        · have hmp : mp < en := by omega
          have hqm := hQ mp (by omega)
          have hrm := h_es.rb hqm.1
          refine lv_aload_n hx hb dX2_lay_90 rfl (lv_at hl 3 rfl) ?_
          refine lv_aload_n hx hb dX2_lay_91 rfl (lv_at hl 3 rfl) ?_
          refine o_get (D := D) (ci := 3) (v := .int (nI t3)) (C := RX2) (T := TX2) (N := 10) hx hb hts inX2 hown hK hP h_gl rfl 9 (by decide) (hts _ k_397) (fun _ h9 => h9) rfl dX2_lay_92 ?_
          refine lv_iload_n hx hb dX2_lay_95 rfl (lv_at hl 1 rfl) ?_
          refine lv_aload_n hx hb dX2_lay_96 rfl (lv_at hl 3 rfl) ?_
          refine o_get (D := D) (ci := 3) (v := .int (nI mp)) (C := RX2) (T := TX2) (N := 10) hx hb hts inX2 hown hK hP h_gl rfl 7 (by decide) (hts _ k_395) (fun _ h9 => h9) rfl dX2_lay_97 ?_
          refine o_cv (k := cells + (3 * (gcp Sh.length M - M))) (n := slots + (6 * (gcp Sh.length M - M))) hK hP hD hS hA (o_rV (As := [.int (nI t3), .int (nI pq), .int (nI mp)]) (rest := []) hf (gl_add _ _ _ _ _ _ _ _ pr gl lf ra fa la en (nI mp) (nI ((P.getD mp d4).2.2.1)) (nI t3) M f0 f1 f2 Sh (nI t3) (nI pq) (nI mp)  h_gl h_ra h_fa h_la hsh (by omega) hM1 hll _) k_957 k_954 k_956 k_33 k_96 (nA := 3) (by decide +kernel) ⟨Nat.le_trans (by decide) hRf, Nat.le_trans (by decide) hRl⟩ hK hP hD hS hA hZ hN h_gl rfl rfl rfl hl.1 rfl (Nat.le_of_ble_eq_true rfl) dX2_lay_100 ⟨(show cells + (3 * (gcp Sh.length M - M)) ≤ R.cells by omega), (show slots + (6 * (gcp Sh.length M - M)) ≤ R.slots by omega)⟩) (by omega) (by omega) (fun L g H locs hw hP hD hS => ?_)
          obtain ⟨ra2, fa2, la2, k0, k1, k2, hsh2, hf9, h_gl, h_ra, h_fa, h_la⟩ := hw
          have h_pr := h_pr.fr hf9 (by decide)
          have h_nwh := h_nwh.fr hf9 (by decide)
          have h_lf := h_lf.fr hf9 (by decide)
          have hfr := hfr.tm hf9 (by decide)
          have h_pcs := h_pcs.frd hf9 (by decide)
          have h_pc := h_pc.frd hf9 (by decide)
          have h_es := h_es.frd hf9 (by decide)
          refine lv_aload_n hx hb dX2_lay_103 rfl (lv_at hl 3 rfl) ?_
          refine o_get (D := D) (ci := 3) (v := .int (nI ((P.getD mp d4).2.2.1))) (C := RX2) (T := TX2) (N := 10) hx hb hts inX2 hown hK hP h_gl rfl 8 (by decide) (hts _ k_396) (fun _ h9 => h9) rfl dX2_lay_104 ?_
          refine lv_aload_n hx hb dX2_lay_107 rfl (lv_at hl 3 rfl) ?_
          refine o_get (D := D) (ci := 3) (v := .ref pr) (C := RX2) (T := TX2) (N := 10) hx hb hts inX2 hown hK hP h_gl rfl 0 (by decide) (hts _ k_388) (fun _ h9 => h9) rfl dX2_lay_108 ?_
          refine lv_aload_n hx hb dX2_lay_111 rfl (lv_at hl 3 rfl) ?_
          refine o_get (D := D) (ci := 3) (v := .int (nI mp)) (C := RX2) (T := TX2) (N := 10) hx hb hts inX2 hown hK hP h_gl rfl 7 (by decide) (hts _ k_395) (fun _ h9 => h9) rfl dX2_lay_112 ?_
          refine o_crs (k := cells + (3 * (gcp Sh.length M - M))) (n := slots + (6 * (gcp Sh.length M - M))) hK hP hD hS hA (o_rV (As := [.int (nI mp)]) (rest := [.int (nI ((P.getD mp d4).2.2.1))]) hf (p_atI _ _ _ _ _ _ _ _ pr pcs spr nwh cp pa ea P mp h_pr h_pcs h_pc hpa (by omega) _) k_775 k_968 k_773 k_774 k_92 (nA := 1) (by decide +kernel) ⟨Nat.le_trans (by decide) hRf, Nat.le_trans (by decide) hRl⟩ hK hP hD hS hA hZ hN h_pr rfl rfl rfl hl.1 rfl (Nat.le_of_ble_eq_true rfl) dX2_lay_115 ⟨(show cells + (3 * (gcp Sh.length M - M)) + 0 ≤ R.cells by omega), (show slots + (6 * (gcp Sh.length M - M)) + 0 ≤ R.slots by omega)⟩) (Nat.le_refl _) (Nat.le_refl _) (fun r H locs hw hP hD hS => ?_)
          obtain rfl := hw
          have h_p5 := h_pc.2 mp (by omega)
          have hpl_ := h_pc.1
          have hq_p5 := hQ mp (by omega)
          have hr_p5 := h_es.rb hq_p5.1
          refine o_get (D := D) (ci := 6) (v := .int (nI ((P.getD mp d4).2.2.1))) (C := RX5) (T := TX5) (N := 4) hx hb hts inX5 hown hK hP h_p5 rfl 2 (by decide) (hts _ k_288) (fun _ h9 => h9) rfl dX2_lay_118 ?_
          refine lv_icmp_lt (tgt := 128) hx hb dX2_lay_121 (by decide) (fun c_6 => ?_) (fun c_6 => ?_)
          · have c_6 := q_lt (a := (P.getD mp d4).2.2.1) (b := (P.getD mp d4).2.2.1) (by omega) (by omega) c_6
            exact False.elim (by omega)
          · have c_6 := q_nlt (a := (P.getD mp d4).2.2.1) (b := (P.getD mp d4).2.2.1) (by omega) (by omega) c_6
            refine lv_iconst (v := 1) hx hb dX2_lay_124 (by decide) ?_
            refine lv_goto (tgt := 129) hx hb dX2_lay_125 (by decide) ?_
            refine lv_istore (lv' := [(7, .int 1), (6, .int (nI j)), (3, .int (nI pq)), (4, .int (nI ((P.getD pq d4).2.1 + i))), (0, .ref gl), (1, .int (nI gg)), (2, .int (nI mo)), (5, .int (nI ((qS P en - qS P fi))))]) hx hb dX2_lay_129 hl (by decide) rfl (fun ls hl => ?_)
            refine lv_iload hx hb dX2_lay_131 (lv_at hl 0 rfl) ?_
            refine lv_if_eq (tgt := 145) hx hb dX2_lay_133 (by decide) (fun hno => absurd hno (by decide)) (fun _ => ?_)
            refine lv_aload_n hx hb dX2_lay_136 rfl (lv_at hl 4 rfl) ?_
            refine o_get (D := D) (ci := 3) (v := .int (nI mp)) (C := RX2) (T := TX2) (N := 10) hx hb hts inX2 hown hK hP h_gl rfl 7 (by decide) (hts _ k_395) (fun _ h9 => h9) rfl dX2_lay_137 ?_
            refine lv_iconst (v := 1) hx hb dX2_lay_140 (by decide) ?_
            refine lv_iadd hx hb dX2_lay_141 ?_
            refine q_seti (y := nI (mp + 1)) (nI_addE (a := mp) (b := 1) (by omega)) ?_
            refine lv_goto (tgt := 149) hx hb dX2_lay_142 (by decide) ?_
            refine lv_istore_n (lv' := [(3, .int (nI (mp + 1))), (7, .int 1), (6, .int (nI j)), (4, .int (nI ((P.getD pq d4).2.1 + i))), (0, .ref gl), (1, .int (nI gg)), (2, .int (nI mo)), (5, .int (nI ((qS P en - qS P fi))))]) hx hb dX2_lay_149 rfl hl (by decide) rfl (fun ls hl => ?_)
            refine lv_iload hx hb dX2_lay_150 (lv_at hl 1 rfl) ?_
            refine lv_if_eq (tgt := 169) hx hb dX2_lay_152 (by decide) (fun hno => absurd hno (by decide)) (fun _ => ?_)
            by_cases hin : mp + 1 < pa.length
            · have hP := hP
              refine lv_aload_n hx hb dX2_lay_155 rfl (lv_at hl 4 rfl) ?_
              refine o_get (D := D) (ci := 3) (v := .ref pr) (C := RX2) (T := TX2) (N := 10) hx hb hts inX2 hown hK hP h_gl rfl 0 (by decide) (hts _ k_388) (fun _ h9 => h9) rfl dX2_lay_156 ?_
              refine lv_iload_n hx hb dX2_lay_159 rfl (lv_at hl 0 rfl) ?_
              refine o_crs (k := cells + (3 * (gcp Sh.length M - M))) (n := slots + (6 * (gcp Sh.length M - M))) hK hP hD hS hA (o_rV (As := [.int (nI (mp + 1))]) (rest := []) hf (p_atI _ _ _ _ _ _ _ _ pr pcs spr nwh cp pa ea P (mp + 1) h_pr h_pcs h_pc hpa (by omega) _) k_775 k_968 k_773 k_774 k_92 (nA := 1) (by decide +kernel) ⟨Nat.le_trans (by decide) hRf, Nat.le_trans (by decide) hRl⟩ hK hP hD hS hA hZ hN h_pr rfl rfl rfl hl.1 rfl (Nat.le_of_ble_eq_true rfl) dX2_lay_160 ⟨(show cells + (3 * (gcp Sh.length M - M)) + 0 ≤ R.cells by omega), (show slots + (6 * (gcp Sh.length M - M)) + 0 ≤ R.slots by omega)⟩) (Nat.le_refl _) (Nat.le_refl _) (fun r H locs hw hP hD hS => ?_)
              obtain rfl := hw
              have h_p7 := h_pc.2 (mp + 1) (by omega)
              have hpl_ := h_pc.1
              have hq_p7 := hQ (mp + 1) (by omega)
              have hr_p7 := h_es.rb hq_p7.1
              refine o_get (D := D) (ci := 6) (v := .int (nI ((P.getD (mp + 1) d4).2.1))) (C := RX5) (T := TX5) (N := 4) hx hb hts inX5 hown hK hP h_p7 rfl 1 (by decide) (hts _ k_284) (fun _ h9 => h9) rfl dX2_lay_163 ?_
              refine lv_goto (tgt := 173) hx hb dX2_lay_166 (by decide) ?_
              refine lv_istore (lv' := [(4, .int (nI ((P.getD (mp + 1) d4).2.1))), (3, .int (nI (mp + 1))), (7, .int 1), (6, .int (nI j)), (0, .ref gl), (1, .int (nI gg)), (2, .int (nI mo)), (5, .int (nI ((qS P en - qS P fi))))]) hx hb dX2_lay_173 hl (by decide) rfl (fun ls hl => ?_)
              refine lv_iinc (v := nI (j + 1)) (lv' := [(6, .int (nI (j + 1))), (4, .int (nI ((P.getD (mp + 1) d4).2.1))), (3, .int (nI (mp + 1))), (7, .int 1), (0, .ref gl), (1, .int (nI gg)), (2, .int (nI mo)), (5, .int (nI ((qS P en - qS P fi))))]) hx hb dX2_lay_175 hl (k := 3) rfl (nI_addE (a := j) (b := 1) (by omega)) (by decide) rfl (fun ls hl => ?_)
              refine lv_goto (tgt := 67) hx hb dX2_lay_178 (by decide) ?_
              have hlen : (Sh ++ [(nI t3, nI pq, nI mp)]).length = Sh.length + 1 := by rw [List.length_append]; rfl
              have hz1 : mp + 1 < en → 0 < (P.getD (mp + 1) d4).2.2.1 - (P.getD (mp + 1) d4).2.1 := fun h9 => by have h8 := hQ (mp + 1) (by omega); omega
              refine W.widen (k := cells + 3 * (gcp Sh.length M - M)) (n := slots + 6 * (gcp Sh.length M - M)) (by omega) (by omega) ?_
              rw [← hlen] at h_gl
              exact ih (mp + 1) 0 (j + 1) (Sh ++ [(nI t3, nI pq, nI mp)]) ra2 fa2 la2 (gcp Sh.length M) k0 k1 k2 _ _ _ u1 u2 u3 u4 u5 u6 _ _ _ _ H locs ls (by omega) hz1 (by omega) (by omega) (by omega) (by omega) hsh2 (by omega) (by rw [hlen]; omega) (by rw [hlen]; exact hB5) (by omega) (by omega) h_pr h_pcs h_pc h_es h_nwh h_gl h_lf h_ra h_fa h_la hfr hP hD hS (lv_sub hl (l' := [(6, .int (nI (j + 1))), (3, .int (nI (mp + 1))), (4, .int (nI ((P.getD (mp + 1) d4).2.1))), (0, .ref gl), (1, .int (nI gg)), (2, .int (nI mo)), (5, .int (nI ((qS P en - qS P fi))))]) [0, 2, 1, 4, 5, 6, 7] rfl) (fun S2 ra fa la M2 f0 f1 f2 v7 v8 v9 x1 x2 x3 x4 x5 x6 L g H locs ls a1 => kk S2 ra fa la M2 f0 f1 f2 v7 v8 v9 x1 x2 x3 x4 x5 x6 L g H locs ls (a1.trans (by rw [rs_sh_in hpn hx9, List.append_assoc, (show rs_lp (mp + 1, 0, t3) = mp from if_pos rfl)]; rfl)))
            · have hP := hP
              refine lv_aload_n hx hb dX2_lay_155 rfl (lv_at hl 4 rfl) ?_
              refine o_get (D := D) (ci := 3) (v := .ref pr) (C := RX2) (T := TX2) (N := 10) hx hb hts inX2 hown hK hP h_gl rfl 0 (by decide) (hts _ k_388) (fun _ h9 => h9) rfl dX2_lay_156 ?_
              refine lv_iload_n hx hb dX2_lay_159 rfl (lv_at hl 0 rfl) ?_
              refine o_crs (k := cells + (3 * (gcp Sh.length M - M))) (n := slots + (6 * (gcp Sh.length M - M))) hK hP hD hS hA (o_rV (As := [.int (nI (mp + 1))]) (rest := []) hf (p_atO _ _ _ _ _ _ _ _ pr pcs spr nwh cp pa ea P (mp + 1) h_pr h_pcs hpa (by omega) (by omega) _) k_775 k_968 k_773 k_774 k_92 (nA := 1) (by decide +kernel) ⟨Nat.le_trans (by decide) hRf, Nat.le_trans (by decide) hRl⟩ hK hP hD hS hA hZ hN h_pr rfl rfl rfl hl.1 rfl (Nat.le_of_ble_eq_true rfl) dX2_lay_160 ⟨(show cells + (3 * (gcp Sh.length M - M)) + 0 ≤ R.cells by omega), (show slots + (6 * (gcp Sh.length M - M)) + 0 ≤ R.slots by omega)⟩) (Nat.le_refl _) (Nat.le_refl _) (fun r H locs hw hP hD hS => ?_)
              obtain rfl := hw
              refine o_get (D := D) (ci := 6) (v := .int 0) (C := RX5) (T := TX5) (N := 4) hx hb hts inX5 hown hK hP h_nwh rfl 1 (by decide) (hts _ k_284) (fun _ h9 => h9) rfl dX2_lay_163 ?_
              refine lv_goto (tgt := 173) hx hb dX2_lay_166 (by decide) ?_
              refine q_seti (y := nI ((P.getD (mp + 1) d4).2.1 + 0)) (by rw [d4_out (show P.length ≤ mp + 1 by omega)]; rfl) ?_
              refine lv_istore (lv' := [(4, .int (nI ((P.getD (mp + 1) d4).2.1 + 0))), (3, .int (nI (mp + 1))), (7, .int 1), (6, .int (nI j)), (0, .ref gl), (1, .int (nI gg)), (2, .int (nI mo)), (5, .int (nI ((qS P en - qS P fi))))]) hx hb dX2_lay_173 hl (by decide) rfl (fun ls hl => ?_)
              refine lv_iinc (v := nI (j + 1)) (lv' := [(6, .int (nI (j + 1))), (4, .int (nI ((P.getD (mp + 1) d4).2.1 + 0))), (3, .int (nI (mp + 1))), (7, .int 1), (0, .ref gl), (1, .int (nI gg)), (2, .int (nI mo)), (5, .int (nI ((qS P en - qS P fi))))]) hx hb dX2_lay_175 hl (k := 3) rfl (nI_addE (a := j) (b := 1) (by omega)) (by decide) rfl (fun ls hl => ?_)
              refine lv_goto (tgt := 67) hx hb dX2_lay_178 (by decide) ?_
              have hlen : (Sh ++ [(nI t3, nI pq, nI mp)]).length = Sh.length + 1 := by rw [List.length_append]; rfl
              have hz1 : mp + 1 < en → 0 < (P.getD (mp + 1) d4).2.2.1 - (P.getD (mp + 1) d4).2.1 := fun h9 => by have h8 := hQ (mp + 1) (by omega); omega
              refine W.widen (k := cells + 3 * (gcp Sh.length M - M)) (n := slots + 6 * (gcp Sh.length M - M)) (by omega) (by omega) ?_
              rw [← hlen] at h_gl
              exact ih (mp + 1) 0 (j + 1) (Sh ++ [(nI t3, nI pq, nI mp)]) ra2 fa2 la2 (gcp Sh.length M) k0 k1 k2 _ _ _ u1 u2 u3 u4 u5 u6 _ _ _ _ H locs ls (by omega) hz1 (by omega) (by omega) (by omega) (by omega) hsh2 (by omega) (by rw [hlen]; omega) (by rw [hlen]; exact hB5) (by omega) (by omega) h_pr h_pcs h_pc h_es h_nwh h_gl h_lf h_ra h_fa h_la hfr hP hD hS (lv_sub hl (l' := [(6, .int (nI (j + 1))), (3, .int (nI (mp + 1))), (4, .int (nI ((P.getD (mp + 1) d4).2.1 + 0))), (0, .ref gl), (1, .int (nI gg)), (2, .int (nI mo)), (5, .int (nI ((qS P en - qS P fi))))]) [0, 2, 1, 4, 5, 6, 7] rfl) (fun S2 ra fa la M2 f0 f1 f2 v7 v8 v9 x1 x2 x3 x4 x5 x6 L g H locs ls a1 => kk S2 ra fa la M2 f0 f1 f2 v7 v8 v9 x1 x2 x3 x4 x5 x6 L g H locs ls (a1.trans (by rw [rs_sh_in hpn hx9, List.append_assoc, (show rs_lp (mp + 1, 0, t3) = mp from if_pos rfl)]; rfl)))
set_option maxHeartbeats 1000000 in
set_option maxRecDepth 100000 in
theorem gl_layE (l : Launch) (D : va_G) (z : Nat → Nat) (cB cI_ cO : ClassId) (L0 : List Nat) (g0 : hG) (pr pcs spr nwh cp : Nat) (pa : List Nat) (ea : Nat → Nat) (P : List Q4) (ne : Nat) (EE : Nat → E5) (nob gl lf ra fa la : Nat) (v5 v6 v7 v8 v9 x1 x2 x3 x4 x5 x6 : Int32) (M : Nat) (f0 f1 f2 : Nat → Int32) (mo gg fi en B : Nat) (h_pr : ho L0 g0 pr 13 (.inr (7, [.ref pcs, .ref spr, .ref nwh]))) (h_pcs : alR cO (z 0) 14 15 L0 g0 pcs cp pa) (h_pc : pcR L0 g0 ea pa P) (h_es : esR cB cI_ L0 g0 ea ne EE) (h_nwh : ho L0 g0 nwh 19 (.inr (6, [.ref nob, .int 0, .int 0, .int 0]))) (h_gl : ho L0 g0 gl 25 (.inr (3, [.ref pr, .ref lf, .ref ra, .ref fa, .ref la, .int v5, .int v6, .int v7, .int v8, .int v9]))) (h_lf : ho L0 g0 lf 20 (.inr (4, [.ref pr, .int x1, .int x2, .int x3, .int x4, .int x5, .int x6]))) (h_ra : ho L0 g0 ra 26 (.inl (cI_, M, .inl f0))) (h_fa : ho L0 g0 fa 27 (.inl (cI_, M, .inl f1))) (h_la : ho L0 g0 la 28 (.inl (cI_, M, .inl f2))) (hpa : pa.length ≤ 20000) (hQ : pq_ok ne EE P) (hSn : qS P pa.length ≤ 8000) (hmo1 : 10 ≤ mo) (hmo : mo ≤ 40) (hgg : gg ≤ 20000) (hG : ∀ t, t < pa.length → (P.getD t d4).2.2.2 ≤ 30000) (efi : fi = rg_first (fun t => (P.getD t d4).2.2.2) gg pa.length 0) (een : en = rg_first (fun t => (P.getD t d4).2.2.2) (gg + 1) pa.length 0) (hgF : ∀ p, fi < p → p < en → (P.getD p d4).2.1 = 0) (hgT : ∀ p, fi ≤ p → p + 1 < en → (P.getD p d4).2.2.1 = eRw (EE (P.getD p d4).1)) (hM1 : 1 ≤ M) (hB9 : B ≤ 30000) (hfe : en ≤ fi) (hB2 : B = gcp 0 M) : eV l D yX2_lay cX2_lay 8 none 10 300 (3 * (B - M)) (6 * (B - M)) [.ref gl, .int (nI gg), .int (nI mo)] z cB cI_ cO L0 g0 (fun L g => ∃ (S2 : List I3) (ra2 fa2 la2 M2 : Nat) (k0 k1 k2 : Nat → Int32) (w7 w8 w9 u1 u2 u3 u4 u5 u6 : Int32), S2 = [(0, -1, -1)] ∧ sh_is S2 k0 k1 k2 ∧ (S2.length ≤ M2 ∧ M2 = B ∧ 1 ≤ M2) ∧ fr [20, 25, 26, 27, 28] L0 g0 L g ∧ ho L g gl 25 (.inr (3, [.ref pr, .ref lf, .ref ra2, .ref fa2, .ref la2, .int (nI (S2.length)), .int (nI en), .int w7, .int w8, .int w9])) ∧ ho L g lf 20 (.inr (4, [.ref pr, .int u1, .int u2, .int u3, .int u4, .int u5, .int u6])) ∧ ho L g ra2 26 (.inl (cI_, M2, .inl k0)) ∧ ho L g fa2 27 (.inl (cI_, M2, .inl k1)) ∧ ho L g la2 28 (.inl (cI_, M2, .inl k2))) := by
  refine o_sv (by decide) (Nat.le_of_ble_eq_true rfl) ?_
  intro p e s m below meth c A ls hf hr hlocks hin hK hP hD hS hA hZ hN hl
  obtain ⟨hx, hb, hml, hown, hts⟩ := id hf
  have hl : lv_has ls 8 [(0, .ref gl), (1, .int (nI gg)), (2, .int (nI mo))] := hl
  have hpl_ := h_pc.1
  have hfb := rg_first_le (fun t => (P.getD t d4).2.2.2) gg pa.length 0
  rw [← efi] at hfb
  have heb := rg_first_le (fun t => (P.getD t d4).2.2.2) (gg + 1) pa.length 0
  rw [← een] at heb
  have hen : en ≤ pa.length := by omega
  have hsh : sh_is ([] : List I3) f0 f1 f2 := fun j h9 => absurd h9 (Nat.not_lt_zero j)
  have hll : ([] : List I3).length ≤ M := Nat.zero_le _
  have hgb := gcp_b hll hM1
  have hl0_ : ([] : List I3).length = 0 := rfl
  have hB2 : B = gcp ([] : List I3).length M := hB2
  have hfr : fr [20, 25, 26, 27, 28] L0 g0 L0 g0 := fr.rf
  refine lv_aload_n hx hb dX2_lay_0 rfl (lv_at hl 0 rfl) ?_
  refine lv_iconst (v := 0) hx hb dX2_lay_1 (by decide) ?_
  refine o_put (D := D) (ci := 3) (v := .int 0) (ty := .int) (C := RX2) (T := TX2) (N := 10) (fs1 := [.ref pr, .ref lf, .ref ra, .ref fa, .ref la, .int 0, .int v6, .int v7, .int v8, .int v9]) hx hb hts inX2 tyX2 tyX2_ok nmX2 hown hK hP hD hS h_gl rfl 5 (by decide) (hts _ k_393) (fun _ h9 => h9) rfl (by decide +kernel) rfl rfl (Nat.le_of_ble_eq_true rfl) rfl dX2_lay_2 (fun g H locs h_gl hu hP hD hS => ?_)
  have h_pr := h_pr.up hu (by decide)
  have h_nwh := h_nwh.up hu (by decide)
  have h_lf := h_lf.up hu (by decide)
  have h_ra := h_ra.up hu (by decide)
  have h_fa := h_fa.up hu (by decide)
  have h_la := h_la.up hu (by decide)
  have hfr := hfr.up hu (by decide)
  have h_pcs := h_pcs.frd hu.fr (by decide)
  have h_pc := h_pc.frd hu.fr (by decide)
  have h_es := h_es.frd hu.fr (by decide)
  refine lv_aload_n hx hb dX2_lay_5 rfl (lv_at hl 0 rfl) ?_
  refine o_get (D := D) (ci := 3) (v := .ref pr) (C := RX2) (T := TX2) (N := 10) hx hb hts inX2 hown hK hP h_gl rfl 0 (by decide) (hts _ k_388) (fun _ h9 => h9) rfl dX2_lay_6 ?_
  refine lv_iload_n hx hb dX2_lay_9 rfl (lv_at hl 1 rfl) ?_
  refine o_cis (k := 0) (n := 0) hK hP hD hS hA (o_rV (As := [.int (nI gg)]) (rest := []) hf (p_group _ _ _ _ _ _ _ _ pr pcs spr nwh cp pa ea P gg h_pr h_pcs h_pc hpa (by omega) hG _) k_953 k_950 k_951 k_952 k_92 (nA := 1) (by decide +kernel) ⟨Nat.le_of_ble_eq_true rfl, Nat.le_of_ble_eq_true rfl⟩ hK hP hD hS hA hZ hN h_pr rfl rfl rfl hl.1 rfl (Nat.le_of_ble_eq_true rfl) dX2_lay_10 ⟨(show 0 + 0 ≤ 3 * (B - M) by omega), (show 0 + 0 ≤ 6 * (B - M) by omega)⟩) (Nat.le_refl _) (Nat.le_refl _) (fun r H locs hw hP hD hS => ?_)
  obtain rfl := hw
  refine q_seti (y := nI fi) (congrArg nI efi.symm) ?_
  refine lv_istore_n (lv' := [(3, .int (nI fi)), (0, .ref gl), (1, .int (nI gg)), (2, .int (nI mo))]) hx hb dX2_lay_13 rfl hl (by decide) rfl (fun ls hl => ?_)
  refine lv_aload_n hx hb dX2_lay_14 rfl (lv_at hl 1 rfl) ?_
  refine lv_aload_n hx hb dX2_lay_15 rfl (lv_at hl 1 rfl) ?_
  refine o_get (D := D) (ci := 3) (v := .ref pr) (C := RX2) (T := TX2) (N := 10) hx hb hts inX2 hown hK hP h_gl rfl 0 (by decide) (hts _ k_388) (fun _ h9 => h9) rfl dX2_lay_16 ?_
  refine lv_iload_n hx hb dX2_lay_19 rfl (lv_at hl 2 rfl) ?_
  refine lv_iconst (v := 1) hx hb dX2_lay_20 (by decide) ?_
  refine lv_iadd hx hb dX2_lay_21 ?_
  refine q_seti (y := nI (gg + 1)) (nI_addE (a := gg) (b := 1) (by omega)) ?_
  refine o_cis (k := 0) (n := 0) hK hP hD hS hA (o_rV (As := [.int (nI (gg + 1))]) (rest := [.ref gl]) hf (p_group _ _ _ _ _ _ _ _ pr pcs spr nwh cp pa ea P (gg + 1) h_pr h_pcs h_pc hpa (by omega) hG _) k_953 k_950 k_951 k_952 k_92 (nA := 1) (by decide +kernel) ⟨Nat.le_of_ble_eq_true rfl, Nat.le_of_ble_eq_true rfl⟩ hK hP hD hS hA hZ hN h_pr rfl rfl rfl hl.1 rfl (Nat.le_of_ble_eq_true rfl) dX2_lay_22 ⟨(show 0 + 0 ≤ 3 * (B - M) by omega), (show 0 + 0 ≤ 6 * (B - M) by omega)⟩) (Nat.le_refl _) (Nat.le_refl _) (fun r H locs hw hP hD hS => ?_)
  obtain rfl := hw
  refine q_seti (y := nI en) (congrArg nI een.symm) ?_
  refine o_put (D := D) (ci := 3) (v := .int (nI en)) (ty := .int) (C := RX2) (T := TX2) (N := 10) (fs1 := [.ref pr, .ref lf, .ref ra, .ref fa, .ref la, .int 0, .int (nI en), .int v7, .int v8, .int v9]) hx hb hts inX2 tyX2 tyX2_ok nmX2 hown hK hP hD hS h_gl rfl 6 (by decide) (hts _ k_394) (fun _ h9 => h9) rfl (by decide +kernel) rfl rfl (Nat.le_of_ble_eq_true rfl) rfl dX2_lay_25 (fun g H locs h_gl hu hP hD hS => ?_)
  have h_pr := h_pr.up hu (by decide)
  have h_nwh := h_nwh.up hu (by decide)
  have h_lf := h_lf.up hu (by decide)
  have h_ra := h_ra.up hu (by decide)
  have h_fa := h_fa.up hu (by decide)
  have h_la := h_la.up hu (by decide)
  have hfr := hfr.up hu (by decide)
  have h_pcs := h_pcs.frd hu.fr (by decide)
  have h_pc := h_pc.frd hu.fr (by decide)
  have h_es := h_es.frd hu.fr (by decide)
  refine lv_iload_n hx hb dX2_lay_28 rfl (lv_at hl 0 rfl) ?_
  refine lv_aload_n hx hb dX2_lay_29 rfl (lv_at hl 1 rfl) ?_
  refine o_get (D := D) (ci := 3) (v := .int (nI en)) (C := RX2) (T := TX2) (N := 10) hx hb hts inX2 hown hK hP h_gl rfl 6 (by decide) (hts _ k_394) (fun _ h9 => h9) rfl dX2_lay_30 ?_
  refine lv_icmp_lt (tgt := 44) hx hb dX2_lay_33 (by decide) (fun c_1 => ?_) (fun c_1 => ?_)
  · have c_1 := q_lt (a := fi) (b := en) (by omega) (by omega) c_1
    exact False.elim (by omega)
  · have c_1 := q_nlt (a := fi) (b := en) (by omega) (by omega) c_1
    refine lv_aload_n hx hb dX2_lay_36 rfl (lv_at hl 1 rfl) ?_
    refine lv_iconst (v := 0) hx hb dX2_lay_37 (by decide) ?_
    refine lv_iconst (v := (-1)) hx hb dX2_lay_38 (by decide) ?_
    refine lv_iconst (v := (-1)) hx hb dX2_lay_39 (by decide) ?_
    refine o_cv (k := 0 + (3 * (gcp (([] : List I3)).length M - M))) (n := 0 + (6 * (gcp (([] : List I3)).length M - M))) hK hP hD hS hA (o_rV (As := [.int 0, .int (-1), .int (-1)]) (rest := []) hf (gl_add _ _ _ _ _ _ _ _ pr gl lf ra fa la en v7 v8 v9 M f0 f1 f2 (([] : List I3)) 0 (-1) (-1)  h_gl h_ra h_fa h_la hsh (by omega) hM1 hll _) k_957 k_954 k_956 k_33 k_96 (nA := 3) (by decide +kernel) ⟨Nat.le_of_ble_eq_true rfl, Nat.le_of_ble_eq_true rfl⟩ hK hP hD hS hA hZ hN h_gl rfl rfl rfl hl.1 rfl (Nat.le_of_ble_eq_true rfl) dX2_lay_40 ⟨(show 0 + (3 * (gcp (([] : List I3)).length M - M)) ≤ 3 * (B - M) by omega), (show 0 + (6 * (gcp (([] : List I3)).length M - M)) ≤ 6 * (B - M) by omega)⟩) (by omega) (by omega) (fun L g H locs hw hP hD hS => ?_)
    obtain ⟨ra2, fa2, la2, k0, k1, k2, hsh2, hf9, h_gl, h_ra, h_fa, h_la⟩ := hw
    have h_pr := h_pr.fr hf9 (by decide)
    have h_nwh := h_nwh.fr hf9 (by decide)
    have h_lf := h_lf.fr hf9 (by decide)
    have hfr := hfr.tm hf9 (by decide)
    have h_pcs := h_pcs.frd hf9 (by decide)
    have h_pc := h_pc.frd hf9 (by decide)
    have h_es := h_es.frd hf9 (by decide)
    exact o_rv hf hr hlocks hK hP hD hS (show 0 + (3 * (gcp (([] : List I3)).length M - M)) ≤ 3 * (B - M) by omega) (show 0 + (6 * (gcp (([] : List I3)).length M - M)) ≤ 6 * (B - M) by omega) ⟨[(0, -1, -1)], ra2, fa2, la2, _, k0, k1, k2, v7, v8, v9, x1, x2, x3, x4, x5, x6, rfl, hsh2, ⟨by show 1 ≤ _; omega, hB2.symm, by omega⟩, hfr, h_gl, h_lf, h_ra, h_fa, h_la⟩ dX2_lay_43
set_option maxHeartbeats 1000000 in
set_option maxRecDepth 100000 in
theorem gl_layN (l : Launch) (D : va_G) (z : Nat → Nat) (cB cI_ cO : ClassId) (L0 : List Nat) (g0 : hG) (pr pcs spr nwh cp : Nat) (pa : List Nat) (ea : Nat → Nat) (P : List Q4) (ne : Nat) (EE : Nat → E5) (nob gl lf ra fa la : Nat) (v5 v6 v7 v8 v9 x1 x2 x3 x4 x5 x6 : Int32) (M : Nat) (f0 f1 f2 : Nat → Int32) (mo gg fi en B : Nat) (h_pr : ho L0 g0 pr 13 (.inr (7, [.ref pcs, .ref spr, .ref nwh]))) (h_pcs : alR cO (z 0) 14 15 L0 g0 pcs cp pa) (h_pc : pcR L0 g0 ea pa P) (h_es : esR cB cI_ L0 g0 ea ne EE) (h_nwh : ho L0 g0 nwh 19 (.inr (6, [.ref nob, .int 0, .int 0, .int 0]))) (h_gl : ho L0 g0 gl 25 (.inr (3, [.ref pr, .ref lf, .ref ra, .ref fa, .ref la, .int v5, .int v6, .int v7, .int v8, .int v9]))) (h_lf : ho L0 g0 lf 20 (.inr (4, [.ref pr, .int x1, .int x2, .int x3, .int x4, .int x5, .int x6]))) (h_ra : ho L0 g0 ra 26 (.inl (cI_, M, .inl f0))) (h_fa : ho L0 g0 fa 27 (.inl (cI_, M, .inl f1))) (h_la : ho L0 g0 la 28 (.inl (cI_, M, .inl f2))) (hpa : pa.length ≤ 20000) (hQ : pq_ok ne EE P) (hSn : qS P pa.length ≤ 8000) (hmo1 : 10 ≤ mo) (hmo : mo ≤ 40) (hgg : gg ≤ 20000) (hG : ∀ t, t < pa.length → (P.getD t d4).2.2.2 ≤ 30000) (efi : fi = rg_first (fun t => (P.getD t d4).2.2.2) gg pa.length 0) (een : en = rg_first (fun t => (P.getD t d4).2.2.2) (gg + 1) pa.length 0) (hgF : ∀ p, fi < p → p < en → (P.getD p d4).2.1 = 0) (hgT : ∀ p, fi ≤ p → p + 1 < en → (P.getD p d4).2.2.1 = eRw (EE (P.getD p d4).1)) (hM1 : 1 ≤ M) (hB9 : B ≤ 30000) (hfe : fi < en) (hB2 : B = glx M 0 (rs_sh (qK EE P) (qF P) (qT P) (qR EE P) fi en mo 8000 fi 0)) : eV l D yX2_lay cX2_lay 8 none 10 300 (3 * (B - M)) (6 * (B - M)) [.ref gl, .int (nI gg), .int (nI mo)] z cB cI_ cO L0 g0 (fun L g => ∃ (S2 : List I3) (ra2 fa2 la2 M2 : Nat) (k0 k1 k2 : Nat → Int32) (w7 w8 w9 u1 u2 u3 u4 u5 u6 : Int32), S2 = rs_sh (qK EE P) (qF P) (qT P) (qR EE P) fi en mo 8000 fi 0 ∧ sh_is S2 k0 k1 k2 ∧ (S2.length ≤ M2 ∧ M2 = B ∧ 1 ≤ M2) ∧ fr [20, 25, 26, 27, 28] L0 g0 L g ∧ ho L g gl 25 (.inr (3, [.ref pr, .ref lf, .ref ra2, .ref fa2, .ref la2, .int (nI (S2.length)), .int (nI en), .int w7, .int w8, .int w9])) ∧ ho L g lf 20 (.inr (4, [.ref pr, .int u1, .int u2, .int u3, .int u4, .int u5, .int u6])) ∧ ho L g ra2 26 (.inl (cI_, M2, .inl k0)) ∧ ho L g fa2 27 (.inl (cI_, M2, .inl k1)) ∧ ho L g la2 28 (.inl (cI_, M2, .inl k2))) := by
  refine o_sv (by decide) (Nat.le_of_ble_eq_true rfl) ?_
  intro p e s m below meth c A ls hf hr hlocks hin hK hP hD hS hA hZ hN hl
  obtain ⟨hx, hb, hml, hown, hts⟩ := id hf
  have hl : lv_has ls 8 [(0, .ref gl), (1, .int (nI gg)), (2, .int (nI mo))] := hl
  have hpl_ := h_pc.1
  have hfb := rg_first_le (fun t => (P.getD t d4).2.2.2) gg pa.length 0
  rw [← efi] at hfb
  have heb := rg_first_le (fun t => (P.getD t d4).2.2.2) (gg + 1) pa.length 0
  rw [← een] at heb
  have hen : en ≤ pa.length := by omega
  have hSm := qS_m P hen
  have hfr : fr [20, 25, 26, 27, 28] L0 g0 L0 g0 := fr.rf
  refine lv_aload_n hx hb dX2_lay_0 rfl (lv_at hl 0 rfl) ?_
  refine lv_iconst (v := 0) hx hb dX2_lay_1 (by decide) ?_
  refine o_put (D := D) (ci := 3) (v := .int 0) (ty := .int) (C := RX2) (T := TX2) (N := 10) (fs1 := [.ref pr, .ref lf, .ref ra, .ref fa, .ref la, .int 0, .int v6, .int v7, .int v8, .int v9]) hx hb hts inX2 tyX2 tyX2_ok nmX2 hown hK hP hD hS h_gl rfl 5 (by decide) (hts _ k_393) (fun _ h9 => h9) rfl (by decide +kernel) rfl rfl (Nat.le_of_ble_eq_true rfl) rfl dX2_lay_2 (fun g H locs h_gl hu hP hD hS => ?_)
  have h_pr := h_pr.up hu (by decide)
  have h_nwh := h_nwh.up hu (by decide)
  have h_lf := h_lf.up hu (by decide)
  have h_ra := h_ra.up hu (by decide)
  have h_fa := h_fa.up hu (by decide)
  have h_la := h_la.up hu (by decide)
  have hfr := hfr.up hu (by decide)
  have h_pcs := h_pcs.frd hu.fr (by decide)
  have h_pc := h_pc.frd hu.fr (by decide)
  have h_es := h_es.frd hu.fr (by decide)
  refine lv_aload_n hx hb dX2_lay_5 rfl (lv_at hl 0 rfl) ?_
  refine o_get (D := D) (ci := 3) (v := .ref pr) (C := RX2) (T := TX2) (N := 10) hx hb hts inX2 hown hK hP h_gl rfl 0 (by decide) (hts _ k_388) (fun _ h9 => h9) rfl dX2_lay_6 ?_
  refine lv_iload_n hx hb dX2_lay_9 rfl (lv_at hl 1 rfl) ?_
  refine o_cis (k := 0) (n := 0) hK hP hD hS hA (o_rV (As := [.int (nI gg)]) (rest := []) hf (p_group _ _ _ _ _ _ _ _ pr pcs spr nwh cp pa ea P gg h_pr h_pcs h_pc hpa (by omega) hG _) k_953 k_950 k_951 k_952 k_92 (nA := 1) (by decide +kernel) ⟨Nat.le_of_ble_eq_true rfl, Nat.le_of_ble_eq_true rfl⟩ hK hP hD hS hA hZ hN h_pr rfl rfl rfl hl.1 rfl (Nat.le_of_ble_eq_true rfl) dX2_lay_10 ⟨(show 0 + 0 ≤ 3 * (B - M) by omega), (show 0 + 0 ≤ 6 * (B - M) by omega)⟩) (Nat.le_refl _) (Nat.le_refl _) (fun r H locs hw hP hD hS => ?_)
  obtain rfl := hw
  refine q_seti (y := nI fi) (congrArg nI efi.symm) ?_
  refine lv_istore_n (lv' := [(3, .int (nI fi)), (0, .ref gl), (1, .int (nI gg)), (2, .int (nI mo))]) hx hb dX2_lay_13 rfl hl (by decide) rfl (fun ls hl => ?_)
  refine lv_aload_n hx hb dX2_lay_14 rfl (lv_at hl 1 rfl) ?_
  refine lv_aload_n hx hb dX2_lay_15 rfl (lv_at hl 1 rfl) ?_
  refine o_get (D := D) (ci := 3) (v := .ref pr) (C := RX2) (T := TX2) (N := 10) hx hb hts inX2 hown hK hP h_gl rfl 0 (by decide) (hts _ k_388) (fun _ h9 => h9) rfl dX2_lay_16 ?_
  refine lv_iload_n hx hb dX2_lay_19 rfl (lv_at hl 2 rfl) ?_
  refine lv_iconst (v := 1) hx hb dX2_lay_20 (by decide) ?_
  refine lv_iadd hx hb dX2_lay_21 ?_
  refine q_seti (y := nI (gg + 1)) (nI_addE (a := gg) (b := 1) (by omega)) ?_
  refine o_cis (k := 0) (n := 0) hK hP hD hS hA (o_rV (As := [.int (nI (gg + 1))]) (rest := [.ref gl]) hf (p_group _ _ _ _ _ _ _ _ pr pcs spr nwh cp pa ea P (gg + 1) h_pr h_pcs h_pc hpa (by omega) hG _) k_953 k_950 k_951 k_952 k_92 (nA := 1) (by decide +kernel) ⟨Nat.le_of_ble_eq_true rfl, Nat.le_of_ble_eq_true rfl⟩ hK hP hD hS hA hZ hN h_pr rfl rfl rfl hl.1 rfl (Nat.le_of_ble_eq_true rfl) dX2_lay_22 ⟨(show 0 + 0 ≤ 3 * (B - M) by omega), (show 0 + 0 ≤ 6 * (B - M) by omega)⟩) (Nat.le_refl _) (Nat.le_refl _) (fun r H locs hw hP hD hS => ?_)
  obtain rfl := hw
  refine q_seti (y := nI en) (congrArg nI een.symm) ?_
  refine o_put (D := D) (ci := 3) (v := .int (nI en)) (ty := .int) (C := RX2) (T := TX2) (N := 10) (fs1 := [.ref pr, .ref lf, .ref ra, .ref fa, .ref la, .int 0, .int (nI en), .int v7, .int v8, .int v9]) hx hb hts inX2 tyX2 tyX2_ok nmX2 hown hK hP hD hS h_gl rfl 6 (by decide) (hts _ k_394) (fun _ h9 => h9) rfl (by decide +kernel) rfl rfl (Nat.le_of_ble_eq_true rfl) rfl dX2_lay_25 (fun g H locs h_gl hu hP hD hS => ?_)
  have h_pr := h_pr.up hu (by decide)
  have h_nwh := h_nwh.up hu (by decide)
  have h_lf := h_lf.up hu (by decide)
  have h_ra := h_ra.up hu (by decide)
  have h_fa := h_fa.up hu (by decide)
  have h_la := h_la.up hu (by decide)
  have hfr := hfr.up hu (by decide)
  have h_pcs := h_pcs.frd hu.fr (by decide)
  have h_pc := h_pc.frd hu.fr (by decide)
  have h_es := h_es.frd hu.fr (by decide)
  refine lv_iload_n hx hb dX2_lay_28 rfl (lv_at hl 0 rfl) ?_
  refine lv_aload_n hx hb dX2_lay_29 rfl (lv_at hl 1 rfl) ?_
  refine o_get (D := D) (ci := 3) (v := .int (nI en)) (C := RX2) (T := TX2) (N := 10) hx hb hts inX2 hown hK hP h_gl rfl 6 (by decide) (hts _ k_394) (fun _ h9 => h9) rfl dX2_lay_30 ?_
  refine lv_icmp_lt (tgt := 44) hx hb dX2_lay_33 (by decide) (fun c_1 => ?_) (fun c_1 => ?_)
  · have c_1 := q_lt (a := fi) (b := en) (by omega) (by omega) c_1
    refine lv_aload_n hx hb dX2_lay_44 rfl (lv_at hl 1 rfl) ?_
    refine o_get (D := D) (ci := 3) (v := .ref pr) (C := RX2) (T := TX2) (N := 10) hx hb hts inX2 hown hK hP h_gl rfl 0 (by decide) (hts _ k_388) (fun _ h9 => h9) rfl dX2_lay_45 ?_
    refine lv_iload_n hx hb dX2_lay_48 rfl (lv_at hl 0 rfl) ?_
    refine o_crs (k := 0) (n := 0) hK hP hD hS hA (o_rV (As := [.int (nI fi)]) (rest := []) hf (p_atI _ _ _ _ _ _ _ _ pr pcs spr nwh cp pa ea P fi h_pr h_pcs h_pc hpa (by omega) _) k_775 k_968 k_773 k_774 k_92 (nA := 1) (by decide +kernel) ⟨Nat.le_of_ble_eq_true rfl, Nat.le_of_ble_eq_true rfl⟩ hK hP hD hS hA hZ hN h_pr rfl rfl rfl hl.1 rfl (Nat.le_of_ble_eq_true rfl) dX2_lay_49 ⟨(show 0 + 0 ≤ 3 * (B - M) by omega), (show 0 + 0 ≤ 6 * (B - M) by omega)⟩) (Nat.le_refl _) (Nat.le_refl _) (fun r H locs hw hP hD hS => ?_)
    obtain rfl := hw
    have h_p2 := h_pc.2 fi (by omega)
    have hpl_ := h_pc.1
    have hq_p2 := hQ fi (by omega)
    have hr_p2 := h_es.rb hq_p2.1
    refine o_get (D := D) (ci := 6) (v := .int (nI ((P.getD fi d4).2.1))) (C := RX5) (T := TX5) (N := 4) hx hb hts inX5 hown hK hP h_p2 rfl 1 (by decide) (hts _ k_284) (fun _ h9 => h9) rfl dX2_lay_52 ?_
    refine lv_istore (lv' := [(4, .int (nI ((P.getD fi d4).2.1))), (3, .int (nI fi)), (0, .ref gl), (1, .int (nI gg)), (2, .int (nI mo))]) hx hb dX2_lay_55 hl (by decide) rfl (fun ls hl => ?_)
    refine lv_aload_n hx hb dX2_lay_57 rfl (lv_at hl 2 rfl) ?_
    refine lv_iload_n hx hb dX2_lay_58 rfl (lv_at hl 1 rfl) ?_
    refine o_cis (k := 0) (n := 0) hK hP hD hS hA (o_rV (As := [.int (nI fi)]) (rest := []) hf (gl_rows _ _ _ _ _ _ _ _ pr pcs spr nwh cp pa ea P ne EE gl lf ra fa la en fi 0 v7 v8 v9 h_pr h_pcs h_pc h_es h_gl hpa hQ hen hSn (by omega) _) k_972 k_969 k_971 k_34 k_96 (nA := 1) (by decide +kernel) ⟨Nat.le_of_ble_eq_true rfl, Nat.le_of_ble_eq_true rfl⟩ hK hP hD hS hA hZ hN h_gl rfl rfl rfl hl.1 rfl (Nat.le_of_ble_eq_true rfl) dX2_lay_59 ⟨(show 0 + 0 ≤ 3 * (B - M) by omega), (show 0 + 0 ≤ 6 * (B - M) by omega)⟩) (Nat.le_refl _) (Nat.le_refl _) (fun r H locs hw hP hD hS => ?_)
    obtain rfl := hw
    refine lv_istore (lv' := [(5, .int (nI ((qS P en - qS P fi)))), (4, .int (nI ((P.getD fi d4).2.1))), (3, .int (nI fi)), (0, .ref gl), (1, .int (nI gg)), (2, .int (nI mo))]) hx hb dX2_lay_62 hl (by decide) rfl (fun ls hl => ?_)
    refine lv_iconst (v := 0) hx hb dX2_lay_64 (by decide) ?_
    refine lv_istore (lv' := [(6, .int 0), (5, .int (nI ((qS P en - qS P fi)))), (4, .int (nI ((P.getD fi d4).2.1))), (3, .int (nI fi)), (0, .ref gl), (1, .int (nI gg)), (2, .int (nI mo))]) hx hb dX2_lay_65 hl (by decide) rfl (fun ls hl => ?_)
    have hqf := hQ fi (by omega)
    have hSe := qS_m P hen
    have hSf := qS_m P (show fi ≤ en by omega)
    refine ly_loop (L0 := L0) (g0 := g0) (B := B) (cE := 3 * (B - M)) (sE := 6 * (B - M)) hpa hQ hen hSn hgF hgT hmo1 hmo hB9 (Nat.le_refl _) (Nat.le_refl _) (Nat.le_of_ble_eq_true rfl) (Nat.le_of_ble_eq_true rfl) hA hf hK hZ hN 8000 fi 0 0 [] ra fa la M f0 f1 f2 v7 v8 v9 x1 x2 x3 x4 x5 x6 0 0 _ _ _ _ ls (by omega) (fun _ => by omega) (fun _ => rfl) (by omega) (by omega) (Nat.le_refl _) (fun j h9 => absurd h9 (Nat.not_lt_zero j)) hM1 (Nat.zero_le _) hB2 (by omega) (by omega) h_pr h_pcs h_pc h_es h_nwh h_gl h_lf h_ra h_fa h_la hfr hP hD hS (lv_sub hl (l' := [(6, .int 0), (3, .int (nI fi)), (4, .int (nI ((P.getD fi d4).2.1))), (0, .ref gl), (1, .int (nI gg)), (2, .int (nI mo)), (5, .int (nI ((qS P en - qS P fi))))]) [0, 3, 2, 4, 5, 6, 1] rfl) (fun S2 ra2 fa2 la2 M2 k0 k1 k2 w7 w8 w9 u1 u2 u3 u4 u5 u6 L g H locs ls a1 a2 a3 h_pr h_pcs h_pc h_es h_nwh h_gl h_lf h_ra h_fa h_la hfr hP hD hS hl => ?_)
    rw [List.nil_append] at a1
    exact o_rv hf hr hlocks hK hP hD hS (show 3 * (B - M) ≤ 3 * (B - M) by omega) (show 6 * (B - M) ≤ 6 * (B - M) by omega) ⟨S2, ra2, fa2, la2, M2, k0, k1, k2, w7, w8, w9, u1, u2, u3, u4, u5, u6, a1, a2, a3, hfr, h_gl, h_lf, h_ra, h_fa, h_la⟩ dX2_lay_181
  · have c_1 := q_nlt (a := fi) (b := en) (by omega) (by omega) c_1
    exact False.elim (by omega)
