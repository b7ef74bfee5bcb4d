theorem fd_bit (w : BitVec 64) (s : Nat) (hs : s + 8 ≤ 64) : ((w.sshiftRight s).signExtend 32) &&& 255#32 = ((w >>> s).signExtend 32) &&& 255#32 := by
  apply BitVec.eq_of_getLsbD_eq
  intro i hi
  rw [BitVec.getLsbD_and, BitVec.getLsbD_and]
  by_cases h : i < 8
  · rw [BitVec.getLsbD_signExtend, BitVec.getLsbD_signExtend, BitVec.getLsbD_sshiftRight, BitVec.getLsbD_ushiftRight]
    have h1 : i < 64 := by omega
    have h2 : s + i < 64 := by omega
    have h3 : ¬ 64 ≤ i := by omega
    simp [hi, h1, h2, h3]
  · have h4 : (255#32).getLsbD i = false := by
      have h2 : i ≥ 8 := by omega
      have h5 : ∀ i, i < 32 → i ≥ 8 → (255#32).getLsbD i = false := by decide
      exact h5 i hi h2
    rw [h4]; simp
theorem fd_sh (w : Int64) {k : Nat} (hk : k < 8) : ((w >>> ((nI (8 * k)).toInt64 &&& 63)).toInt32 &&& 255) = fdb w k := by
  unfold fdb
  apply Int32.toBitVec_inj.1
  rcases (show k = 0 ∨ k = 1 ∨ k = 2 ∨ k = 3 ∨ k = 4 ∨ k = 5 ∨ k = 6 ∨ k = 7 by omega) with h | h | h | h | h | h | h | h <;> subst h
  · exact fd_bit w.toBitVec 0 (by decide)
  · exact fd_bit w.toBitVec 8 (by decide)
  · exact fd_bit w.toBitVec 16 (by decide)
  · exact fd_bit w.toBitVec 24 (by decide)
  · exact fd_bit w.toBitVec 32 (by decide)
  · exact fd_bit w.toBitVec 40 (by decide)
  · exact fd_bit w.toBitVec 48 (by decide)
  · exact fd_bit w.toBitVec 56 (by decide)
theorem tx_put_y {T : Nat → Int32} {n : Nat} {b : Int32} (h : tx_tk b) (hn : n < 1200) : tx_put T n b = (n + 1, upd T n (vp_nar .byte b.toInt8.toInt32)) := pif_p ⟨h, hn⟩
theorem tx_put_n {T : Nat → Int32} {n : Nat} {b : Int32} (h : ¬ tx_tk b) : tx_put T n b = (n, T) := pif_n (fun z => h z.1)
theorem upd_id9 (I : Nat → Int32) (k : Nat) : upd I k (I k) = I := by
  funext j
  by_cases c : j = k
  · rw [c, pk_us]
  · rw [pk_un c]
theorem q_set5 {D : va_G} {A : Nat → Prop} {H : Heap} {h0 : Nat} {q : Nat → Nat} {cB cI cZ : ClassId} {I I2 : Nat → Int32} {F : Nat → Nat → Int32} (e : I = I2) (hP : va_P D vcl (mW h0 q cB cI cZ I F) H) (hD : va_D A (mW h0 q cB cI cZ I F)) : va_P D vcl (mW h0 q cB cI cZ I2 F) H ∧ va_D A (mW h0 q cB cI cZ I2 F) := by
  subst e
  exact ⟨hP, hD⟩
/-- the elements of the first k pieces, each where it stands first -/
def mgN (P : List Q4) : Nat → List Nat
  | 0 => []
  | k + 1 => if (P.getD k d4).1 ∈ mgN P k then mgN P k else mgN P k ++ [(P.getD k d4).1]
theorem mgN_y {P : List Q4} {k : Nat} (h : (P.getD k d4).1 ∈ mgN P k) : mgN P (k + 1) = mgN P k := if_pos h
theorem mgN_n {P : List Q4} {k : Nat} (h : ¬ (P.getD k d4).1 ∈ mgN P k) : mgN P (k + 1) = mgN P k ++ [(P.getD k d4).1] := if_neg h
theorem gn_l {M : List Nat} {x i : Nat} (h : i < M.length) : (M ++ [x]).getD i 0 = M.getD i 0 := by
  simp only [List.getD_eq_getElem?_getD]
  rw [List.getElem?_append_left h]
theorem gn_r {M : List Nat} {x : Nat} : (M ++ [x]).getD M.length 0 = x := by simp
theorem gn_m {M : List Nat} {i : Nat} (h : i < M.length) : M.getD i 0 ∈ M := by
  rw [List.getD_eq_getElem?_getD, List.getElem?_eq_getElem h]
  exact List.getElem_mem _
theorem gn_ex {M : List Nat} {x : Nat} (h : x ∈ M) : ∃ i, i < M.length ∧ M.getD i 0 = x := by
  obtain ⟨i, hi, e⟩ := List.mem_iff_getElem.mp h
  exact ⟨i, hi, by rw [List.getD_eq_getElem?_getD, List.getElem?_eq_getElem hi]; exact e⟩
theorem mgN_in {P : List Q4} {en : Nat} (h : ∀ i, i < P.length → (P.getD i d4).1 < en) : ∀ k, k ≤ P.length → ∀ x, x ∈ mgN P k → x < en := by
  intro k
  induction k with
  | zero => intro _ x hx; exact absurd hx List.not_mem_nil
  | succ k ih =>
    intro hk x hx
    by_cases c : (P.getD k d4).1 ∈ mgN P k
    · rw [mgN_y c] at hx; exact ih (by omega) x hx
    · rw [mgN_n c] at hx
      rcases List.mem_append.mp hx with hx | hx
      · exact ih (by omega) x hx
      · rw [List.mem_singleton.mp hx]; exact h k (by omega)
theorem mgN_inj (P : List Q4) : ∀ k i j, i < (mgN P k).length → j < (mgN P k).length → (mgN P k).getD i 0 = (mgN P k).getD j 0 → i = j := by
  intro k
  induction k with
  | zero => intro i j hi; exact absurd hi (Nat.not_lt_zero i)
  | succ k ih =>
    intro i j hi hj e
    by_cases c : (P.getD k d4).1 ∈ mgN P k
    · rw [mgN_y c] at hi hj e; exact ih i j hi hj e
    · rw [mgN_n c] at hi hj e
      have hl : (mgN P k ++ [(P.getD k d4).1]).length = (mgN P k).length + 1 := by rw [List.length_append]; rfl
      by_cases c1 : i < (mgN P k).length
      · by_cases c2 : j < (mgN P k).length
        · rw [gn_l c1, gn_l c2] at e; exact ih i j c1 c2 e
        · rw [gn_l c1, show j = (mgN P k).length by omega, gn_r] at e
          exact absurd (e ▸ gn_m c1) c
      · by_cases c2 : j < (mgN P k).length
        · rw [gn_l c2, show i = (mgN P k).length by omega, gn_r] at e
          exact absurd (e ▸ gn_m c2) c
        · omega
theorem mgN_len {P : List Q4} {en : Nat} (h : ∀ i, i < P.length → (P.getD i d4).1 < en) (k : Nat) (hk : k ≤ P.length) : (mgN P k).length ≤ en := pg_inj en _ (fun i => (mgN P k).getD i 0) (fun i hi => mgN_in h k hk _ (gn_m hi)) (mgN_inj P k)
theorem ma_1 {sl : Nat → Nat} {i : Nat} {g42 g43 : Nat → Int32} (h : ∀ j, j < i → g42 j = nI (sl j) ∧ g43 j = (-1)) : ∀ j, j < i + 1 → upd g42 i (nI (sl i)) j = nI (sl j) ∧ upd g43 i (-1) j = (-1) := by
  intro j hj
  by_cases c : j = i
  · rw [c, pk_us, pk_us]; exact ⟨rfl, rfl⟩
  · rw [pk_un c, pk_un c]; exact h j (by omega)
theorem ma_2 {F : Nat → Nat → Int32} {sl : Nat → Nat} {i : Nat} {g5 : Nat → Int32} (h : ∀ w, w < 60 → g5 w = 0 ∨ (g5 w = F 5 w ∧ ∀ j, j < i → sl j ≠ w)) : ∀ w, w < 60 → upd g5 (sl i) (vp_nar .boolean 0) w = 0 ∨ (upd g5 (sl i) (vp_nar .boolean 0) w = F 5 w ∧ ∀ j, j < i + 1 → sl j ≠ w) := by
  intro w hw
  by_cases c : w = sl i
  · rw [c, pk_us]; exact Or.inl rfl
  · rw [pk_un c]
    rcases h w hw with h1 | h1
    · exact Or.inl h1
    · refine Or.inr ⟨h1.1, fun j hj => ?_⟩
      by_cases c2 : j = i
      · rw [c2]; exact fun z => c z.symm
      · exact h1.2 j (by omega)
def mbI (sl : Nat → Nat) (en : Nat) (M : List Nat) (g4 g5 g43 : Nat → Int32) : Prop := (∀ e, e < en → (e ∈ M → ¬ g43 e = (-1)) ∧ (¬ e ∈ M → g43 e = (-1))) ∧ (∀ j, j < M.length → g4 j = nI (sl (M.getD j 0)) ∧ g5 (sl (M.getD j 0)) = 1) ∧ (∀ w, w < 60 → g5 w = 0 ∨ ∃ j, j < M.length ∧ sl (M.getD j 0) = w)
theorem mb_s {sl : Nat → Nat} {en e : Nat} {M : List Nat} {g4 g5 g43 : Nat → Int32} (h : mbI sl en M g4 g5 g43) (he : e < en) (hm : ¬ e ∈ M) (hM : M.length < 60) : mbI sl en (M ++ [e]) (upd g4 M.length (nI (sl e))) (upd g5 (sl e) (vp_nar .boolean 1)) (upd g43 e (nI M.length)) := by
  obtain ⟨h1, h2, h3⟩ := h
  have hl : (M ++ [e]).length = M.length + 1 := by rw [List.length_append]; rfl
  refine ⟨fun x hx => ⟨fun hm2 => ?_, fun hm2 => ?_⟩, fun j hj => ?_, fun w hw => ?_⟩
  · by_cases c : x = e
    · rw [c, pk_us]
      exact fun z => nI_pos (n := M.length) (by omega) (by rw [z]; decide)
    · rw [pk_un c]
      rcases List.mem_append.mp hm2 with h4 | h4
      · exact (h1 x hx).1 h4
      · exact absurd (List.mem_singleton.mp h4) c
  · have c : x ≠ e := fun z => hm2 (by rw [z]; exact List.mem_append.mpr (Or.inr (List.mem_singleton.mpr rfl)))
    rw [pk_un c]
    exact (h1 x hx).2 (fun z => hm2 (List.mem_append.mpr (Or.inl z)))
  · by_cases c : j = M.length
    · rw [c, gn_r, pk_us, pk_us]; exact ⟨rfl, rfl⟩
    · rw [gn_l (by omega), pk_un c]
      refine ⟨(h2 j (by omega)).1, ?_⟩
      by_cases c2 : sl (M.getD j 0) = sl e
      · rw [c2, pk_us]; rfl
      · rw [pk_un c2]; exact (h2 j (by omega)).2
  · by_cases c : w = sl e
    · exact Or.inr ⟨M.length, by omega, by rw [gn_r]; exact c.symm⟩
    · rw [pk_un c]
      rcases h3 w hw with h4 | ⟨j, hj, h4⟩
      · exact Or.inl h4
      · exact Or.inr ⟨j, by omega, by rw [gn_l hj]; exact h4⟩
theorem gm_d {Es : List E5} {M : List Nat} {i : Nat} (h : i < M.length) : (M.map (fun e => Es.getD e dE)).getD i dE = Es.getD (M.getD i 0) dE := by
  have e : M[i]? = some (M.getD i 0) := by rw [List.getD_eq_getElem?_getD, List.getElem?_eq_getElem h]; rfl
  rw [List.getD_eq_getElem?_getD, List.getElem?_map, e]
  rfl
theorem elF_5 {F F2 : Nat → Nat → Int32} {t : Nat} {x : E5} (h : elF F t x) (h5 : F2 5 t = 1) (h6 : F2 6 = F 6 ∧ F2 7 = F 7 ∧ F2 8 = F 8 ∧ F2 9 = F 9 ∧ F2 10 = F 10 ∧ F2 11 = F 11 ∧ F2 12 = F 12 ∧ F2 13 = F 13) : elF F2 t x := by
  obtain ⟨a1, a2, a3, a4, a5, a6, a7, a8, a9, a10⟩ := h
  obtain ⟨b6, b7, b8, b9, b10, b11, b12, b13⟩ := h6
  exact ⟨h5, by rw [b6]; exact a2, by rw [b7]; exact a3, by rw [b8]; exact a4, by rw [b9]; exact a5, a6, by rw [b10]; exact a7, by rw [b11]; exact a8, by rw [b12, b13]; exact a9, a10⟩
theorem reR_mg {F F2 : Nat → Nat → Int32} {Es : List E5} {sl : Nat → Nat} {M : List Nat} {P : List Q4} (h : reR F Es sl) (hM : M = mgN P P.length) (hin : ∀ i, i < M.length → M.getD i 0 < Es.length) (hl : M.length ≤ Es.length) (hb : mbI sl Es.length M (F2 4) (F2 5) (F2 43)) (h6 : F2 6 = F 6 ∧ F2 7 = F 7 ∧ F2 8 = F 8 ∧ F2 9 = F 9 ∧ F2 10 = F 10 ∧ F2 11 = F 11 ∧ F2 12 = F 12 ∧ F2 13 = F 13) : reR F2 (M.map (fun e => Es.getD e dE)) (fun i => sl (M.getD i 0)) := by
  have e1 : (M.map (fun e => Es.getD e dE)).length = M.length := List.length_map _
  have h60 := h.1
  refine ⟨by omega, fun e he => ?_, fun e f he hf hs => ?_, fun w hw => ?_⟩
  · rw [e1] at he
    have h2 := h.2.1 _ (hin e he)
    refine ⟨(hb.2.1 e he).1, h2.2.1, ?_⟩
    rw [gm_d he]
    exact elF_5 h2.2.2 (hb.2.1 e he).2 h6
  · rw [e1] at he hf
    have h3 := h.2.2.1 _ _ (hin e he) (hin f hf) hs
    rw [hM] at he hf h3
    exact mgN_inj P _ e f he hf h3
  · rcases hb.2.2 w hw with h3 | ⟨j, hj, h3⟩
    · exact Or.inl h3
    · exact Or.inr ⟨j, by omega, h3⟩
theorem upP_at9 (Es : List E5) : ∀ n j, j < n → (upP Es n).getD j d4 = (j, 0, eRw (Es.getD j dE), 0) := by
  intro n
  induction n with
  | zero => intro j hj; exact absurd hj (Nat.not_lt_zero j)
  | succ n ih =>
    intro j hj
    have hl := upP_len Es n
    show (upP Es n ++ [(n, 0, eRw (Es.getD n dE), 0)]).getD j d4 = _
    rw [List.getD_eq_getElem?_getD]
    by_cases c : j = n
    · rw [c, List.getElem?_append_right (by omega), hl, Nat.sub_self]
      rfl
    · rw [List.getElem?_append_left (by omega), ← List.getD_eq_getElem?_getD]
      exact ih j (by omega)
theorem pc_up {Es : List E5} {f1 f2 f3 f4 : Nat → Int32} (h : ∀ i, i < Es.length → f1 i = nI i ∧ f2 i = 0 ∧ f3 i = nI (eRw (Es.getD i dE)) ∧ f4 i = 0) : pc_is (upP Es Es.length) f1 f2 f3 f4 := by
  intro j hj
  rw [upP_len] at hj
  rw [show (upP Es Es.length).getD j (0, 0, 0, 0) = (j, 0, eRw (Es.getD j dE), 0) from upP_at9 Es _ j hj]
  exact h j hj
abbrev cX10_feed : ByteArray := prog_12_method_4_code
def yX10_feed : MethodName := ⟨RX10, "feed", "(JI)I"⟩
abbrev cX10_merge : ByteArray := prog_12_method_50_code
def yX10_merge : MethodName := ⟨RX10, "merge", "()I"⟩
theorem k_1186 : (Cond.fieldLink RX10 107 "ScriptDeskModel" "oldSlot" "[I") ∈ gT := gT_i 1186 (by decide +kernel) rfl
theorem k_1187 : (Cond.fieldLink RX10 110 "ScriptDeskModel" "newNumber" "[I") ∈ gT := gT_i 1187 (by decide +kernel) rfl
theorem dX10_feed_33 : decode cX10_feed 33 = .ok (.iload 4, 2) := by decide +kernel
theorem dX10_feed_35 : decode cX10_feed 35 = .ok (.ifCond .lt 64, 3) := by decide +kernel
theorem dX10_feed_38 : decode cX10_feed 38 = .ok (.lload_n 1, 1) := by decide +kernel
theorem dX10_feed_39 : decode cX10_feed 39 = .ok (.bipush 8, 2) := by decide +kernel
theorem dX10_feed_41 : decode cX10_feed 41 = .ok (.iload 4, 2) := by decide +kernel
theorem dX10_feed_43 : decode cX10_feed 43 = .ok (.imul, 1) := by decide +kernel
theorem dX10_feed_44 : decode cX10_feed 44 = .ok (.lshr, 1) := by decide +kernel
theorem dX10_feed_45 : decode cX10_feed 45 = .ok (.l2i, 1) := by decide +kernel
theorem dX10_feed_46 : decode cX10_feed 46 = .ok (.sipush 255, 3) := by decide +kernel
theorem dX10_feed_49 : decode cX10_feed 49 = .ok (.iand, 1) := by decide +kernel
theorem dX10_feed_50 : decode cX10_feed 50 = .ok (.istore 5, 2) := by decide +kernel
theorem dX10_feed_52 : decode cX10_feed 52 = .ok (.iload 5, 2) := by decide +kernel
theorem dX10_feed_54 : decode cX10_feed 54 = .ok (.bipush 10, 2) := by decide +kernel
theorem dX10_feed_56 : decode cX10_feed 56 = .ok (.if_icmp .eq 15, 3) := by decide +kernel
theorem dX10_feed_71 : decode cX10_feed 71 = .ok (.aload_n 0, 1) := by decide +kernel
theorem dX10_feed_72 : decode cX10_feed 72 = .ok (.getfield 7, 3) := by decide +kernel
theorem dX10_feed_75 : decode cX10_feed 75 = .ok (.aload_n 0, 1) := by decide +kernel
theorem dX10_feed_76 : decode cX10_feed 76 = .ok (.getfield 123, 3) := by decide +kernel
theorem dX10_feed_79 : decode cX10_feed 79 = .ok (.iload 5, 2) := by decide +kernel
theorem dX10_feed_81 : decode cX10_feed 81 = .ok (.i2b, 1) := by decide +kernel
theorem dX10_feed_82 : decode cX10_feed 82 = .ok (.bastore, 1) := by decide +kernel
theorem dX10_feed_83 : decode cX10_feed 83 = .ok (.aload_n 0, 1) := by decide +kernel
theorem dX10_feed_84 : decode cX10_feed 84 = .ok (.dup, 1) := by decide +kernel
theorem dX10_feed_85 : decode cX10_feed 85 = .ok (.getfield 123, 3) := by decide +kernel
theorem dX10_feed_88 : decode cX10_feed 88 = .ok (.iconst 1, 1) := by decide +kernel
theorem dX10_feed_89 : decode cX10_feed 89 = .ok (.iadd, 1) := by decide +kernel
theorem dX10_feed_90 : decode cX10_feed 90 = .ok (.putfield 123, 3) := by decide +kernel
theorem dX10_feed_93 : decode cX10_feed 93 = .ok (.iinc 4 (-1), 3) := by decide +kernel
theorem dX10_feed_96 : decode cX10_feed 96 = .ok (.goto (-63), 3) := by decide +kernel
theorem dX10_feed_59 : decode cX10_feed 59 = .ok (.iload 5, 2) := by decide +kernel
theorem dX10_feed_61 : decode cX10_feed 61 = .ok (.bipush 32, 2) := by decide +kernel
theorem dX10_feed_63 : decode cX10_feed 63 = .ok (.bipush 126, 2) := by decide +kernel
theorem dX10_feed_65 : decode cX10_feed 65 = .ok (.invokestatic 119, 3) := by decide +kernel
theorem dX10_feed_68 : decode cX10_feed 68 = .ok (.ifCond .eq 25, 3) := by decide +kernel
theorem dX10_feed_0 : decode cX10_feed 0 = .ok (.iload_n 3, 1) := by decide +kernel
theorem dX10_feed_1 : decode cX10_feed 1 = .ok (.iconst 1, 1) := by decide +kernel
theorem dX10_feed_2 : decode cX10_feed 2 = .ok (.bipush 8, 2) := by decide +kernel
theorem dX10_feed_4 : decode cX10_feed 4 = .ok (.invokestatic 119, 3) := by decide +kernel
theorem dX10_feed_7 : decode cX10_feed 7 = .ok (.ifCond .ne 6, 3) := by decide +kernel
theorem dX10_feed_10 : decode cX10_feed 10 = .ok (.bipush (-2), 2) := by decide +kernel
theorem dX10_feed_12 : decode cX10_feed 12 = .ok (.ireturn, 1) := by decide +kernel
theorem dX10_feed_13 : decode cX10_feed 13 = .ok (.aload_n 0, 1) := by decide +kernel
theorem dX10_feed_14 : decode cX10_feed 14 = .ok (.getfield 123, 3) := by decide +kernel
theorem dX10_feed_17 : decode cX10_feed 17 = .ok (.sipush 1200, 3) := by decide +kernel
theorem dX10_feed_20 : decode cX10_feed 20 = .ok (.iload_n 3, 1) := by decide +kernel
theorem dX10_feed_21 : decode cX10_feed 21 = .ok (.isub, 1) := by decide +kernel
theorem dX10_feed_22 : decode cX10_feed 22 = .ok (.if_icmp .le 6, 3) := by decide +kernel
theorem dX10_feed_28 : decode cX10_feed 28 = .ok (.iload_n 3, 1) := by decide +kernel
theorem dX10_feed_29 : decode cX10_feed 29 = .ok (.iconst 1, 1) := by decide +kernel
theorem dX10_feed_30 : decode cX10_feed 30 = .ok (.isub, 1) := by decide +kernel
theorem dX10_feed_31 : decode cX10_feed 31 = .ok (.istore 4, 2) := by decide +kernel
theorem dX10_feed_99 : decode cX10_feed 99 = .ok (.aload_n 0, 1) := by decide +kernel
theorem dX10_feed_100 : decode cX10_feed 100 = .ok (.getfield 123, 3) := by decide +kernel
theorem dX10_feed_103 : decode cX10_feed 103 = .ok (.ireturn, 1) := by decide +kernel
theorem dX10_feed_25 : decode cX10_feed 25 = .ok (.bipush (-4), 2) := by decide +kernel
theorem dX10_feed_27 : decode cX10_feed 27 = .ok (.ireturn, 1) := by decide +kernel
theorem dX10_merge_12 : decode cX10_merge 12 = .ok (.iload_n 1, 1) := by decide +kernel
theorem dX10_merge_13 : decode cX10_merge 13 = .ok (.aload_n 0, 1) := by decide +kernel
theorem dX10_merge_14 : decode cX10_merge 14 = .ok (.getfield 144, 3) := by decide +kernel
theorem dX10_merge_17 : decode cX10_merge 17 = .ok (.if_icmp .ge 40, 3) := by decide +kernel
theorem dX10_merge_20 : decode cX10_merge 20 = .ok (.aload_n 0, 1) := by decide +kernel
theorem dX10_merge_21 : decode cX10_merge 21 = .ok (.getfield 107, 3) := by decide +kernel
theorem dX10_merge_24 : decode cX10_merge 24 = .ok (.iload_n 1, 1) := by decide +kernel
theorem dX10_merge_25 : decode cX10_merge 25 = .ok (.aload_n 0, 1) := by decide +kernel
theorem dX10_merge_26 : decode cX10_merge 26 = .ok (.getfield 17, 3) := by decide +kernel
theorem dX10_merge_29 : decode cX10_merge 29 = .ok (.iload_n 1, 1) := by decide +kernel
theorem dX10_merge_30 : decode cX10_merge 30 = .ok (.iaload, 1) := by decide +kernel
theorem dX10_merge_31 : decode cX10_merge 31 = .ok (.iastore, 1) := by decide +kernel
theorem dX10_merge_32 : decode cX10_merge 32 = .ok (.aload_n 0, 1) := by decide +kernel
theorem dX10_merge_33 : decode cX10_merge 33 = .ok (.getfield 110, 3) := by decide +kernel
theorem dX10_merge_36 : decode cX10_merge 36 = .ok (.iload_n 1, 1) := by decide +kernel
theorem dX10_merge_37 : decode cX10_merge 37 = .ok (.iconst (-1), 1) := by decide +kernel
theorem dX10_merge_38 : decode cX10_merge 38 = .ok (.iastore, 1) := by decide +kernel
theorem dX10_merge_39 : decode cX10_merge 39 = .ok (.aload_n 0, 1) := by decide +kernel
theorem dX10_merge_40 : decode cX10_merge 40 = .ok (.getfield 21, 3) := by decide +kernel
theorem dX10_merge_43 : decode cX10_merge 43 = .ok (.aload_n 0, 1) := by decide +kernel
theorem dX10_merge_44 : decode cX10_merge 44 = .ok (.getfield 17, 3) := by decide +kernel
theorem dX10_merge_47 : decode cX10_merge 47 = .ok (.iload_n 1, 1) := by decide +kernel
theorem dX10_merge_48 : decode cX10_merge 48 = .ok (.iaload, 1) := by decide +kernel
theorem dX10_merge_49 : decode cX10_merge 49 = .ok (.iconst 0, 1) := by decide +kernel
theorem dX10_merge_50 : decode cX10_merge 50 = .ok (.bastore, 1) := by decide +kernel
theorem dX10_merge_51 : decode cX10_merge 51 = .ok (.iinc 1 1, 3) := by decide +kernel
theorem dX10_merge_54 : decode cX10_merge 54 = .ok (.goto (-42), 3) := by decide +kernel
theorem dX10_merge_61 : decode cX10_merge 61 = .ok (.iload_n 2, 1) := by decide +kernel
theorem dX10_merge_62 : decode cX10_merge 62 = .ok (.aload_n 0, 1) := by decide +kernel
theorem dX10_merge_63 : decode cX10_merge 63 = .ok (.getfield 158, 3) := by decide +kernel
theorem dX10_merge_66 : decode cX10_merge 66 = .ok (.if_icmp .ge 60, 3) := by decide +kernel
theorem dX10_merge_69 : decode cX10_merge 69 = .ok (.aload_n 0, 1) := by decide +kernel
theorem dX10_merge_70 : decode cX10_merge 70 = .ok (.getfield 50, 3) := by decide +kernel
theorem dX10_merge_73 : decode cX10_merge 73 = .ok (.iload_n 2, 1) := by decide +kernel
theorem dX10_merge_74 : decode cX10_merge 74 = .ok (.iaload, 1) := by decide +kernel
theorem dX10_merge_75 : decode cX10_merge 75 = .ok (.istore_n 3, 1) := by decide +kernel
theorem dX10_merge_76 : decode cX10_merge 76 = .ok (.aload_n 0, 1) := by decide +kernel
theorem dX10_merge_77 : decode cX10_merge 77 = .ok (.getfield 110, 3) := by decide +kernel
theorem dX10_merge_80 : decode cX10_merge 80 = .ok (.iload_n 3, 1) := by decide +kernel
theorem dX10_merge_81 : decode cX10_merge 81 = .ok (.iaload, 1) := by decide +kernel
theorem dX10_merge_82 : decode cX10_merge 82 = .ok (.iconst (-1), 1) := by decide +kernel
theorem dX10_merge_83 : decode cX10_merge 83 = .ok (.if_icmp .ne 37, 3) := by decide +kernel
theorem dX10_merge_120 : decode cX10_merge 120 = .ok (.iinc 2 1, 3) := by decide +kernel
theorem dX10_merge_123 : decode cX10_merge 123 = .ok (.goto (-62), 3) := by decide +kernel
theorem dX10_merge_86 : decode cX10_merge 86 = .ok (.aload_n 0, 1) := by decide +kernel
theorem dX10_merge_87 : decode cX10_merge 87 = .ok (.getfield 110, 3) := by decide +kernel
theorem dX10_merge_90 : decode cX10_merge 90 = .ok (.iload_n 3, 1) := by decide +kernel
theorem dX10_merge_91 : decode cX10_merge 91 = .ok (.iload_n 1, 1) := by decide +kernel
theorem dX10_merge_92 : decode cX10_merge 92 = .ok (.iastore, 1) := by decide +kernel
theorem dX10_merge_93 : decode cX10_merge 93 = .ok (.aload_n 0, 1) := by decide +kernel
theorem dX10_merge_94 : decode cX10_merge 94 = .ok (.getfield 17, 3) := by decide +kernel
theorem dX10_merge_97 : decode cX10_merge 97 = .ok (.iload_n 1, 1) := by decide +kernel
theorem dX10_merge_98 : decode cX10_merge 98 = .ok (.aload_n 0, 1) := by decide +kernel
theorem dX10_merge_99 : decode cX10_merge 99 = .ok (.getfield 107, 3) := by decide +kernel
theorem dX10_merge_102 : decode cX10_merge 102 = .ok (.iload_n 3, 1) := by decide +kernel
theorem dX10_merge_103 : decode cX10_merge 103 = .ok (.iaload, 1) := by decide +kernel
theorem dX10_merge_104 : decode cX10_merge 104 = .ok (.iastore, 1) := by decide +kernel
theorem dX10_merge_105 : decode cX10_merge 105 = .ok (.aload_n 0, 1) := by decide +kernel
theorem dX10_merge_106 : decode cX10_merge 106 = .ok (.getfield 21, 3) := by decide +kernel
theorem dX10_merge_109 : decode cX10_merge 109 = .ok (.aload_n 0, 1) := by decide +kernel
theorem dX10_merge_110 : decode cX10_merge 110 = .ok (.getfield 17, 3) := by decide +kernel
theorem dX10_merge_113 : decode cX10_merge 113 = .ok (.iload_n 1, 1) := by decide +kernel
theorem dX10_merge_114 : decode cX10_merge 114 = .ok (.iaload, 1) := by decide +kernel
theorem dX10_merge_115 : decode cX10_merge 115 = .ok (.iconst 1, 1) := by decide +kernel
theorem dX10_merge_116 : decode cX10_merge 116 = .ok (.bastore, 1) := by decide +kernel
theorem dX10_merge_117 : decode cX10_merge 117 = .ok (.iinc 1 1, 3) := by decide +kernel
theorem dX10_merge_0 : decode cX10_merge 0 = .ok (.aload_n 0, 1) := by decide +kernel
theorem dX10_merge_1 : decode cX10_merge 1 = .ok (.getfield 170, 3) := by decide +kernel
theorem dX10_merge_4 : decode cX10_merge 4 = .ok (.ifCond .ne 6, 3) := by decide +kernel
theorem dX10_merge_10 : decode cX10_merge 10 = .ok (.iconst 0, 1) := by decide +kernel
theorem dX10_merge_11 : decode cX10_merge 11 = .ok (.istore_n 1, 1) := by decide +kernel
theorem dX10_merge_57 : decode cX10_merge 57 = .ok (.iconst 0, 1) := by decide +kernel
theorem dX10_merge_58 : decode cX10_merge 58 = .ok (.istore_n 1, 1) := by decide +kernel
theorem dX10_merge_59 : decode cX10_merge 59 = .ok (.iconst 0, 1) := by decide +kernel
theorem dX10_merge_60 : decode cX10_merge 60 = .ok (.istore_n 2, 1) := by decide +kernel
theorem dX10_merge_126 : decode cX10_merge 126 = .ok (.aload_n 0, 1) := by decide +kernel
theorem dX10_merge_127 : decode cX10_merge 127 = .ok (.iload_n 1, 1) := by decide +kernel
theorem dX10_merge_128 : decode cX10_merge 128 = .ok (.putfield 144, 3) := by decide +kernel
theorem dX10_merge_131 : decode cX10_merge 131 = .ok (.aload_n 0, 1) := by decide +kernel
theorem dX10_merge_132 : decode cX10_merge 132 = .ok (.iconst 0, 1) := by decide +kernel
theorem dX10_merge_133 : decode cX10_merge 133 = .ok (.putfield 170, 3) := by decide +kernel
theorem dX10_merge_136 : decode cX10_merge 136 = .ok (.aload_n 0, 1) := by decide +kernel
theorem dX10_merge_137 : decode cX10_merge 137 = .ok (.invokevirtual 185, 3) := by decide +kernel
theorem dX10_merge_140 : decode cX10_merge 140 = .ok (.aload_n 0, 1) := by decide +kernel
theorem dX10_merge_141 : decode cX10_merge 141 = .ok (.getfield 144, 3) := by decide +kernel
theorem dX10_merge_144 : decode cX10_merge 144 = .ok (.ireturn, 1) := by decide +kernel
theorem dX10_merge_7 : decode cX10_merge 7 = .ok (.bipush (-3), 2) := by decide +kernel
theorem dX10_merge_9 : decode cX10_merge 9 = .ok (.ireturn, 1) := by decide +kernel
set_option maxHeartbeats 1000000 in
set_option maxRecDepth 100000 in
theorem lfd_ {p : Program} {l : Launch} {e : Env} {R : Room} {s : State} {m : MethodId} {args : Array Value} {below : List Frame} {meth : Method} {c : Code} {cells slots : Nat} {Q : State → Prop} {D : va_G} {A : Nat → Prop} {h0 : Nat} {q : Nat → Nat} {cB cI cZ : ClassId} {I : Nat → Int32} {F : Nat → Nat → Int32} {kn : Nat} {w : Int64} (hRf : 1 ≤ R.frames) (hRl : 22 ≤ R.locals) (hRc : cells ≤ R.cells) (hRs : slots ≤ R.slots) (hA : ∀ q : Nat, s.heap.size ≤ q → A q) (hf : CallFix p m c cX10_feed 6 s args gT yX10_feed.cls) (hK : va_K D vcl (mT cB cI cZ) s) :
    ∀ (k : Nat) (x : Int32) (n : Nat) (T : Nat → Int32) (H : Heap) (locs : List Loc) (ls : Array Slot), x = nI k - 1 → k ≤ 8 → n + k ≤ 1200 →  va_P D vcl (mW h0 q cB cI cZ (upd I 1 (nI n)) (va_up F 0 T)) H → va_D A (mW h0 q cB cI cZ (upd I 1 (nI n)) (va_up F 0 T)) → va_S A s.heap H locs → lv_has ls 6 [(4, .int x), (0, .ref h0), (1, .long w), (3, .int (nI (kn + 1)))] →
    (∀ (n2 : Nat) (T2 : Nat → Int32) (H : Heap) (locs : List Loc) (ls : Array Slot), (n2, T2) = tx_fd w k (n, T) → n2 ≤ 1200 → va_P D vcl (mW h0 q cB cI cZ (upd I 1 (nI n2)) (va_up F 0 T2)) H → va_D A (mW h0 q cB cI cZ (upd I 1 (nI n2)) (va_up F 0 T2)) → va_S A s.heap H locs → lv_has ls 6 [(0, .ref h0)] → W p l e R s m args below meth c H locs cells slots Q (F0 m 99 ls [])) →
    W p l e R s m args below meth c H locs cells slots Q (F0 m 33 ls []) := by
  obtain ⟨hx, hb, hml, hown, hts⟩ := id hf
  intro k
  induction k with
  | zero =>
    intro x n T H locs ls hx_ hk8 hn hP hD hS hl kk
    obtain rfl : x = (-1) := hx_.trans (by decide)
    refine lv_iload hx hb dX10_feed_33 (lv_at hl 0 rfl) ?_
    refine lv_if_lt (tgt := 99) hx hb dX10_feed_35 (by decide) (fun _ => ?_) (fun hno => absurd hno (by decide))
    exact kk n T H locs ls rfl (by omega) hP hD hS (lv_sub hl (l' := [(0, .ref h0)]) [1] rfl)
  | succ k ih =>
    intro x n T H locs ls hx_ hk8 hn hP hD hS hl kk
    obtain rfl : x = nI k := hx_.trans (nI_pred k)
    refine lv_iload hx hb dX10_feed_33 (lv_at hl 0 rfl) ?_
    refine lv_if_lt (tgt := 99) hx hb dX10_feed_35 (by decide) (fun c_1 => ?_) (fun c_1 => ?_)
    · have c_1 := q_lt (a := k) (b := 0) (by omega) (by omega) c_1
      exact False.elim (by omega)
    · have c_1 := q_nlt (a := k) (b := 0) (by omega) (by omega) c_1
      refine lv_lload_n hx hb dX10_feed_38 rfl (lv_at hl 2 rfl) ?_
      refine lv_bipush (v := 8) hx hb dX10_feed_39 (by decide) ?_
      refine lv_iload hx hb dX10_feed_41 (lv_at hl 0 rfl) ?_
      refine lv_imul hx hb dX10_feed_43 ?_
      refine q_seti (y := nI (8 * k)) (pk_mul 8 k) ?_
      refine lv_lshr (v := (w >>> ((nI (8 * k)).toInt64 &&& 63))) hx hb dX10_feed_44 rfl ?_
      refine lv_l2i (v := ((w >>> ((nI (8 * k)).toInt64 &&& 63))).toInt32) hx hb dX10_feed_45 rfl ?_
      refine lv_sipush (v := 255) hx hb dX10_feed_46 (by decide) ?_
      refine lv_iand hx hb dX10_feed_49 ?_
      refine q_seti (y := fdb w k) (fd_sh w (by omega)) ?_
      refine lv_istore (lv' := [(5, .int (fdb w k)), (4, .int (nI k)), (0, .ref h0), (1, .long w), (3, .int (nI (kn + 1)))]) hx hb dX10_feed_50 hl (by decide) rfl (fun ls hl => ?_)
      refine lv_iload hx hb dX10_feed_52 (lv_at hl 0 rfl) ?_
      refine lv_bipush (v := 10) hx hb dX10_feed_54 (by decide) ?_
      refine lv_icmp_eq (tgt := 71) hx hb dX10_feed_56 (by decide) (fun c_2 => ?_) (fun c_2 => ?_)
      · refine lv_aload_n hx hb dX10_feed_71 rfl (lv_at hl 2 rfl) ?_
        refine va_get (D := D) (ci := 11) (v := .ref (q 0)) (C := RX10) (T := TX10) (N := 48) hx hb hts inX10 hown hK hP 0 rfl rfl 0 (by decide) (hts _ k_1144) (fun _ h9 => h9) rfl dX10_feed_72 ?_
        refine lv_aload_n hx hb dX10_feed_75 rfl (lv_at hl 2 rfl) ?_
        refine va_get (D := D) (ci := 11) (v := .int (nI n)) (C := RX10) (T := TX10) (N := 48) hx hb hts inX10 hown hK hP 0 rfl rfl 1 (by decide) (hts _ k_1145) (fun _ h9 => h9) rfl dX10_feed_76 ?_
        refine lv_iload hx hb dX10_feed_79 (lv_at hl 0 rfl) ?_
        refine lv_i2b (v := (fdb w k).toInt8.toInt32) hx hb dX10_feed_81 rfl ?_
        refine q_bst (X := n) (f := T) (x := (fdb w k).toInt8.toInt32) hx hb hK hP hD hS 1 0 rfl rfl (by omega) (by decide) dX10_feed_82 (fun H locs hP hD hS => ?_)
        have hP : va_P D vcl (mW h0 q cB cI cZ (upd I 1 (nI n)) (va_up F 0 (upd T n (vp_nar .byte ((fdb w k).toInt8.toInt32))))) H := hP
        have hD : va_D A (mW h0 q cB cI cZ (upd I 1 (nI n)) (va_up F 0 (upd T n (vp_nar .byte ((fdb w k).toInt8.toInt32))))) := hD
        refine lv_aload_n hx hb dX10_feed_83 rfl (lv_at hl 2 rfl) ?_
        refine lv_dup hx hb dX10_feed_84 rfl ?_
        refine va_get (D := D) (ci := 11) (v := .int (nI n)) (C := RX10) (T := TX10) (N := 48) hx hb hts inX10 hown hK hP 0 rfl rfl 1 (by decide) (hts _ k_1145) (fun _ h9 => h9) rfl dX10_feed_85 ?_
        refine lv_iconst (v := 1) hx hb dX10_feed_88 (by decide) ?_
        refine lv_iadd hx hb dX10_feed_89 ?_
        refine q_seti (y := nI (n + 1)) (nI_add n 1) ?_
        refine va_put (D := D) (ci := 11) (v := .int (nI (n + 1))) (ty := .int) (C := RX10) (T := TX10) (N := 48) hx hb hts inX10 tyX10 tyX10_ok nmX10 hown hK hP hD hS 0 rfl rfl 1 (by decide) (hts _ k_1145) (fun _ h9 => h9) rfl (by decide +kernel) rfl rfl (Nat.le_of_ble_eq_true rfl) dX10_feed_90 (fun H locs hP hD hS => ?_)
        have hP : va_P D vcl (mW h0 q cB cI cZ (upd I 1 (nI (n + 1))) (va_up F 0 (upd T n (vp_nar .byte ((fdb w k).toInt8.toInt32))))) H := hP
        have hD : va_D A (mW h0 q cB cI cZ (upd I 1 (nI (n + 1))) (va_up F 0 (upd T n (vp_nar .byte ((fdb w k).toInt8.toInt32))))) := hD
        refine lv_iinc (v := ((nI k) + (-1))) (lv' := [(4, .int ((nI k) + (-1))), (5, .int (fdb w k)), (0, .ref h0), (1, .long w), (3, .int (nI (kn + 1)))]) hx hb dX10_feed_93 hl (k := 1) rfl rfl (by decide) rfl (fun ls hl => ?_)
        refine lv_goto (tgt := 33) hx hb dX10_feed_96 (by decide) ?_
        have eT1 := tx_put_y (T := T) (n := n) (b := fdb w k) (Or.inl c_2) (by omega)
        exact ih _ _ _ H locs ls (q_dec _) (by omega) (by omega) hP hD hS (lv_sub hl (l' := [(4, .int ((nI k) + (-1))), (0, .ref h0), (1, .long w), (3, .int (nI (kn + 1)))]) [0, 2, 3, 4] rfl) (fun n2 T2 H locs ls a1 => kk n2 T2 H locs ls (a1.trans (congrArg (tx_fd w k) eT1.symm)))
      · refine lv_iload hx hb dX10_feed_59 (lv_at hl 0 rfl) ?_
        refine lv_bipush (v := 32) hx hb dX10_feed_61 (by decide) ?_
        refine lv_bipush (v := 126) hx hb dX10_feed_63 (by decide) ?_
        refine q_ei (k := cells) (n := slots) hP hS hA (q_rS (wc := []) (tc := []) (As := [.int (fdb w k), .int 32, .int 126]) (rest := []) hf (m_X10_in_1 _ D (fdb w k) 32 126 _) k_1296 k_1294 k_1295 k_98 (nA := 3) (by decide +kernel) ⟨Nat.le_trans (by decide) hRf, Nat.le_trans (by decide) hRl⟩ (fun k q h => by simp at h) (hK.sub (tys' := []) [] rfl) (A := A) ⟨fun i j p q h => by simp at h, fun k q h => by simp at h⟩ (fun _ _ _ _ h => h) (fun _ _ _ => trivial) rfl hl.1 rfl (Nat.le_of_ble_eq_true rfl) dX10_feed_65 ⟨hRc, hRs⟩) (Nat.le_refl _) (Nat.le_refl _) (fun r u H locs hw hP hS => ?_)
        rcases hw with ⟨c_3, rfl, rfl⟩ | ⟨c_4, c_5, rfl, rfl⟩ | ⟨c_6, c_7, rfl, rfl⟩
        · refine lv_if_eq (tgt := 93) hx hb dX10_feed_68 (by decide) (fun _ => ?_) (fun hno => absurd hno (by decide))
          refine lv_iinc (v := ((nI k) + (-1))) (lv' := [(4, .int ((nI k) + (-1))), (5, .int (fdb w k)), (0, .ref h0), (1, .long w), (3, .int (nI (kn + 1)))]) hx hb dX10_feed_93 hl (k := 1) rfl rfl (by decide) rfl (fun ls hl => ?_)
          refine lv_goto (tgt := 33) hx hb dX10_feed_96 (by decide) ?_
          have eT1 := tx_put_n (T := T) (n := n) (b := fdb w k) (fun z => z.elim c_2 (fun z => z.1 c_3))
          exact ih _ n T H locs ls (q_dec _) (by omega) (by omega) hP hD hS (lv_sub hl (l' := [(4, .int ((nI k) + (-1))), (0, .ref h0), (1, .long w), (3, .int (nI (kn + 1)))]) [0, 2, 3, 4] rfl) (fun n2 T2 H locs ls a1 => kk n2 T2 H locs ls (a1.trans (congrArg (tx_fd w k) eT1.symm)))
        · refine lv_if_eq (tgt := 93) hx hb dX10_feed_68 (by decide) (fun _ => ?_) (fun hno => absurd hno (by decide))
          refine lv_iinc (v := ((nI k) + (-1))) (lv' := [(4, .int ((nI k) + (-1))), (5, .int (fdb w k)), (0, .ref h0), (1, .long w), (3, .int (nI (kn + 1)))]) hx hb dX10_feed_93 hl (k := 1) rfl rfl (by decide) rfl (fun ls hl => ?_)
          refine lv_goto (tgt := 33) hx hb dX10_feed_96 (by decide) ?_
          have eT1 := tx_put_n (T := T) (n := n) (b := fdb w k) (fun z => z.elim c_2 (fun z => z.2 c_5))
          exact ih _ n T H locs ls (q_dec _) (by omega) (by omega) hP hD hS (lv_sub hl (l' := [(4, .int ((nI k) + (-1))), (0, .ref h0), (1, .long w), (3, .int (nI (kn + 1)))]) [0, 2, 3, 4] rfl) (fun n2 T2 H locs ls a1 => kk n2 T2 H locs ls (a1.trans (congrArg (tx_fd w k) eT1.symm)))
        · refine lv_if_eq (tgt := 93) hx hb dX10_feed_68 (by decide) (fun hno => absurd hno (by decide)) (fun _ => ?_)
          refine lv_aload_n hx hb dX10_feed_71 rfl (lv_at hl 2 rfl) ?_
          refine va_get (D := D) (ci := 11) (v := .ref (q 0)) (C := RX10) (T := TX10) (N := 48) hx hb hts inX10 hown hK hP 0 rfl rfl 0 (by decide) (hts _ k_1144) (fun _ h9 => h9) rfl dX10_feed_72 ?_
          refine lv_aload_n hx hb dX10_feed_75 rfl (lv_at hl 2 rfl) ?_
          refine va_get (D := D) (ci := 11) (v := .int (nI n)) (C := RX10) (T := TX10) (N := 48) hx hb hts inX10 hown hK hP 0 rfl rfl 1 (by decide) (hts _ k_1145) (fun _ h9 => h9) rfl dX10_feed_76 ?_
          refine lv_iload hx hb dX10_feed_79 (lv_at hl 0 rfl) ?_
          refine lv_i2b (v := (fdb w k).toInt8.toInt32) hx hb dX10_feed_81 rfl ?_
          refine q_bst (X := n) (f := T) (x := (fdb w k).toInt8.toInt32) hx hb hK hP hD hS 1 0 rfl rfl (by omega) (by decide) dX10_feed_82 (fun H locs hP hD hS => ?_)
          have hP : va_P D vcl (mW h0 q cB cI cZ (upd I 1 (nI n)) (va_up F 0 (upd T n (vp_nar .byte ((fdb w k).toInt8.toInt32))))) H := hP
          have hD : va_D A (mW h0 q cB cI cZ (upd I 1 (nI n)) (va_up F 0 (upd T n (vp_nar .byte ((fdb w k).toInt8.toInt32))))) := hD
          refine lv_aload_n hx hb dX10_feed_83 rfl (lv_at hl 2 rfl) ?_
          refine lv_dup hx hb dX10_feed_84 rfl ?_
          refine va_get (D := D) (ci := 11) (v := .int (nI n)) (C := RX10) (T := TX10) (N := 48) hx hb hts inX10 hown hK hP 0 rfl rfl 1 (by decide) (hts _ k_1145) (fun _ h9 => h9) rfl dX10_feed_85 ?_
          refine lv_iconst (v := 1) hx hb dX10_feed_88 (by decide) ?_
          refine lv_iadd hx hb dX10_feed_89 ?_
          refine q_seti (y := nI (n + 1)) (nI_add n 1) ?_
          refine va_put (D := D) (ci := 11) (v := .int (nI (n + 1))) (ty := .int) (C := RX10) (T := TX10) (N := 48) hx hb hts inX10 tyX10 tyX10_ok nmX10 hown hK hP hD hS 0 rfl rfl 1 (by decide) (hts _ k_1145) (fun _ h9 => h9) rfl (by decide +kernel) rfl rfl (Nat.le_of_ble_eq_true rfl) dX10_feed_90 (fun H locs hP hD hS => ?_)
          have hP : va_P D vcl (mW h0 q cB cI cZ (upd I 1 (nI (n + 1))) (va_up F 0 (upd T n (vp_nar .byte ((fdb w k).toInt8.toInt32))))) H := hP
          have hD : va_D A (mW h0 q cB cI cZ (upd I 1 (nI (n + 1))) (va_up F 0 (upd T n (vp_nar .byte ((fdb w k).toInt8.toInt32))))) := hD
          refine lv_iinc (v := ((nI k) + (-1))) (lv' := [(4, .int ((nI k) + (-1))), (5, .int (fdb w k)), (0, .ref h0), (1, .long w), (3, .int (nI (kn + 1)))]) hx hb dX10_feed_93 hl (k := 1) rfl rfl (by decide) rfl (fun ls hl => ?_)
          refine lv_goto (tgt := 33) hx hb dX10_feed_96 (by decide) ?_
          have eT1 := tx_put_y (T := T) (n := n) (b := fdb w k) (Or.inr ⟨c_6, c_7⟩) (by omega)
          exact ih _ _ _ H locs ls (q_dec _) (by omega) (by omega) hP hD hS (lv_sub hl (l' := [(4, .int ((nI k) + (-1))), (0, .ref h0), (1, .long w), (3, .int (nI (kn + 1)))]) [0, 2, 3, 4] rfl) (fun n2 T2 H locs ls a1 => kk n2 T2 H locs ls (a1.trans (congrArg (tx_fd w k) eT1.symm)))
set_option maxHeartbeats 1000000 in
set_option maxRecDepth 100000 in
theorem r_feed (l : Launch) (D : va_G) (h0 : Nat) (q : Nat → Nat) (cB cI_ cZ : ClassId) (I : Nat → Int32) (F : Nat → Nat → Int32) (n : Nat) (w : Int64) (x3 : Int32) (hI1 : I 1 = nI n) (hn : n ≤ 1200) : cI l D yX10_feed cX10_feed 6 (some .int) 1 22 0 0 [.ref h0, .long w, .int x3] zT (mW h0 q cB cI_ cZ I F) (mT cB cI_ cZ) (fun r u => ((x3 < 1 ∨ 8 < x3) ∧ r = (-2) ∧ u = (mW h0 q cB cI_ cZ I F, mT cB cI_ cZ)) ∨ (∃ kn : Nat, kn < 8 ∧ x3 = nI (kn + 1) ∧ ¬ n + (kn + 1) ≤ 1200 ∧ r = (-4) ∧ u = (mW h0 q cB cI_ cZ I F, mT cB cI_ cZ)) ∨ (∃ (kn n2 : Nat) (T2 : Nat → Int32), kn < 8 ∧ x3 = nI (kn + 1) ∧ n + (kn + 1) ≤ 1200 ∧ (n2, T2) = tx_fd w (kn + 1) (n, F 0) ∧ n2 ≤ 1200 ∧ r = nI n2 ∧ u = (mW h0 q cB cI_ cZ (upd I 1 (nI n2)) (va_up F 0 T2), mT cB cI_ cZ))) := by
  refine q_si (by decide) (Nat.le_of_ble_eq_true rfl) ?_
  intro p e s m below meth c A ls hAe hf hr hlocks hin hK hP hD hS hA hZ hl
  obtain ⟨hx, hb, hml, hown, hts⟩ := id hf
  have hl : lv_has ls 6 [(0, .ref h0), (1, .long w), (3, .int x3)] := hl
  refine lv_iload_n hx hb dX10_feed_0 rfl (lv_at hl 2 rfl) ?_
  refine lv_iconst (v := 1) hx hb dX10_feed_1 (by decide) ?_
  refine lv_bipush (v := 8) hx hb dX10_feed_2 (by decide) ?_
  refine q_ei (k := 0) (n := 0) hP hS hA (q_rS (wc := []) (tc := []) (As := [.int x3, .int 1, .int 8]) (rest := []) hf (m_X10_in_1 _ D x3 1 8 _) k_1296 k_1294 k_1295 k_98 (nA := 3) (by decide +kernel) ⟨Nat.le_of_ble_eq_true rfl, Nat.le_of_ble_eq_true rfl⟩ (fun k q h => by simp at h) (hK.sub (tys' := []) [] rfl) (A := A) ⟨fun i j p q h => by simp at h, fun k q h => by simp at h⟩ (fun _ _ _ _ h => h) (fun _ _ _ => trivial) rfl hl.1 rfl (Nat.le_of_ble_eq_true rfl) dX10_feed_4 ⟨Nat.le_of_ble_eq_true rfl, Nat.le_of_ble_eq_true rfl⟩) (by decide) (by decide) (fun r u H locs hw hP hS => ?_)
  rcases hw with ⟨c_1, rfl, rfl⟩ | ⟨c_2, c_3, rfl, rfl⟩ | ⟨c_4, c_5, rfl, rfl⟩
  · refine lv_if_ne (tgt := 13) hx hb dX10_feed_7 (by decide) (fun hno => absurd hno (by decide)) (fun _ => ?_)
    refine lv_bipush (v := (-2)) hx hb dX10_feed_10 (by decide) ?_
    exact q_zi hf hr rfl hlocks hK hP hD hS (Nat.le_of_ble_eq_true rfl) (Nat.le_of_ble_eq_true rfl) (Or.inl ⟨Or.inl c_1, rfl, rfl⟩) dX10_feed_12
  · refine lv_if_ne (tgt := 13) hx hb dX10_feed_7 (by decide) (fun hno => absurd hno (by decide)) (fun _ => ?_)
    refine lv_bipush (v := (-2)) hx hb dX10_feed_10 (by decide) ?_
    exact q_zi hf hr rfl hlocks hK hP hD hS (Nat.le_of_ble_eq_true rfl) (Nat.le_of_ble_eq_true rfl) (Or.inl ⟨Or.inr c_3, rfl, rfl⟩) dX10_feed_12
  · refine lv_if_ne (tgt := 13) hx hb dX10_feed_7 (by decide) (fun _ => ?_) (fun hno => absurd hno (by decide))
    obtain ⟨kn, hkn, rfl⟩ := fd_in c_4 c_5
    have hl : lv_has ls 6 [(0, .ref h0), (1, .long w), (3, .int (nI (kn + 1)))] := hl
    refine lv_aload_n hx hb dX10_feed_13 rfl (lv_at hl 0 rfl) ?_
    refine va_get (D := D) (ci := 11) (v := .int (I 1)) (C := RX10) (T := TX10) (N := 48) hx hb hts inX10 hown hK hP 0 rfl rfl 1 (by decide) (hts _ k_1145) (fun _ h9 => h9) rfl dX10_feed_14 ?_
    refine q_seti (y := (nI n)) hI1 ?_
    refine lv_sipush (v := 1200) hx hb dX10_feed_17 (by decide) ?_
    refine lv_iload_n hx hb dX10_feed_20 rfl (lv_at hl 2 rfl) ?_
    refine lv_isub hx hb dX10_feed_21 ?_
    refine q_seti (y := nI (1200 - (kn + 1))) (pk_sub (a := 1200) (b := kn + 1) (by omega)) ?_
    refine lv_icmp_le (tgt := 28) hx hb dX10_feed_22 (by decide) (fun c_6 => ?_) (fun c_6 => ?_)
    · have c_6 := q_le (a := n) (b := 1200 - (kn + 1)) (by omega) (by omega) c_6
      refine lv_iload_n hx hb dX10_feed_28 rfl (lv_at hl 2 rfl) ?_
      refine lv_iconst (v := 1) hx hb dX10_feed_29 (by decide) ?_
      refine lv_isub hx hb dX10_feed_30 ?_
      refine q_seti (y := nI ((kn + 1) - 1)) (pk_sub (a := kn + 1) (b := 1) (by omega)) ?_
      refine lv_istore (lv' := [(4, .int (nI ((kn + 1) - 1))), (0, .ref h0), (1, .long w), (3, .int (nI (kn + 1)))]) hx hb dX10_feed_31 hl (by decide) rfl (fun ls hl => ?_)
      have hz9 : F = va_up F 0 (F 0) := (va_up_id9 F 0).symm
      have hy9 : I = upd I 1 (nI n) := by rw [← hI1, upd_id9]
      obtain ⟨hP, hD⟩ := q_set4 hz9 hP hD
      obtain ⟨hP, hD⟩ := q_set5 hy9 hP hD
      refine lfd_ (I := I) (F := F) (kn := kn) (w := w) (Nat.le_of_ble_eq_true rfl) (Nat.le_of_ble_eq_true rfl) (Nat.le_of_ble_eq_true rfl) (Nat.le_of_ble_eq_true rfl) hA hf hK (kn + 1) _ n (F 0) _ _ ls (nI_pred kn).symm (by omega) (by omega) hP hD hS (lv_sub hl (l' := [(4, .int (nI ((kn + 1) - 1))), (0, .ref h0), (1, .long w), (3, .int (nI (kn + 1)))]) [0, 1, 2, 3] rfl) (fun n2 T2 H locs ls a1 a2 hP hD hS hl => ?_)
      have hP : va_P D vcl (mW h0 q cB cI_ cZ (upd I 1 (nI n2)) (va_up F 0 T2)) H := hP
      have hD : va_D A (mW h0 q cB cI_ cZ (upd I 1 (nI n2)) (va_up F 0 T2)) := hD
      refine lv_aload_n hx hb dX10_feed_99 rfl (lv_at hl 0 rfl) ?_
      refine va_get (D := D) (ci := 11) (v := .int (nI n2)) (C := RX10) (T := TX10) (N := 48) hx hb hts inX10 hown hK hP 0 rfl rfl 1 (by decide) (hts _ k_1145) (fun _ h9 => h9) rfl dX10_feed_100 ?_
      exact q_zi hf hr rfl hlocks hK hP hD hS (Nat.le_of_ble_eq_true rfl) (Nat.le_of_ble_eq_true rfl) (Or.inr (Or.inr ⟨kn, n2, T2, hkn, rfl, by omega, a1, a2, rfl, rfl⟩)) dX10_feed_103
    · have c_6 := q_nle (a := n) (b := 1200 - (kn + 1)) (by omega) (by omega) c_6
      refine lv_bipush (v := (-4)) hx hb dX10_feed_25 (by decide) ?_
      exact q_zi hf hr rfl hlocks hK hP hD hS (Nat.le_of_ble_eq_true rfl) (Nat.le_of_ble_eq_true rfl) (Or.inr (Or.inl ⟨kn, hkn, rfl, by omega, rfl, rfl⟩)) dX10_feed_27
set_option maxHeartbeats 1000000 in
set_option maxRecDepth 100000 in
theorem lm_a {p : Program} {l : Launch} {e : Env} {R : Room} {s : State} {m : MethodId} {args : Array Value} {below : List Frame} {meth : Method} {c : Code} {cells slots : Nat} {Q : State → Prop} {D : va_G} {A : Nat → Prop} {h0 : Nat} {q : Nat → Nat} {cB cI cZ : ClassId} {I : Nat → Int32} {F : Nat → Nat → Int32} {en : Nat} {sl : Nat → Nat} (hI3 : I 3 = nI en) (hen : en ≤ 60) (hsl : ∀ e, e < en → F 4 e = nI (sl e) ∧ sl e < 60) (hRf : 0 ≤ R.frames) (hRl : 0 ≤ R.locals) (hRc : cells ≤ R.cells) (hRs : slots ≤ R.slots) (hA : ∀ q : Nat, s.heap.size ≤ q → A q) (hf : CallFix p m c cX10_merge 4 s args gT yX10_merge.cls) (hK : va_K D vcl (mT cB cI cZ) s) :
    ∀ (k : Nat) (i : Nat) (g42 : Nat → Int32) (g43 : Nat → Int32) (g5 : Nat → Int32) (H : Heap) (locs : List Loc) (ls : Array Slot), i + k = en → (∀ j, j < i → g42 j = nI (sl j) ∧ g43 j = (-1)) → (∀ w, w < 60 → g5 w = 0 ∨ (g5 w = F 5 w ∧ ∀ j, j < i → sl j ≠ w)) →  va_P D vcl (mW h0 q cB cI cZ I (va_up (va_up (va_up F 5 g5) 42 g42) 43 g43)) H → va_D A (mW h0 q cB cI cZ I (va_up (va_up (va_up F 5 g5) 42 g42) 43 g43)) → va_S A s.heap H locs → lv_has ls 4 [(1, .int (nI i)), (0, .ref h0)] →
    (∀ (g42 : Nat → Int32) (g43 : Nat → Int32) (g5 : Nat → Int32) (H : Heap) (locs : List Loc) (ls : Array Slot), (∀ j, j < en → g42 j = nI (sl j) ∧ g43 j = (-1)) → (∀ w, w < 60 → g5 w = 0 ∨ (g5 w = F 5 w ∧ ∀ j, j < en → sl j ≠ w)) → va_P D vcl (mW h0 q cB cI cZ I (va_up (va_up (va_up F 5 g5) 42 g42) 43 g43)) H → va_D A (mW h0 q cB cI cZ I (va_up (va_up (va_up F 5 g5) 42 g42) 43 g43)) → va_S A s.heap H locs → lv_has ls 4 [(0, .ref h0)] → W p l e R s m args below meth c H locs cells slots Q (F0 m 57 ls [])) →
    W p l e R s m args below meth c H locs cells slots Q (F0 m 12 ls []) := by
  obtain ⟨hx, hb, hml, hown, hts⟩ := id hf
  intro k
  induction k with
  | zero =>
    intro i g42 g43 g5 H locs ls hik h1 h2 hP hD hS hl kk
    have hsl9 := fun (h9 : i < en) => (hsl i h9).2
    refine lv_iload_n hx hb dX10_merge_12 rfl (lv_at hl 0 rfl) ?_
    refine lv_aload_n hx hb dX10_merge_13 rfl (lv_at hl 1 rfl) ?_
    refine va_get (D := D) (ci := 11) (v := .int (I 3)) (C := RX10) (T := TX10) (N := 48) hx hb hts inX10 hown hK hP 0 rfl rfl 3 (by decide) (hts _ k_1147) (fun _ h9 => h9) rfl dX10_merge_14 ?_
    refine q_seti (y := (nI en)) hI3 ?_
    refine lv_icmp_ge (tgt := 57) hx hb dX10_merge_17 (by decide) (fun c_1 => ?_) (fun c_1 => ?_)
    · have c_1 := q_le (a := en) (b := i) (by omega) (by omega) c_1
      obtain rfl : en = i := by omega
      exact kk g42 g43 g5 H locs ls h1 h2 hP hD hS (lv_sub hl (l' := [(0, .ref h0)]) [1] rfl)
    · have c_1 := q_nle (a := en) (b := i) (by omega) (by omega) c_1
      exact absurd hik (by omega)
  | succ k ih =>
    intro i g42 g43 g5 H locs ls hik h1 h2 hP hD hS hl kk
    have hsl9 := fun (h9 : i < en) => (hsl i h9).2
    refine lv_iload_n hx hb dX10_merge_12 rfl (lv_at hl 0 rfl) ?_
    refine lv_aload_n hx hb dX10_merge_13 rfl (lv_at hl 1 rfl) ?_
    refine va_get (D := D) (ci := 11) (v := .int (I 3)) (C := RX10) (T := TX10) (N := 48) hx hb hts inX10 hown hK hP 0 rfl rfl 3 (by decide) (hts _ k_1147) (fun _ h9 => h9) rfl dX10_merge_14 ?_
    refine q_seti (y := (nI en)) hI3 ?_
    refine lv_icmp_ge (tgt := 57) hx hb dX10_merge_17 (by decide) (fun c_1 => ?_) (fun c_1 => ?_)
    · have c_1 := q_le (a := en) (b := i) (by omega) (by omega) c_1
      exact absurd hik (by omega)
    · have c_1 := q_nle (a := en) (b := i) (by omega) (by omega) c_1
      refine lv_aload_n hx hb dX10_merge_20 rfl (lv_at hl 1 rfl) ?_
      refine va_get (D := D) (ci := 11) (v := .ref (q 42)) (C := RX10) (T := TX10) (N := 48) hx hb hts inX10 hown hK hP 0 rfl rfl 42 (by decide) (hts _ k_1186) (fun _ h9 => h9) rfl dX10_merge_21 ?_
      refine lv_iload_n hx hb dX10_merge_24 rfl (lv_at hl 0 rfl) ?_
      refine lv_aload_n hx hb dX10_merge_25 rfl (lv_at hl 1 rfl) ?_
      refine va_get (D := D) (ci := 11) (v := .ref (q 4)) (C := RX10) (T := TX10) (N := 48) hx hb hts inX10 hown hK hP 0 rfl rfl 4 (by decide) (hts _ k_1148) (fun _ h9 => h9) rfl dX10_merge_26 ?_
      refine lv_iload_n hx hb dX10_merge_29 rfl (lv_at hl 0 rfl) ?_
      refine q_ild (X := i) (f := (F 4)) hx hb hK hP 2 1 rfl rfl (by omega) (by decide) dX10_merge_30 ?_
      refine q_seti (y := (nI ((sl i)))) (hsl i (by omega)).1 ?_
      refine q_ist (X := i) (f := g42) (x := (nI ((sl i)))) hx hb hK hP hD hS 31 1 rfl rfl (by omega) (by decide) dX10_merge_31 (fun H locs hP hD hS => ?_)
      have hP : va_P D vcl (mW h0 q cB cI cZ I (va_up (va_up (va_up F 5 g5) 42 (upd g42 i (nI ((sl i))))) 43 g43)) H := hP
      have hD : va_D A (mW h0 q cB cI cZ I (va_up (va_up (va_up F 5 g5) 42 (upd g42 i (nI ((sl i))))) 43 g43)) := hD
      refine lv_aload_n hx hb dX10_merge_32 rfl (lv_at hl 1 rfl) ?_
      refine va_get (D := D) (ci := 11) (v := .ref (q 43)) (C := RX10) (T := TX10) (N := 48) hx hb hts inX10 hown hK hP 0 rfl rfl 43 (by decide) (hts _ k_1187) (fun _ h9 => h9) rfl dX10_merge_33 ?_
      refine lv_iload_n hx hb dX10_merge_36 rfl (lv_at hl 0 rfl) ?_
      refine lv_iconst (v := (-1)) hx hb dX10_merge_37 (by decide) ?_
      refine q_ist (X := i) (f := g43) (x := (-1)) hx hb hK hP hD hS 32 1 rfl rfl (by omega) (by decide) dX10_merge_38 (fun H locs hP hD hS => ?_)
      have hP : va_P D vcl (mW h0 q cB cI cZ I (va_up (va_up (va_up F 5 g5) 42 (upd g42 i (nI ((sl i))))) 43 (upd g43 i (-1)))) H := hP
      have hD : va_D A (mW h0 q cB cI cZ I (va_up (va_up (va_up F 5 g5) 42 (upd g42 i (nI ((sl i))))) 43 (upd g43 i (-1)))) := hD
      refine lv_aload_n hx hb dX10_merge_39 rfl (lv_at hl 1 rfl) ?_
      refine va_get (D := D) (ci := 11) (v := .ref (q 5)) (C := RX10) (T := TX10) (N := 48) hx hb hts inX10 hown hK hP 0 rfl rfl 5 (by decide) (hts _ k_1149) (fun _ h9 => h9) rfl dX10_merge_40 ?_
      refine lv_aload_n hx hb dX10_merge_43 rfl (lv_at hl 1 rfl) ?_
      refine va_get (D := D) (ci := 11) (v := .ref (q 4)) (C := RX10) (T := TX10) (N := 48) hx hb hts inX10 hown hK hP 0 rfl rfl 4 (by decide) (hts _ k_1148) (fun _ h9 => h9) rfl dX10_merge_44 ?_
      refine lv_iload_n hx hb dX10_merge_47 rfl (lv_at hl 0 rfl) ?_
      refine q_ild (X := i) (f := (F 4)) hx hb hK hP 2 1 rfl rfl (by omega) (by decide) dX10_merge_48 ?_
      refine q_seti (y := (nI ((sl i)))) (hsl i (by omega)).1 ?_
      refine lv_iconst (v := 0) hx hb dX10_merge_49 (by decide) ?_
      refine q_zst (X := (sl i)) (f := g5) (x := 0) hx hb hK hP hD hS 3 2 rfl rfl (by omega) (by decide) dX10_merge_50 (fun H locs hP hD hS => ?_)
      have hP : va_P D vcl (mW h0 q cB cI cZ I (va_up (va_up (va_up F 5 (upd g5 ((sl i)) (vp_nar .boolean 0))) 42 (upd g42 i (nI ((sl i))))) 43 (upd g43 i (-1)))) H := hP
      have hD : va_D A (mW h0 q cB cI cZ I (va_up (va_up (va_up F 5 (upd g5 ((sl i)) (vp_nar .boolean 0))) 42 (upd g42 i (nI ((sl i))))) 43 (upd g43 i (-1)))) := hD
      refine lv_iinc (v := (nI (i + 1))) (lv' := [(1, .int (nI (i + 1))), (0, .ref h0)]) hx hb dX10_merge_51 hl (k := 0) rfl (nI_add i 1) (by decide) rfl (fun ls hl => ?_)
      refine lv_goto (tgt := 12) hx hb dX10_merge_54 (by decide) ?_
      exact ih (i + 1) _ _ _ H locs ls (by omega) (ma_1 h1) (ma_2 h2) hP hD hS (lv_sub hl (l' := [(1, .int (nI (i + 1))), (0, .ref h0)]) [0, 1] rfl) kk
set_option maxHeartbeats 1000000 in
set_option maxRecDepth 100000 in
theorem lm_b {p : Program} {l : Launch} {e : Env} {R : Room} {s : State} {m : MethodId} {args : Array Value} {below : List Frame} {meth : Method} {c : Code} {cells slots : Nat} {Q : State → Prop} {D : va_G} {A : Nat → Prop} {h0 : Nat} {q : Nat → Nat} {cB cI cZ : ClassId} {I : Nat → Int32} {F : Nat → Nat → Int32} {en : Nat} {sl : Nat → Nat} {P : List Q4} (hen : en ≤ 60) (hI14 : I 14 = nI P.length) (hpn : P.length ≤ 8000) (hpcF : pc_is P (F 15) (F 16) (F 17) (F 18)) (hQe : ∀ i, i < P.length → (P.getD i d4).1 < en) (hsl : ∀ e, e < en → sl e < 60) (h42 : ∀ e, e < en → F 42 e = nI (sl e)) (hRf : 0 ≤ R.frames) (hRl : 0 ≤ R.locals) (hRc : cells ≤ R.cells) (hRs : slots ≤ R.slots) (hA : ∀ q : Nat, s.heap.size ≤ q → A q) (hf : CallFix p m c cX10_merge 4 s args gT yX10_merge.cls) (hK : va_K D vcl (mT cB cI cZ) s) :
    ∀ (k : Nat) (i : Nat) (n : Nat) (M : List Nat) (g4 : Nat → Int32) (g5 : Nat → Int32) (g43 : Nat → Int32) (H : Heap) (locs : List Loc) (ls : Array Slot), i + k = P.length → M = mgN P i → n = M.length → mbI sl en M g4 g5 g43 →  va_P D vcl (mW h0 q cB cI cZ I (va_up (va_up (va_up F 4 g4) 5 g5) 43 g43)) H → va_D A (mW h0 q cB cI cZ I (va_up (va_up (va_up F 4 g4) 5 g5) 43 g43)) → va_S A s.heap H locs → lv_has ls 4 [(2, .int (nI i)), (1, .int (nI n)), (0, .ref h0)] →
    (∀ (n : Nat) (M : List Nat) (g4 : Nat → Int32) (g5 : Nat → Int32) (g43 : Nat → Int32) (H : Heap) (locs : List Loc) (ls : Array Slot), M = mgN P P.length → n = M.length → mbI sl en M g4 g5 g43 → va_P D vcl (mW h0 q cB cI cZ I (va_up (va_up (va_up F 4 g4) 5 g5) 43 g43)) H → va_D A (mW h0 q cB cI cZ I (va_up (va_up (va_up F 4 g4) 5 g5) 43 g43)) → va_S A s.heap H locs → lv_has ls 4 [(1, .int (nI n)), (0, .ref h0)] → W p l e R s m args below meth c H locs cells slots Q (F0 m 126 ls [])) →
    W p l e R s m args below meth c H locs cells slots Q (F0 m 61 ls []) := by
  obtain ⟨hx, hb, hml, hown, hts⟩ := id hf
  intro k
  induction k with
  | zero =>
    intro i n M g4 g5 g43 H locs ls hik hM hn hI9 hP hD hS hl kk
    refine lv_iload_n hx hb dX10_merge_61 rfl (lv_at hl 0 rfl) ?_
    refine lv_aload_n hx hb dX10_merge_62 rfl (lv_at hl 2 rfl) ?_
    refine va_get (D := D) (ci := 11) (v := .int (I 14)) (C := RX10) (T := TX10) (N := 48) hx hb hts inX10 hown hK hP 0 rfl rfl 14 (by decide) (hts _ k_1158) (fun _ h9 => h9) rfl dX10_merge_63 ?_
    refine q_seti (y := (nI (P.length))) hI14 ?_
    refine lv_icmp_ge (tgt := 126) hx hb dX10_merge_66 (by decide) (fun c_1 => ?_) (fun c_1 => ?_)
    · have c_1 := q_le (a := P.length) (b := i) (by omega) (by omega) c_1
      obtain rfl : i = P.length := by omega
      exact kk n M g4 g5 g43 H locs ls hM hn hI9 hP hD hS (lv_sub hl (l' := [(1, .int (nI n)), (0, .ref h0)]) [1, 2] rfl)
    · have c_1 := q_nle (a := P.length) (b := i) (by omega) (by omega) c_1
      exact absurd hik (by omega)
  | succ k ih =>
    intro i n M g4 g5 g43 H locs ls hik hM hn hI9 hP hD hS hl kk
    refine lv_iload_n hx hb dX10_merge_61 rfl (lv_at hl 0 rfl) ?_
    refine lv_aload_n hx hb dX10_merge_62 rfl (lv_at hl 2 rfl) ?_
    refine va_get (D := D) (ci := 11) (v := .int (I 14)) (C := RX10) (T := TX10) (N := 48) hx hb hts inX10 hown hK hP 0 rfl rfl 14 (by decide) (hts _ k_1158) (fun _ h9 => h9) rfl dX10_merge_63 ?_
    refine q_seti (y := (nI (P.length))) hI14 ?_
    refine lv_icmp_ge (tgt := 126) hx hb dX10_merge_66 (by decide) (fun c_1 => ?_) (fun c_1 => ?_)
    · have c_1 := q_le (a := P.length) (b := i) (by omega) (by omega) c_1
      exact absurd hik (by omega)
    · have c_1 := q_nle (a := P.length) (b := i) (by omega) (by omega) c_1
      have hpb9 := hQe i (by omega)
      have hsl9 := hsl _ hpb9
      have hml := mgN_len hQe (i + 1) (by omega)
      have hml2 : M.length ≤ 60 := by rw [hM]; exact Nat.le_trans (mgN_len hQe i (by omega)) hen
      refine lv_aload_n hx hb dX10_merge_69 rfl (lv_at hl 2 rfl) ?_
      refine va_get (D := D) (ci := 11) (v := .ref (q 15)) (C := RX10) (T := TX10) (N := 48) hx hb hts inX10 hown hK hP 0 rfl rfl 15 (by decide) (hts _ k_1159) (fun _ h9 => h9) rfl dX10_merge_70 ?_
      refine lv_iload_n hx hb dX10_merge_73 rfl (lv_at hl 0 rfl) ?_
      refine q_ild (X := i) (f := (F 15)) hx hb hK hP 12 1 rfl rfl (by omega) (by decide) dX10_merge_74 ?_
      refine q_seti (y := (nI ((P.getD i d4).1))) (hpcF i (by omega)).1 ?_
      refine lv_istore_n (lv' := [(3, .int (nI ((P.getD i d4).1))), (2, .int (nI i)), (1, .int (nI n)), (0, .ref h0)]) hx hb dX10_merge_75 rfl hl (by decide) rfl (fun ls hl => ?_)
      refine lv_aload_n hx hb dX10_merge_76 rfl (lv_at hl 3 rfl) ?_
      refine va_get (D := D) (ci := 11) (v := .ref (q 43)) (C := RX10) (T := TX10) (N := 48) hx hb hts inX10 hown hK hP 0 rfl rfl 43 (by decide) (hts _ k_1187) (fun _ h9 => h9) rfl dX10_merge_77 ?_
      refine lv_iload_n hx hb dX10_merge_80 rfl (lv_at hl 0 rfl) ?_
      refine q_ild (X := (P.getD i d4).1) (f := g43) hx hb hK hP 32 1 rfl rfl (by omega) (by decide) dX10_merge_81 ?_
      refine lv_iconst (v := (-1)) hx hb dX10_merge_82 (by decide) ?_
      refine lv_icmp_ne (tgt := 120) hx hb dX10_merge_83 (by decide) (fun c_2 => ?_) (fun c_2 => ?_)
      · refine lv_iinc (v := (nI (i + 1))) (lv' := [(2, .int (nI (i + 1))), (3, .int (nI ((P.getD i d4).1))), (1, .int (nI n)), (0, .ref h0)]) hx hb dX10_merge_120 hl (k := 1) rfl (nI_add i 1) (by decide) rfl (fun ls hl => ?_)
        refine lv_goto (tgt := 61) hx hb dX10_merge_123 (by decide) ?_
        have hm9 : (P.getD i d4).1 ∈ mgN P i := Classical.byContradiction (fun z => c_2 ((hI9.1 _ hpb9).2 (by rw [hM]; exact z)))
        exact ih (i + 1) n M g4 g5 g43 H locs ls (by omega) (hM.trans (mgN_y hm9).symm) hn hI9 hP hD hS (lv_sub hl (l' := [(2, .int (nI (i + 1))), (1, .int (nI n)), (0, .ref h0)]) [0, 2, 3] rfl) kk
      · have hm8 : ¬ (P.getD i d4).1 ∈ M := fun z => (hI9.1 _ hpb9).1 z c_2
        rw [mgN_n (by rw [← hM]; exact hm8), ← hM, List.length_append] at hml
        have hml : M.length + 1 ≤ en := hml
        refine lv_aload_n hx hb dX10_merge_86 rfl (lv_at hl 3 rfl) ?_
        refine va_get (D := D) (ci := 11) (v := .ref (q 43)) (C := RX10) (T := TX10) (N := 48) hx hb hts inX10 hown hK hP 0 rfl rfl 43 (by decide) (hts _ k_1187) (fun _ h9 => h9) rfl dX10_merge_87 ?_
        refine lv_iload_n hx hb dX10_merge_90 rfl (lv_at hl 0 rfl) ?_
        refine lv_iload_n hx hb dX10_merge_91 rfl (lv_at hl 2 rfl) ?_
        refine q_ist (X := (P.getD i d4).1) (f := g43) (x := (nI n)) hx hb hK hP hD hS 32 1 rfl rfl (by omega) (by decide) dX10_merge_92 (fun H locs hP hD hS => ?_)
        have hP : va_P D vcl (mW h0 q cB cI cZ I (va_up (va_up (va_up F 4 g4) 5 g5) 43 (upd g43 ((P.getD i d4).1) (nI n)))) H := hP
        have hD : va_D A (mW h0 q cB cI cZ I (va_up (va_up (va_up F 4 g4) 5 g5) 43 (upd g43 ((P.getD i d4).1) (nI n)))) := hD
        refine lv_aload_n hx hb dX10_merge_93 rfl (lv_at hl 3 rfl) ?_
        refine va_get (D := D) (ci := 11) (v := .ref (q 4)) (C := RX10) (T := TX10) (N := 48) hx hb hts inX10 hown hK hP 0 rfl rfl 4 (by decide) (hts _ k_1148) (fun _ h9 => h9) rfl dX10_merge_94 ?_
        refine lv_iload_n hx hb dX10_merge_97 rfl (lv_at hl 2 rfl) ?_
        refine lv_aload_n hx hb dX10_merge_98 rfl (lv_at hl 3 rfl) ?_
        refine va_get (D := D) (ci := 11) (v := .ref (q 42)) (C := RX10) (T := TX10) (N := 48) hx hb hts inX10 hown hK hP 0 rfl rfl 42 (by decide) (hts _ k_1186) (fun _ h9 => h9) rfl dX10_merge_99 ?_
        refine lv_iload_n hx hb dX10_merge_102 rfl (lv_at hl 0 rfl) ?_
        refine q_ild (X := (P.getD i d4).1) (f := (F 42)) hx hb hK hP 31 1 rfl rfl (by omega) (by decide) dX10_merge_103 ?_
        refine q_seti (y := (nI ((sl (P.getD i d4).1)))) (h42 _ hpb9) ?_
        refine q_ist (X := n) (f := g4) (x := (nI ((sl (P.getD i d4).1)))) hx hb hK hP hD hS 2 1 rfl rfl (by omega) (by decide) dX10_merge_104 (fun H locs hP hD hS => ?_)
        have hP : va_P D vcl (mW h0 q cB cI cZ I (va_up (va_up (va_up F 4 (upd g4 n (nI ((sl (P.getD i d4).1))))) 5 g5) 43 (upd g43 ((P.getD i d4).1) (nI n)))) H := hP
        have hD : va_D A (mW h0 q cB cI cZ I (va_up (va_up (va_up F 4 (upd g4 n (nI ((sl (P.getD i d4).1))))) 5 g5) 43 (upd g43 ((P.getD i d4).1) (nI n)))) := hD
        refine lv_aload_n hx hb dX10_merge_105 rfl (lv_at hl 3 rfl) ?_
        refine va_get (D := D) (ci := 11) (v := .ref (q 5)) (C := RX10) (T := TX10) (N := 48) hx hb hts inX10 hown hK hP 0 rfl rfl 5 (by decide) (hts _ k_1149) (fun _ h9 => h9) rfl dX10_merge_106 ?_
        refine lv_aload_n hx hb dX10_merge_109 rfl (lv_at hl 3 rfl) ?_
        refine va_get (D := D) (ci := 11) (v := .ref (q 4)) (C := RX10) (T := TX10) (N := 48) hx hb hts inX10 hown hK hP 0 rfl rfl 4 (by decide) (hts _ k_1148) (fun _ h9 => h9) rfl dX10_merge_110 ?_
        refine lv_iload_n hx hb dX10_merge_113 rfl (lv_at hl 2 rfl) ?_
        refine q_ild (X := n) (f := (upd g4 n (nI ((sl (P.getD i d4).1))))) hx hb hK hP 2 1 rfl rfl (by omega) (by decide) dX10_merge_114 ?_
        refine q_seti (y := (nI ((sl (P.getD i d4).1)))) pk_us ?_
        refine lv_iconst (v := 1) hx hb dX10_merge_115 (by decide) ?_
        refine q_zst (X := (sl (P.getD i d4).1)) (f := g5) (x := 1) hx hb hK hP hD hS 3 2 rfl rfl (by omega) (by decide) dX10_merge_116 (fun H locs hP hD hS => ?_)
        have hP : va_P D vcl (mW h0 q cB cI cZ I (va_up (va_up (va_up F 4 (upd g4 n (nI ((sl (P.getD i d4).1))))) 5 (upd g5 ((sl (P.getD i d4).1)) (vp_nar .boolean 1))) 43 (upd g43 ((P.getD i d4).1) (nI n)))) H := hP
        have hD : va_D A (mW h0 q cB cI cZ I (va_up (va_up (va_up F 4 (upd g4 n (nI ((sl (P.getD i d4).1))))) 5 (upd g5 ((sl (P.getD i d4).1)) (vp_nar .boolean 1))) 43 (upd g43 ((P.getD i d4).1) (nI n)))) := hD
        refine lv_iinc (v := (nI (n + 1))) (lv' := [(1, .int (nI (n + 1))), (3, .int (nI ((P.getD i d4).1))), (2, .int (nI i)), (0, .ref h0)]) hx hb dX10_merge_117 hl (k := 2) rfl (nI_add n 1) (by decide) rfl (fun ls hl => ?_)
        refine lv_iinc (v := (nI (i + 1))) (lv' := [(2, .int (nI (i + 1))), (1, .int (nI (n + 1))), (3, .int (nI ((P.getD i d4).1))), (0, .ref h0)]) hx hb dX10_merge_120 hl (k := 2) rfl (nI_add i 1) (by decide) rfl (fun ls hl => ?_)
        refine lv_goto (tgt := 61) hx hb dX10_merge_123 (by decide) ?_
        have hm9 : ¬ (P.getD i d4).1 ∈ M := fun z => (hI9.1 _ hpb9).1 z c_2
        rw [hn] at hP hD
        exact ih (i + 1) (n + 1) (M ++ [(P.getD i d4).1]) _ _ _ H locs ls (by omega) (by rw [mgN_n (by rw [← hM]; exact hm9), hM]) (by rw [List.length_append, hn]; rfl) (mb_s hI9 hpb9 hm9 (by omega)) hP hD hS (lv_sub hl (l' := [(2, .int (nI (i + 1))), (1, .int (nI (n + 1))), (0, .ref h0)]) [0, 1, 3] rfl) kk
set_option maxHeartbeats 1000000 in
set_option maxRecDepth 100000 in
theorem r_merge (l : Launch) (D : va_G) (h0 : Nat) (q : Nat → Nat) (cB cI_ cZ : ClassId) (I : Nat → Int32) (F : Nat → Nat → Int32) (lk : Nat) (Es : List E5) (sl : Nat → Nat) (P : List Q4) (hI3 : I 3 = nI Es.length) (hI14 : I 14 = nI P.length) (hI20 : I 20 = nI lk) (hlk : lk ≤ 1) (hre : reR F Es sl) (hpcF : pc_is P (F 15) (F 16) (F 17) (F 18)) (hQ : pq_ok Es.length (fun e => Es.getD e dE) P) (hpn : P.length ≤ 7000) : cI l D yX10_merge cX10_merge 4 (some .int) 1 22 0 0 [.ref h0] zT (mW h0 q cB cI_ cZ I F) (mT cB cI_ cZ) (fun r u => (lk = 0 ∧ r = (-3) ∧ u = (mW h0 q cB cI_ cZ I F, mT cB cI_ cZ)) ∨ (0 < lk ∧ r = nI (mgN P P.length).length ∧ ∃ (I2 : Nat → Int32) (F2 : Nat → Nat → Int32), F2 0 = F 0 ∧ (I2 1 = I 1 ∧ I2 2 = I 2 ∧ I2 20 = 0) ∧ (I2 3 = nI (mgN P P.length).length ∧ I2 14 = nI (mgN P P.length).length ∧ I2 19 = I 19) ∧ reR F2 ((mgN P P.length).map (fun e => Es.getD e dE)) (fun i => sl ((mgN P P.length).getD i 0)) ∧ pc_is (upP ((mgN P P.length).map (fun e => Es.getD e dE)) (mgN P P.length).length) (F2 15) (F2 16) (F2 17) (F2 18) ∧ u = (mW h0 q cB cI_ cZ I2 F2, mT cB cI_ cZ))) := by
  refine q_si (by decide) (Nat.le_of_ble_eq_true rfl) ?_
  intro p e s m below meth c A ls hAe hf hr hlocks hin hK hP hD hS hA hZ hl
  obtain ⟨hx, hb, hml, hown, hts⟩ := id hf
  have hl : lv_has ls 4 [(0, .ref h0)] := hl
  refine lv_aload_n hx hb dX10_merge_0 rfl (lv_at hl 0 rfl) ?_
  refine va_get (D := D) (ci := 11) (v := .int (I 20)) (C := RX10) (T := TX10) (N := 48) hx hb hts inX10 hown hK hP 0 rfl rfl 20 (by decide) (hts _ k_1164) (fun _ h9 => h9) rfl dX10_merge_1 ?_
  refine q_seti (y := (nI lk)) hI20 ?_
  refine lv_if_ne (tgt := 10) hx hb dX10_merge_4 (by decide) (fun c_1 => ?_) (fun c_1 => ?_)
  · have c_1 := q_nen (a := lk) (b := 0) (by omega) (by omega) c_1
    refine lv_iconst (v := 0) hx hb dX10_merge_10 (by decide) ?_
    refine lv_istore_n (lv' := [(1, .int 0), (0, .ref h0)]) hx hb dX10_merge_11 rfl hl (by decide) rfl (fun ls hl => ?_)
    have hz9 : F = va_up (va_up (va_up F 5 (F 5)) 42 (F 42)) 43 (F 43) := by rw [va_up_id9, va_up_id9, va_up_id9]
    obtain ⟨hP, hD⟩ := q_set4 hz9 hP hD
    refine lm_a (I := I) (F := F) (en := Es.length) (sl := sl) hI3 hre.1 (fun e he => ⟨(hre.2.1 e he).1, (hre.2.1 e he).2.1⟩) (Nat.le_of_ble_eq_true rfl) (Nat.le_of_ble_eq_true rfl) (Nat.le_of_ble_eq_true rfl) (Nat.le_of_ble_eq_true rfl) hA hf hK Es.length 0 (F 42) (F 43) (F 5) _ _ ls (by omega) (fun j hj => absurd hj (Nat.not_lt_zero j)) (fun w _ => Or.inr ⟨rfl, fun j hj => absurd hj (Nat.not_lt_zero j)⟩) hP hD hS (lv_sub hl (l' := [(1, .int 0), (0, .ref h0)]) [0, 1] rfl) (fun g42 g43 g5 H locs ls a1 a2 hP hD hS hl => ?_)
    have hP : va_P D vcl (mW h0 q cB cI_ cZ I (va_up (va_up (va_up F 5 g5) 42 g42) 43 g43)) H := hP
    have hD : va_D A (mW h0 q cB cI_ cZ I (va_up (va_up (va_up F 5 g5) 42 g42) 43 g43)) := hD
    refine lv_iconst (v := 0) hx hb dX10_merge_57 (by decide) ?_
    refine lv_istore_n (lv' := [(1, .int 0), (0, .ref h0)]) hx hb dX10_merge_58 rfl hl (by decide) rfl (fun ls hl => ?_)
    refine lv_iconst (v := 0) hx hb dX10_merge_59 (by decide) ?_
    refine lv_istore_n (lv' := [(2, .int 0), (1, .int 0), (0, .ref h0)]) hx hb dX10_merge_60 rfl hl (by decide) rfl (fun ls hl => ?_)
    have hz8 : (va_up (va_up (va_up F 5 g5) 42 g42) 43 g43) = va_up (va_up (va_up (va_up (va_up (va_up F 5 g5) 42 g42) 43 g43) 4 (F 4)) 5 g5) 43 g43 := by
      funext k9
      by_cases c1 : k9 = 43
      · rw [c1]; rfl
      · rw [va_up_ne _ _ c1, va_up_ne _ _ c1]
        by_cases c2 : k9 = 5
        · rw [c2]; rfl
        · rw [va_up_ne _ _ c2]
          by_cases c3 : k9 = 4
          · rw [c3]; rfl
          · rw [va_up_ne _ _ c3, va_up_ne _ _ c1]
    obtain ⟨hP, hD⟩ := q_set4 hz8 hP hD
    have hg50 : ∀ w, w < 60 → g5 w = 0 := fun w hw => by
      rcases a2 w hw with h9 | h9
      · exact h9
      · rcases hre.2.2.2 w hw with h8 | ⟨e, he, h8⟩
        · exact h9.1.trans h8
        · exact absurd h8 (h9.2 e he)
    refine lm_b (I := I) (F := (va_up (va_up (va_up F 5 g5) 42 g42) 43 g43)) (en := Es.length) (sl := sl) (P := P) hre.1 hI14 (by omega) hpcF (fun i hi => (hQ i hi).1) (fun e he => (hre.2.1 e he).2.1) (fun e he => (a1 e he).1) (Nat.le_of_ble_eq_true rfl) (Nat.le_of_ble_eq_true rfl) (Nat.le_of_ble_eq_true rfl) (Nat.le_of_ble_eq_true rfl) hA hf hK P.length 0 0 [] (F 4) g5 g43 _ _ ls (by omega) rfl rfl ⟨fun e he => ⟨fun z => absurd z List.not_mem_nil, fun _ => (a1 e he).2⟩, fun j hj => absurd hj (Nat.not_lt_zero j), fun w hw => Or.inl (hg50 w hw)⟩ hP hD hS (lv_sub hl (l' := [(2, .int 0), (1, .int 0), (0, .ref h0)]) [0, 1, 2] rfl) (fun n M g4 h5 h43 H locs ls b1 b2 b3 hP hD hS hl => ?_)
    have hM60 : M.length ≤ Es.length := by rw [b1]; exact mgN_len (fun i hi => (hQ i hi).1) _ (Nat.le_refl _)
    have hMin : ∀ i, i < M.length → M.getD i 0 < Es.length := fun i hi => by rw [b1] at hi ⊢; exact mgN_in (fun i hi => (hQ i hi).1) _ (Nat.le_refl _) _ (gn_m hi)
    have hre60 := hre.1
    have hz7 : va_up (va_up (va_up (va_up (va_up (va_up F 5 g5) 42 g42) 43 g43) 4 g4) 5 h5) 43 h43 = (va_up (va_up (va_up (va_up F 4 g4) 5 h5) 42 g42) 43 h43) := by
      funext k9
      by_cases c1 : k9 = 43
      · rw [c1]; rfl
      · rw [va_up_ne _ _ c1, va_up_ne _ _ c1]
        by_cases c2 : k9 = 5
        · rw [c2]; rfl
        · rw [va_up_ne _ _ c2]
          by_cases c3 : k9 = 4
          · rw [c3]; rfl
          · rw [va_up_ne _ _ c3, va_up_ne _ _ c1]
            by_cases c4 : k9 = 42
            · rw [c4]; rfl
            · rw [va_up_ne _ _ c4, va_up_ne _ _ c2, va_up_ne _ _ c4, va_up_ne _ _ c2, va_up_ne _ _ c3]
    obtain ⟨hP, hD⟩ := q_set4 hz7 hP hD
    have hP : va_P D vcl (mW h0 q cB cI_ cZ I (va_up (va_up (va_up (va_up F 4 g4) 5 h5) 42 g42) 43 h43)) H := hP
    have hD : va_D A (mW h0 q cB cI_ cZ I (va_up (va_up (va_up (va_up F 4 g4) 5 h5) 42 g42) 43 h43)) := hD
    refine lv_aload_n hx hb dX10_merge_126 rfl (lv_at hl 1 rfl) ?_
    refine lv_iload_n hx hb dX10_merge_127 rfl (lv_at hl 0 rfl) ?_
    refine va_put (D := D) (ci := 11) (v := .int (nI n)) (ty := .int) (C := RX10) (T := TX10) (N := 48) hx hb hts inX10 tyX10 tyX10_ok nmX10 hown hK hP hD hS 0 rfl rfl 3 (by decide) (hts _ k_1147) (fun _ h9 => h9) rfl (by decide +kernel) rfl rfl (Nat.le_of_ble_eq_true rfl) dX10_merge_128 (fun H locs hP hD hS => ?_)
    have hP : va_P D vcl (mW h0 q cB cI_ cZ (upd I 3 (nI n)) (va_up (va_up (va_up (va_up F 4 g4) 5 h5) 42 g42) 43 h43)) H := hP
    have hD : va_D A (mW h0 q cB cI_ cZ (upd I 3 (nI n)) (va_up (va_up (va_up (va_up F 4 g4) 5 h5) 42 g42) 43 h43)) := hD
    refine lv_aload_n hx hb dX10_merge_131 rfl (lv_at hl 1 rfl) ?_
    refine lv_iconst (v := 0) hx hb dX10_merge_132 (by decide) ?_
    refine va_put (D := D) (ci := 11) (v := .int 0) (ty := .boolean) (C := RX10) (T := TX10) (N := 48) hx hb hts inX10 tyX10 tyX10_ok nmX10 hown hK hP hD hS 0 rfl rfl 20 (by decide) (hts _ k_1164) (fun _ h9 => h9) rfl (by decide +kernel) rfl rfl (Nat.le_of_ble_eq_true rfl) dX10_merge_133 (fun H locs hP hD hS => ?_)
    have hP : va_P D vcl (mW h0 q cB cI_ cZ (upd (upd I 3 (nI n)) 20 0) (va_up (va_up (va_up (va_up F 4 g4) 5 h5) 42 g42) 43 h43)) H := hP
    have hD : va_D A (mW h0 q cB cI_ cZ (upd (upd I 3 (nI n)) 20 0) (va_up (va_up (va_up (va_up F 4 g4) 5 h5) 42 g42) 43 h43)) := hD
    refine lv_aload_n hx hb dX10_merge_136 rfl (lv_at hl 1 rfl) ?_
    refine q_cv (k := 0) (n := 0) hK hP hD hS hA (fun hPc hKc hDc => q_rV (As := []) (rest := []) hf (r_wholePieces _ D h0 q cB cI_ cZ (upd (upd I 3 (nI n)) 20 0) (va_up (va_up (va_up (va_up F 4 g4) 5 h5) 42 g42) 43 h43) n (fun i => sl (M.getD i 0)) (fun i => eRw (Es.getD (M.getD i 0) dE)) rfl (by omega) (fun i hi => ⟨(b3.2.1 i (by omega)).1, (hre.2.1 _ (hMin i (by omega))).2.1, (hre.2.1 _ (hMin i (by omega))).2.2.2.2.2.2.2.2.2.1⟩) _) k_1359 k_1356 k_1358 k_58 k_98 (nA := 0) (by decide +kernel) ⟨Nat.le_of_ble_eq_true rfl, Nat.le_of_ble_eq_true rfl⟩ hK hP (ci := 11) (q0 := 0) rfl rfl rfl hPc hKc hDc (fun _ _ _ _ h => h) (fun _ _ _ => trivial) rfl hl.1 rfl (Nat.le_of_ble_eq_true rfl) dX10_merge_137 ⟨Nat.le_of_ble_eq_true rfl, Nat.le_of_ble_eq_true rfl⟩) (by decide) (by decide) (fun u H locs hw hK hP hD hS => ?_)
    obtain ⟨g15, g16, g17, g18, b7, rfl⟩ := hw
    have hP : va_P D vcl (mW h0 q cB cI_ cZ (upd (upd (upd I 3 (nI n)) 14 (nI n)) 20 0) (va_up (va_up (va_up (va_up (va_up (va_up (va_up (va_up F 4 g4) 5 h5) 15 g15) 16 g16) 17 g17) 18 g18) 42 g42) 43 h43)) H := hP
    have hD : va_D A (mW h0 q cB cI_ cZ (upd (upd (upd I 3 (nI n)) 14 (nI n)) 20 0) (va_up (va_up (va_up (va_up (va_up (va_up (va_up (va_up F 4 g4) 5 h5) 15 g15) 16 g16) 17 g17) 18 g18) 42 g42) 43 h43)) := hD
    refine lv_aload_n hx hb dX10_merge_140 rfl (lv_at hl 1 rfl) ?_
    refine va_get (D := D) (ci := 11) (v := .int (nI n)) (C := RX10) (T := TX10) (N := 48) hx hb hts inX10 hown hK hP 0 rfl rfl 3 (by decide) (hts _ k_1147) (fun _ h9 => h9) rfl dX10_merge_141 ?_
    have hrm : reR (va_up (va_up (va_up (va_up (va_up (va_up (va_up (va_up F 4 g4) 5 h5) 15 g15) 16 g16) 17 g17) 18 g18) 42 g42) 43 h43) (M.map (fun e => Es.getD e dE)) (fun i => sl (M.getD i 0)) := reR_mg hre b1 hMin hM60 b3 ⟨rfl, rfl, rfl, rfl, rfl, rfl, rfl, rfl⟩
    have hle : (M.map (fun e => Es.getD e dE)).length = n := by rw [List.length_map]; exact b2.symm
    have hpu : pc_is (upP (M.map (fun e => Es.getD e dE)) n) ((va_up (va_up (va_up (va_up (va_up (va_up (va_up (va_up F 4 g4) 5 h5) 15 g15) 16 g16) 17 g17) 18 g18) 42 g42) 43 h43) 15) ((va_up (va_up (va_up (va_up (va_up (va_up (va_up (va_up F 4 g4) 5 h5) 15 g15) 16 g16) 17 g17) 18 g18) 42 g42) 43 h43) 16) ((va_up (va_up (va_up (va_up (va_up (va_up (va_up (va_up F 4 g4) 5 h5) 15 g15) 16 g16) 17 g17) 18 g18) 42 g42) 43 h43) 17) ((va_up (va_up (va_up (va_up (va_up (va_up (va_up (va_up F 4 g4) 5 h5) 15 g15) 16 g16) 17 g17) 18 g18) 42 g42) 43 h43) 18) := by
      have h9 := pc_up (Es := M.map (fun e => Es.getD e dE)) (f1 := g15) (f2 := g16) (f3 := g17) (f4 := g18) (fun i hi => by rw [hle] at hi; rw [gm_d (by omega)]; exact b7 i hi)
      rw [hle] at h9
      exact h9
    rw [b1] at b2 hrm hpu
    exact q_zi hf hr rfl hlocks hK hP hD hS (Nat.le_of_ble_eq_true rfl) (Nat.le_of_ble_eq_true rfl) (Or.inr ⟨by omega, congrArg nI b2, (upd (upd (upd I 3 (nI n)) 14 (nI n)) 20 0), (va_up (va_up (va_up (va_up (va_up (va_up (va_up (va_up F 4 g4) 5 h5) 15 g15) 16 g16) 17 g17) 18 g18) 42 g42) 43 h43), rfl, ⟨rfl, rfl, rfl⟩, by rw [← b2]; exact ⟨rfl, rfl, rfl⟩, hrm, by rw [← b2]; exact hpu, rfl⟩) dX10_merge_144
  · have c_1 := q_eqn (a := lk) (b := 0) (by omega) (by omega) c_1
    refine lv_bipush (v := (-3)) hx hb dX10_merge_7 (by decide) ?_
    exact q_zi hf hr rfl hlocks hK hP hD hS (Nat.le_of_ble_eq_true rfl) (Nat.le_of_ble_eq_true rfl) (Or.inl ⟨by omega, rfl, rfl⟩) dX10_merge_9
