/-- the rows of a page that takes n + 1 rows from (p, i) on -/
noncomputable def bk_tt (K : Nat → Int32) (Fm To Rr : Nat → Nat) (p0 en : Nat) : Nat → Nat → Nat → Nat → Nat
  | 0, p, i, rows => rows + pb (p0 < p ∧ i = 0 ∧ rp_he (K p) (Fm p)) + 1 + pb (rp_rb (K p) (Fm p) (To p) (Rr p) p (i + 1) en)
  | n + 1, p, i, rows => bk_tt K Fm To Rr p0 en n (if i + 1 = To p - Fm p then p + 1 else p) (if i + 1 = To p - Fm p then 0 else i + 1) (rows + pb (p0 < p ∧ i = 0 ∧ rp_he (K p) (Fm p)) + 1)
theorem bk_try_c {b : Option Q4} {co p2 i2 tt : Nat} {y : Q4} (h : bk_try b co p2 i2 tt = some y) : b = some y ∨ y = (co, p2, i2, tt) := by
  cases b with
  | none => exact Or.inr (Option.some.inj h).symm
  | some x =>
    by_cases hc : co ≤ x.1
    · rw [bk_try_p hc] at h; exact Or.inr (Option.some.inj h).symm
    · rw [bk_try_g hc] at h; exact Or.inl h
theorem bk_new_c {C : Nat → Option Q4} {to_ sen mo kc p2 i2 tt : Nat} {b : Option Q4} {y : Q4} (h : bk_new C to_ sen mo kc b p2 i2 tt = some y) : b = some y ∨ (y.2.1 = p2 ∧ y.2.2.1 = i2 ∧ y.2.2.2 = tt) := by
  by_cases he : to_ = sen
  · rw [bk_new_l he] at h
    rcases bk_try_c h with h1 | h1
    · exact Or.inl h1
    · rw [h1]; exact Or.inr ⟨rfl, rfl, rfl⟩
  · cases hc : C to_ with
    | none => rw [bk_new_n he hc] at h; exact Or.inl h
    | some x =>
      rw [bk_new_s he hc rfl] at h
      rcases bk_try_c h with h1 | h1
      · exact Or.inl h1
      · rw [h1]; exact Or.inr ⟨rfl, rfl, rfl⟩
/-- the end that was found tells the rows of the page up to it -/
theorem bk_lay_tt {C : Nat → Option Q4} {K : Nat → Int32} {Fm To Rr : Nat → Nat} {p0 r0 en mo : Nat} (hz : ∀ p, p < en → 0 < To p - Fm p) : ∀ f p i rows b y, (p < en → i < To p - Fm p) → bk_lay C K Fm To Rr p0 r0 en mo f p i rows b = some y → b = some y ∨ ∃ n, rs_S Fm To y.2.1 + y.2.2.1 = rs_S Fm To p + i + n + 1 ∧ y.2.2.2 = bk_tt K Fm To Rr p0 en n p i rows := by
  intro f
  induction f with
  | zero => intro p i rows b y _ h; exact Or.inl h
  | succ f ih =>
    intro p i rows b y hi h
    by_cases hc : p < en ∧ rows + pb (p0 < p ∧ i = 0 ∧ rp_he (K p) (Fm p)) + 1 ≤ mo
    · have hi1 := hi hc.1
      rw [← bk_in (mb := pb (rp_me (K p) (To p - Fm p) p0 r0 p (i + 1) en)) hc.1 hc.2 rfl rfl (fun _ => rfl) rfl rfl rfl] at h
      have hS := rs_S_1 (Fm := Fm) (To := To) hi1
      have h2 := ih _ _ _ _ y (fun h9 => by
        by_cases hZ : i + 1 = To p - Fm p
        · rw [if_pos hZ] at h9 ⊢; rw [if_pos hZ]; exact hz _ h9
        · rw [if_neg hZ, if_neg hZ]; omega) h
      rcases h2 with h2 | ⟨n, h2, h3⟩
      · have h4 : b = some y ∨ (y.2.1 = (if i + 1 = To p - Fm p then p + 1 else p) ∧ y.2.2.1 = (if i + 1 = To p - Fm p then 0 else i + 1) ∧ y.2.2.2 = rows + pb (p0 < p ∧ i = 0 ∧ rp_he (K p) (Fm p)) + 1 + pb (rp_rb (K p) (Fm p) (To p) (Rr p) p (i + 1) en)) := by
          by_cases hq : rows + pb (p0 < p ∧ i = 0 ∧ rp_he (K p) (Fm p)) + 1 + pb (rp_rb (K p) (Fm p) (To p) (Rr p) p (i + 1) en) ≤ mo ∧ ¬ pb (rp_me (K p) (To p - Fm p) p0 r0 p (i + 1) en) = 0
          · rw [if_pos hq] at h2; exact bk_new_c h2
          · rw [if_neg hq] at h2; exact Or.inl h2
        rcases h4 with h4 | ⟨h4, h5, h6⟩
        · exact Or.inl h4
        · refine Or.inr ⟨0, ?_, h6⟩
          rw [h4, h5, hS]; omega
      · refine Or.inr ⟨n + 1, ?_, h3⟩
        rw [h2, hS]; omega
    · have h3 : bk_lay C K Fm To Rr p0 r0 en mo (f + 1) p i rows b = b := pif_n hc
      rw [h3] at h
      exact Or.inl h
abbrev cX0_beginsWithinSpeech : ByteArray := prog_2_method_12_code
def yX0_beginsWithinSpeech : MethodName := ⟨RX0, "beginsWithinSpeech", "()Z"⟩
abbrev cX0_endRow : ByteArray := prog_2_method_11_code
def yX0_endRow : MethodName := ⟨RX0, "endRow", "()I"⟩
abbrev cX0_endsWithinSpeech : ByteArray := prog_2_method_13_code
def yX0_endsWithinSpeech : MethodName := ⟨RX0, "endsWithinSpeech", "()Z"⟩
abbrev cX0_firstPiece : ByteArray := prog_2_method_8_code
def yX0_firstPiece : MethodName := ⟨RX0, "firstPiece", "()I"⟩
abbrev cX0_firstRow : ByteArray := prog_2_method_9_code
def yX0_firstRow : MethodName := ⟨RX0, "firstRow", "()I"⟩
abbrev cX0_forget : ByteArray := prog_2_method_2_code
def yX0_forget : MethodName := ⟨RX0, "forget", "()V"⟩
abbrev cX0_lastPiece : ByteArray := prog_2_method_10_code
def yX0_lastPiece : MethodName := ⟨RX0, "lastPiece", "()I"⟩
abbrev cX0_leastCost : ByteArray := prog_2_method_5_code
def yX0_leastCost : MethodName := ⟨RX0, "leastCost", "()I"⟩
abbrev cX0_pageCount : ByteArray := prog_2_method_4_code
def yX0_pageCount : MethodName := ⟨RX0, "pageCount", "()I"⟩
theorem k_31 : (Cond.selects RX0 yX0_pieceWithPlace yX0_pieceWithPlace) ∈ gT := gT_i 31 (by decide +kernel) rfl
theorem k_281 : (Cond.fieldLink RX0 104 "ScriptDesk$Piece" "element" "LScriptDesk$Element;") ∈ gT := gT_i 281 (by decide +kernel) rfl
theorem k_883 : (Cond.methodLink RX0 77 yX0_firstPiece) ∈ gT := gT_i 883 (by decide +kernel) rfl
theorem k_884 : (Cond.instanceMethod yX0_firstPiece) ∈ gT := gT_i 884 (by decide +kernel) rfl
theorem k_885 : (Cond.selects RX0 yX0_firstPiece yX0_firstPiece) ∈ gT := gT_i 885 (by decide +kernel) rfl
theorem k_886 : (Cond.code yX0_firstPiece cX0_firstPiece 1 (some .int)) ∈ gT := gT_i 886 (by decide +kernel) rfl
theorem k_887 : (Cond.methodLink RX0 95 yX0_pieceWithPlace) ∈ gT := gT_i 887 (by decide +kernel) rfl
theorem k_889 : (Cond.instanceMethod yX0_pieceWithPlace) ∈ gT := gT_i 889 (by decide +kernel) rfl
theorem k_890 : (Cond.code yX0_pieceWithPlace cX0_pieceWithPlace 3 (some .int)) ∈ gT := gT_i 890 (by decide +kernel) rfl
theorem k_891 : (Cond.methodLink RX0 81 yX0_firstRow) ∈ gT := gT_i 891 (by decide +kernel) rfl
theorem k_892 : (Cond.instanceMethod yX0_firstRow) ∈ gT := gT_i 892 (by decide +kernel) rfl
theorem k_893 : (Cond.selects RX0 yX0_firstRow yX0_firstRow) ∈ gT := gT_i 893 (by decide +kernel) rfl
theorem k_894 : (Cond.code yX0_firstRow cX0_firstRow 1 (some .int)) ∈ gT := gT_i 894 (by decide +kernel) rfl
theorem k_898 : (Cond.instanceMethod yX0_lastPiece) ∈ gT := gT_i 898 (by decide +kernel) rfl
theorem k_899 : (Cond.selects RX0 yX0_lastPiece yX0_lastPiece) ∈ gT := gT_i 899 (by decide +kernel) rfl
theorem k_900 : (Cond.code yX0_lastPiece cX0_lastPiece 1 (some .int)) ∈ gT := gT_i 900 (by decide +kernel) rfl
theorem k_902 : (Cond.instanceMethod yX0_endRow) ∈ gT := gT_i 902 (by decide +kernel) rfl
theorem k_903 : (Cond.selects RX0 yX0_endRow yX0_endRow) ∈ gT := gT_i 903 (by decide +kernel) rfl
theorem k_904 : (Cond.code yX0_endRow cX0_endRow 1 (some .int)) ∈ gT := gT_i 904 (by decide +kernel) rfl
theorem k_905 : (Cond.methodLink RX0 101 yX0_lastPiece) ∈ gT := gT_i 905 (by decide +kernel) rfl
theorem k_910 : (Cond.methodLink RX0 108 yX1_isWithinSpeech) ∈ gT := gT_i 910 (by decide +kernel) rfl
theorem k_915 : (Cond.methodLink RX0 114 yX0_endRow) ∈ gT := gT_i 915 (by decide +kernel) rfl
theorem dX0_firstPiece_0 : decode cX0_firstPiece 0 = .ok (.aload_n 0, 1) := by decide +kernel
theorem dX0_firstPiece_1 : decode cX0_firstPiece 1 = .ok (.aload_n 0, 1) := by decide +kernel
theorem dX0_firstPiece_2 : decode cX0_firstPiece 2 = .ok (.getfield 67, 3) := by decide +kernel
theorem dX0_firstPiece_5 : decode cX0_firstPiece 5 = .ok (.invokevirtual 95, 3) := by decide +kernel
theorem dX0_firstPiece_8 : decode cX0_firstPiece 8 = .ok (.ireturn, 1) := by decide +kernel
theorem dX0_lastPiece_0 : decode cX0_lastPiece 0 = .ok (.aload_n 0, 1) := by decide +kernel
theorem dX0_lastPiece_1 : decode cX0_lastPiece 1 = .ok (.aload_n 0, 1) := by decide +kernel
theorem dX0_lastPiece_2 : decode cX0_lastPiece 2 = .ok (.getfield 74, 3) := by decide +kernel
theorem dX0_lastPiece_5 : decode cX0_lastPiece 5 = .ok (.iconst 1, 1) := by decide +kernel
theorem dX0_lastPiece_6 : decode cX0_lastPiece 6 = .ok (.isub, 1) := by decide +kernel
theorem dX0_lastPiece_7 : decode cX0_lastPiece 7 = .ok (.invokevirtual 95, 3) := by decide +kernel
theorem dX0_lastPiece_10 : decode cX0_lastPiece 10 = .ok (.ireturn, 1) := by decide +kernel
theorem dX0_firstRow_0 : decode cX0_firstRow 0 = .ok (.aload_n 0, 1) := by decide +kernel
theorem dX0_firstRow_1 : decode cX0_firstRow 1 = .ok (.getfield 67, 3) := by decide +kernel
theorem dX0_firstRow_4 : decode cX0_firstRow 4 = .ok (.aload_n 0, 1) := by decide +kernel
theorem dX0_firstRow_5 : decode cX0_firstRow 5 = .ok (.aload_n 0, 1) := by decide +kernel
theorem dX0_firstRow_6 : decode cX0_firstRow 6 = .ok (.invokevirtual 77, 3) := by decide +kernel
theorem dX0_firstRow_9 : decode cX0_firstRow 9 = .ok (.invokevirtual 98, 3) := by decide +kernel
theorem dX0_firstRow_12 : decode cX0_firstRow 12 = .ok (.isub, 1) := by decide +kernel
theorem dX0_firstRow_13 : decode cX0_firstRow 13 = .ok (.ireturn, 1) := by decide +kernel
theorem dX0_endRow_0 : decode cX0_endRow 0 = .ok (.aload_n 0, 1) := by decide +kernel
theorem dX0_endRow_1 : decode cX0_endRow 1 = .ok (.getfield 74, 3) := by decide +kernel
theorem dX0_endRow_4 : decode cX0_endRow 4 = .ok (.aload_n 0, 1) := by decide +kernel
theorem dX0_endRow_5 : decode cX0_endRow 5 = .ok (.aload_n 0, 1) := by decide +kernel
theorem dX0_endRow_6 : decode cX0_endRow 6 = .ok (.invokevirtual 101, 3) := by decide +kernel
theorem dX0_endRow_9 : decode cX0_endRow 9 = .ok (.invokevirtual 98, 3) := by decide +kernel
theorem dX0_endRow_12 : decode cX0_endRow 12 = .ok (.isub, 1) := by decide +kernel
theorem dX0_endRow_13 : decode cX0_endRow 13 = .ok (.ireturn, 1) := by decide +kernel
theorem dX0_beginsWithinSpeech_0 : decode cX0_beginsWithinSpeech 0 = .ok (.aload_n 0, 1) := by decide +kernel
theorem dX0_beginsWithinSpeech_1 : decode cX0_beginsWithinSpeech 1 = .ok (.getfield 21, 3) := by decide +kernel
theorem dX0_beginsWithinSpeech_4 : decode cX0_beginsWithinSpeech 4 = .ok (.aload_n 0, 1) := by decide +kernel
theorem dX0_beginsWithinSpeech_5 : decode cX0_beginsWithinSpeech 5 = .ok (.invokevirtual 77, 3) := by decide +kernel
theorem dX0_beginsWithinSpeech_8 : decode cX0_beginsWithinSpeech 8 = .ok (.invokevirtual 46, 3) := by decide +kernel
theorem dX0_beginsWithinSpeech_11 : decode cX0_beginsWithinSpeech 11 = .ok (.getfield 104, 3) := by decide +kernel
theorem dX0_beginsWithinSpeech_14 : decode cX0_beginsWithinSpeech 14 = .ok (.aload_n 0, 1) := by decide +kernel
theorem dX0_beginsWithinSpeech_15 : decode cX0_beginsWithinSpeech 15 = .ok (.invokevirtual 81, 3) := by decide +kernel
theorem dX0_beginsWithinSpeech_18 : decode cX0_beginsWithinSpeech 18 = .ok (.invokevirtual 108, 3) := by decide +kernel
theorem dX0_beginsWithinSpeech_21 : decode cX0_beginsWithinSpeech 21 = .ok (.ireturn, 1) := by decide +kernel
theorem dX0_endsWithinSpeech_0 : decode cX0_endsWithinSpeech 0 = .ok (.aload_n 0, 1) := by decide +kernel
theorem dX0_endsWithinSpeech_1 : decode cX0_endsWithinSpeech 1 = .ok (.getfield 21, 3) := by decide +kernel
theorem dX0_endsWithinSpeech_4 : decode cX0_endsWithinSpeech 4 = .ok (.aload_n 0, 1) := by decide +kernel
theorem dX0_endsWithinSpeech_5 : decode cX0_endsWithinSpeech 5 = .ok (.invokevirtual 101, 3) := by decide +kernel
theorem dX0_endsWithinSpeech_8 : decode cX0_endsWithinSpeech 8 = .ok (.invokevirtual 46, 3) := by decide +kernel
theorem dX0_endsWithinSpeech_11 : decode cX0_endsWithinSpeech 11 = .ok (.getfield 104, 3) := by decide +kernel
theorem dX0_endsWithinSpeech_14 : decode cX0_endsWithinSpeech 14 = .ok (.aload_n 0, 1) := by decide +kernel
theorem dX0_endsWithinSpeech_15 : decode cX0_endsWithinSpeech 15 = .ok (.invokevirtual 114, 3) := by decide +kernel
theorem dX0_endsWithinSpeech_18 : decode cX0_endsWithinSpeech 18 = .ok (.invokevirtual 108, 3) := by decide +kernel
theorem dX0_endsWithinSpeech_21 : decode cX0_endsWithinSpeech 21 = .ok (.ireturn, 1) := by decide +kernel
theorem dX0_pageCount_0 : decode cX0_pageCount 0 = .ok (.aload_n 0, 1) := by decide +kernel
theorem dX0_pageCount_1 : decode cX0_pageCount 1 = .ok (.getfield 64, 3) := by decide +kernel
theorem dX0_pageCount_4 : decode cX0_pageCount 4 = .ok (.ireturn, 1) := by decide +kernel
theorem dX0_leastCost_0 : decode cX0_leastCost 0 = .ok (.aload_n 0, 1) := by decide +kernel
theorem dX0_leastCost_1 : decode cX0_leastCost 1 = .ok (.getfield 64, 3) := by decide +kernel
theorem dX0_leastCost_4 : decode cX0_leastCost 4 = .ok (.ifCond .ne 7, 3) := by decide +kernel
theorem dX0_leastCost_7 : decode cX0_leastCost 7 = .ok (.iconst (-1), 1) := by decide +kernel
theorem dX0_leastCost_8 : decode cX0_leastCost 8 = .ok (.goto 9, 3) := by decide +kernel
theorem dX0_leastCost_17 : decode cX0_leastCost 17 = .ok (.ireturn, 1) := by decide +kernel
theorem dX0_leastCost_11 : decode cX0_leastCost 11 = .ok (.aload_n 0, 1) := by decide +kernel
theorem dX0_leastCost_12 : decode cX0_leastCost 12 = .ok (.getfield 15, 3) := by decide +kernel
theorem dX0_leastCost_15 : decode cX0_leastCost 15 = .ok (.iconst 0, 1) := by decide +kernel
theorem dX0_leastCost_16 : decode cX0_leastCost 16 = .ok (.iaload, 1) := by decide +kernel
theorem dX0_forget_0 : decode cX0_forget 0 = .ok (.aload_n 0, 1) := by decide +kernel
theorem dX0_forget_1 : decode cX0_forget 1 = .ok (.iconst 0, 1) := by decide +kernel
theorem dX0_forget_2 : decode cX0_forget 2 = .ok (.putfield 29, 3) := by decide +kernel
theorem dX0_forget_5 : decode cX0_forget 5 = .ok (.return_, 1) := by decide +kernel
set_option maxHeartbeats 1000000 in
set_option maxRecDepth 100000 in
theorem bk_fp (l : Launch) (D : va_G) (z : Nat → Nat) (cB cI_ cO : ClassId) (L0 : List Nat) (g0 : hG) (pr : Nat) (pa : List Nat) (P : List Q4) (bk lf bop cf nx : Nat) (y7 y8 : Int32) (fb : Nat → Int32) (pq rr pe re : Nat) (h_bk : ho L0 g0 bk 21 (.inr (1, [.ref pr, .ref lf, .ref bop, .int (nI (pa.length)), .int (nI ((qS P pa.length))), .ref cf, .ref nx, .int y7, .int y8, .int (nI ((qS P pq + rr))), .int (nI ((qS P pe + re + 1)))]))) (h_bop : ho L0 g0 bop 22 (.inl (cI_, 61, .inl fb))) (hpa60 : pa.length ≤ 60) (hFb : ∀ i, i ≤ pa.length → fb i = nI (qS P i)) (hSb : ∀ i, i ≤ pa.length → qS P i ≤ 8000) (hpn : pq < pa.length) (hrr : rr < (P.getD pq d4).2.2.1 - (P.getD pq d4).2.1) (hpen : pe < pa.length) (hre : re < (P.getD pe d4).2.2.1 - (P.getD pe d4).2.1) : eIs l D yX0_firstPiece cX0_firstPiece 1 (some .int) 2 52 0 0 [.ref bk] z cB cI_ cO L0 g0 (fun r => r = nI pq) := by
  refine o_si (by decide) (Nat.le_of_ble_eq_true rfl) ?_
  intro p e s m below meth c A ls hf hr hlocks hin hK hP hD hS hA hZ hN hl
  obtain ⟨hx, hb, hml, hown, hts⟩ := id hf
  have hl : lv_has ls 1 [(0, .ref bk)] := hl
  have hSp := hSb (pq + 1) (by omega)
  have hSe := hSb (pe + 1) (by omega)
  have hqs := qS_s P pq
  have hqe := qS_s P pe
  refine lv_aload_n hx hb dX0_firstPiece_0 rfl (lv_at hl 0 rfl) ?_
  refine lv_aload_n hx hb dX0_firstPiece_1 rfl (lv_at hl 0 rfl) ?_
  refine o_get (D := D) (ci := 1) (v := .int (nI ((qS P pq + rr)))) (C := RX0) (T := TX0) (N := 11) hx hb hts inX0 hown hK hP h_bk rfl 9 (by decide) (hts _ k_357) (fun _ h9 => h9) rfl dX0_firstPiece_2 ?_
  refine o_cis (k := 0) (n := 0) hK hP hD hS hA (o_rV (As := [.int (nI ((qS P pq + rr)))]) (rest := []) hf (bk_with _ _ _ _ _ _ _ _ pr pa P bk lf bop cf nx y7 y8 (nI ((qS P pq + rr))) (nI ((qS P pe + re + 1))) fb pq ((qS P pq + rr)) h_bk h_bop hpa60 hFb hSb (by omega) (by omega) (by omega) _) k_890 k_887 k_889 k_31 k_95 (nA := 1) (by decide +kernel) ⟨Nat.le_of_ble_eq_true rfl, Nat.le_of_ble_eq_true rfl⟩ hK hP hD hS hA hZ hN h_bk rfl rfl rfl hl.1 rfl (Nat.le_of_ble_eq_true rfl) dX0_firstPiece_5 ⟨(show 0 + 0 ≤ 0 by omega), (show 0 + 0 ≤ 0 by omega)⟩) (Nat.le_refl _) (Nat.le_refl _) (fun r H locs hw hP hD hS => ?_)
  obtain rfl := hw
  exact o_ri hf hr rfl hlocks hK hP hD hS (show 0 ≤ 0 by omega) (show 0 ≤ 0 by omega) ⟨rfl, rfl, rfl⟩ dX0_firstPiece_8
set_option maxHeartbeats 1000000 in
set_option maxRecDepth 100000 in
theorem bk_lp (l : Launch) (D : va_G) (z : Nat → Nat) (cB cI_ cO : ClassId) (L0 : List Nat) (g0 : hG) (pr : Nat) (pa : List Nat) (P : List Q4) (bk lf bop cf nx : Nat) (y7 y8 : Int32) (fb : Nat → Int32) (pq rr pe re : Nat) (h_bk : ho L0 g0 bk 21 (.inr (1, [.ref pr, .ref lf, .ref bop, .int (nI (pa.length)), .int (nI ((qS P pa.length))), .ref cf, .ref nx, .int y7, .int y8, .int (nI ((qS P pq + rr))), .int (nI ((qS P pe + re + 1)))]))) (h_bop : ho L0 g0 bop 22 (.inl (cI_, 61, .inl fb))) (hpa60 : pa.length ≤ 60) (hFb : ∀ i, i ≤ pa.length → fb i = nI (qS P i)) (hSb : ∀ i, i ≤ pa.length → qS P i ≤ 8000) (hpn : pq < pa.length) (hrr : rr < (P.getD pq d4).2.2.1 - (P.getD pq d4).2.1) (hpen : pe < pa.length) (hre : re < (P.getD pe d4).2.2.1 - (P.getD pe d4).2.1) : eIs l D yX0_lastPiece cX0_lastPiece 1 (some .int) 2 52 0 0 [.ref bk] z cB cI_ cO L0 g0 (fun r => r = nI pe) := by
  refine o_si (by decide) (Nat.le_of_ble_eq_true rfl) ?_
  intro p e s m below meth c A ls hf hr hlocks hin hK hP hD hS hA hZ hN hl
  obtain ⟨hx, hb, hml, hown, hts⟩ := id hf
  have hl : lv_has ls 1 [(0, .ref bk)] := hl
  have hSp := hSb (pq + 1) (by omega)
  have hSe := hSb (pe + 1) (by omega)
  have hqs := qS_s P pq
  have hqe := qS_s P pe
  refine lv_aload_n hx hb dX0_lastPiece_0 rfl (lv_at hl 0 rfl) ?_
  refine lv_aload_n hx hb dX0_lastPiece_1 rfl (lv_at hl 0 rfl) ?_
  refine o_get (D := D) (ci := 1) (v := .int (nI ((qS P pe + re + 1)))) (C := RX0) (T := TX0) (N := 11) hx hb hts inX0 hown hK hP h_bk rfl 10 (by decide) (hts _ k_358) (fun _ h9 => h9) rfl dX0_lastPiece_2 ?_
  refine lv_iconst (v := 1) hx hb dX0_lastPiece_5 (by decide) ?_
  refine lv_isub hx hb dX0_lastPiece_6 ?_
  refine q_seti (y := nI (qS P pe + re)) (nI_subE (a := (qS P pe + re + 1)) (b := 1) (by omega) (by omega)) ?_
  refine o_cis (k := 0) (n := 0) hK hP hD hS hA (o_rV (As := [.int (nI (qS P pe + re))]) (rest := []) hf (bk_with _ _ _ _ _ _ _ _ pr pa P bk lf bop cf nx y7 y8 (nI ((qS P pq + rr))) (nI ((qS P pe + re + 1))) fb pe (qS P pe + re) h_bk h_bop hpa60 hFb hSb (by omega) (by omega) (by omega) _) k_890 k_887 k_889 k_31 k_95 (nA := 1) (by decide +kernel) ⟨Nat.le_of_ble_eq_true rfl, Nat.le_of_ble_eq_true rfl⟩ hK hP hD hS hA hZ hN h_bk rfl rfl rfl hl.1 rfl (Nat.le_of_ble_eq_true rfl) dX0_lastPiece_7 ⟨(show 0 + 0 ≤ 0 by omega), (show 0 + 0 ≤ 0 by omega)⟩) (Nat.le_refl _) (Nat.le_refl _) (fun r H locs hw hP hD hS => ?_)
  obtain rfl := hw
  exact o_ri hf hr rfl hlocks hK hP hD hS (show 0 ≤ 0 by omega) (show 0 ≤ 0 by omega) ⟨rfl, rfl, rfl⟩ dX0_lastPiece_10
set_option maxHeartbeats 1000000 in
set_option maxRecDepth 100000 in
theorem bk_fr (l : Launch) (D : va_G) (z : Nat → Nat) (cB cI_ cO : ClassId) (L0 : List Nat) (g0 : hG) (pr : Nat) (pa : List Nat) (P : List Q4) (bk lf bop cf nx : Nat) (y7 y8 : Int32) (fb : Nat → Int32) (pq rr pe re : Nat) (h_bk : ho L0 g0 bk 21 (.inr (1, [.ref pr, .ref lf, .ref bop, .int (nI (pa.length)), .int (nI ((qS P pa.length))), .ref cf, .ref nx, .int y7, .int y8, .int (nI ((qS P pq + rr))), .int (nI ((qS P pe + re + 1)))]))) (h_bop : ho L0 g0 bop 22 (.inl (cI_, 61, .inl fb))) (hpa60 : pa.length ≤ 60) (hFb : ∀ i, i ≤ pa.length → fb i = nI (qS P i)) (hSb : ∀ i, i ≤ pa.length → qS P i ≤ 8000) (hpn : pq < pa.length) (hrr : rr < (P.getD pq d4).2.2.1 - (P.getD pq d4).2.1) (hpen : pe < pa.length) (hre : re < (P.getD pe d4).2.2.1 - (P.getD pe d4).2.1) : eIs l D yX0_firstRow cX0_firstRow 1 (some .int) 3 72 0 0 [.ref bk] z cB cI_ cO L0 g0 (fun r => r = nI rr) := by
  refine o_si (by decide) (Nat.le_of_ble_eq_true rfl) ?_
  intro p e s m below meth c A ls hf hr hlocks hin hK hP hD hS hA hZ hN hl
  obtain ⟨hx, hb, hml, hown, hts⟩ := id hf
  have hl : lv_has ls 1 [(0, .ref bk)] := hl
  have hSp := hSb (pq + 1) (by omega)
  have hSe := hSb (pe + 1) (by omega)
  have hqs := qS_s P pq
  have hqe := qS_s P pe
  refine lv_aload_n hx hb dX0_firstRow_0 rfl (lv_at hl 0 rfl) ?_
  refine o_get (D := D) (ci := 1) (v := .int (nI ((qS P pq + rr)))) (C := RX0) (T := TX0) (N := 11) hx hb hts inX0 hown hK hP h_bk rfl 9 (by decide) (hts _ k_357) (fun _ h9 => h9) rfl dX0_firstRow_1 ?_
  refine lv_aload_n hx hb dX0_firstRow_4 rfl (lv_at hl 0 rfl) ?_
  refine lv_aload_n hx hb dX0_firstRow_5 rfl (lv_at hl 0 rfl) ?_
  refine o_cis (k := 0) (n := 0) hK hP hD hS hA (o_rV (As := []) (rest := [.ref bk, .int (nI ((qS P pq + rr)))]) hf (bk_fp _ _ _ _ _ _ _ _ pr pa P bk lf bop cf nx y7 y8 fb pq rr pe re h_bk h_bop hpa60 hFb hSb (by omega) (by omega) (by omega) (by omega) _) k_886 k_883 k_884 k_885 k_95 (nA := 0) (by decide +kernel) ⟨Nat.le_of_ble_eq_true rfl, Nat.le_of_ble_eq_true rfl⟩ hK hP hD hS hA hZ hN h_bk rfl rfl rfl hl.1 rfl (Nat.le_of_ble_eq_true rfl) dX0_firstRow_6 ⟨(show 0 + 0 ≤ 0 by omega), (show 0 + 0 ≤ 0 by omega)⟩) (Nat.le_refl _) (Nat.le_refl _) (fun r H locs hw hP hD hS => ?_)
  obtain rfl := hw
  refine o_cis (k := 0) (n := 0) hK hP hD hS hA (o_rV (As := [.int (nI pq)]) (rest := [.int (nI ((qS P pq + rr)))]) hf (bk_beg _ _ _ _ _ _ _ _ pr P bk lf bop cf nx (pa.length) ((qS P pa.length)) y7 y8 (nI ((qS P pq + rr))) (nI ((qS P pe + re + 1))) fb pq h_bk h_bop (by omega) hFb (by omega) _) k_787 k_784 k_786 k_27 k_95 (nA := 1) (by decide +kernel) ⟨Nat.le_of_ble_eq_true rfl, Nat.le_of_ble_eq_true rfl⟩ hK hP hD hS hA hZ hN h_bk rfl rfl rfl hl.1 rfl (Nat.le_of_ble_eq_true rfl) dX0_firstRow_9 ⟨(show 0 + 0 ≤ 0 by omega), (show 0 + 0 ≤ 0 by omega)⟩) (Nat.le_refl _) (Nat.le_refl _) (fun r H locs hw hP hD hS => ?_)
  obtain rfl := hw
  refine lv_isub hx hb dX0_firstRow_12 ?_
  refine q_seti (y := nI (rr)) (nI_subE (a := (qS P pq + rr)) (b := (qS P pq)) (by omega) (by omega)) ?_
  exact o_ri hf hr rfl hlocks hK hP hD hS (show 0 ≤ 0 by omega) (show 0 ≤ 0 by omega) ⟨congrArg nI (show rr = rr by omega), rfl, rfl⟩ dX0_firstRow_13
set_option maxHeartbeats 1000000 in
set_option maxRecDepth 100000 in
theorem bk_er (l : Launch) (D : va_G) (z : Nat → Nat) (cB cI_ cO : ClassId) (L0 : List Nat) (g0 : hG) (pr : Nat) (pa : List Nat) (P : List Q4) (bk lf bop cf nx : Nat) (y7 y8 : Int32) (fb : Nat → Int32) (pq rr pe re : Nat) (h_bk : ho L0 g0 bk 21 (.inr (1, [.ref pr, .ref lf, .ref bop, .int (nI (pa.length)), .int (nI ((qS P pa.length))), .ref cf, .ref nx, .int y7, .int y8, .int (nI ((qS P pq + rr))), .int (nI ((qS P pe + re + 1)))]))) (h_bop : ho L0 g0 bop 22 (.inl (cI_, 61, .inl fb))) (hpa60 : pa.length ≤ 60) (hFb : ∀ i, i ≤ pa.length → fb i = nI (qS P i)) (hSb : ∀ i, i ≤ pa.length → qS P i ≤ 8000) (hpn : pq < pa.length) (hrr : rr < (P.getD pq d4).2.2.1 - (P.getD pq d4).2.1) (hpen : pe < pa.length) (hre : re < (P.getD pe d4).2.2.1 - (P.getD pe d4).2.1) : eIs l D yX0_endRow cX0_endRow 1 (some .int) 3 72 0 0 [.ref bk] z cB cI_ cO L0 g0 (fun r => r = nI (re + 1)) := by
  refine o_si (by decide) (Nat.le_of_ble_eq_true rfl) ?_
  intro p e s m below meth c A ls hf hr hlocks hin hK hP hD hS hA hZ hN hl
  obtain ⟨hx, hb, hml, hown, hts⟩ := id hf
  have hl : lv_has ls 1 [(0, .ref bk)] := hl
  have hSp := hSb (pq + 1) (by omega)
  have hSe := hSb (pe + 1) (by omega)
  have hqs := qS_s P pq
  have hqe := qS_s P pe
  refine lv_aload_n hx hb dX0_endRow_0 rfl (lv_at hl 0 rfl) ?_
  refine o_get (D := D) (ci := 1) (v := .int (nI ((qS P pe + re + 1)))) (C := RX0) (T := TX0) (N := 11) hx hb hts inX0 hown hK hP h_bk rfl 10 (by decide) (hts _ k_358) (fun _ h9 => h9) rfl dX0_endRow_1 ?_
  refine lv_aload_n hx hb dX0_endRow_4 rfl (lv_at hl 0 rfl) ?_
  refine lv_aload_n hx hb dX0_endRow_5 rfl (lv_at hl 0 rfl) ?_
  refine o_cis (k := 0) (n := 0) hK hP hD hS hA (o_rV (As := []) (rest := [.ref bk, .int (nI ((qS P pe + re + 1)))]) hf (bk_lp _ _ _ _ _ _ _ _ pr pa P bk lf bop cf nx y7 y8 fb pq rr pe re h_bk h_bop hpa60 hFb hSb (by omega) (by omega) (by omega) (by omega) _) k_900 k_905 k_898 k_899 k_95 (nA := 0) (by decide +kernel) ⟨Nat.le_of_ble_eq_true rfl, Nat.le_of_ble_eq_true rfl⟩ hK hP hD hS hA hZ hN h_bk rfl rfl rfl hl.1 rfl (Nat.le_of_ble_eq_true rfl) dX0_endRow_6 ⟨(show 0 + 0 ≤ 0 by omega), (show 0 + 0 ≤ 0 by omega)⟩) (Nat.le_refl _) (Nat.le_refl _) (fun r H locs hw hP hD hS => ?_)
  obtain rfl := hw
  refine o_cis (k := 0) (n := 0) hK hP hD hS hA (o_rV (As := [.int (nI pe)]) (rest := [.int (nI ((qS P pe + re + 1)))]) hf (bk_beg _ _ _ _ _ _ _ _ pr P bk lf bop cf nx (pa.length) ((qS P pa.length)) y7 y8 (nI ((qS P pq + rr))) (nI ((qS P pe + re + 1))) fb pe h_bk h_bop (by omega) hFb (by omega) _) k_787 k_784 k_786 k_27 k_95 (nA := 1) (by decide +kernel) ⟨Nat.le_of_ble_eq_true rfl, Nat.le_of_ble_eq_true rfl⟩ hK hP hD hS hA hZ hN h_bk rfl rfl rfl hl.1 rfl (Nat.le_of_ble_eq_true rfl) dX0_endRow_9 ⟨(show 0 + 0 ≤ 0 by omega), (show 0 + 0 ≤ 0 by omega)⟩) (Nat.le_refl _) (Nat.le_refl _) (fun r H locs hw hP hD hS => ?_)
  obtain rfl := hw
  refine lv_isub hx hb dX0_endRow_12 ?_
  refine q_seti (y := nI (re + 1)) (nI_subE (a := (qS P pe + re + 1)) (b := (qS P pe)) (by omega) (by omega)) ?_
  exact o_ri hf hr rfl hlocks hK hP hD hS (show 0 ≤ 0 by omega) (show 0 ≤ 0 by omega) ⟨congrArg nI (show re + 1 = re + 1 by omega), rfl, rfl⟩ dX0_endRow_13
set_option maxHeartbeats 1000000 in
set_option maxRecDepth 100000 in
theorem bk_bws (l : Launch) (D : va_G) (z : Nat → Nat) (cB cI_ cO : ClassId) (L0 : List Nat) (g0 : hG) (pr pcs spr nwh cp : Nat) (pa : List Nat) (ea : Nat → Nat) (P : List Q4) (ne : Nat) (EE : Nat → E5) (bk lf bop cf nx : Nat) (y7 y8 : Int32) (fb : Nat → Int32) (pq rr pe re : Nat) (h_pr : ho L0 g0 pr 13 (.inr (7, [.ref pcs, .ref spr, .ref nwh]))) (h_pcs : alR cO (z 0) 14 15 L0 g0 pcs cp pa) (h_pc : pcR L0 g0 ea pa P) (h_es : esR cB cI_ L0 g0 ea ne EE) (h_bk : ho L0 g0 bk 21 (.inr (1, [.ref pr, .ref lf, .ref bop, .int (nI (pa.length)), .int (nI ((qS P pa.length))), .ref cf, .ref nx, .int y7, .int y8, .int (nI ((qS P pq + rr))), .int (nI ((qS P pe + re + 1)))]))) (h_bop : ho L0 g0 bop 22 (.inl (cI_, 61, .inl fb))) (hpa : pa.length ≤ 20000) (hQ : pq_ok ne EE P) (hpa60 : pa.length ≤ 60) (hFb : ∀ i, i ≤ pa.length → fb i = nI (qS P i)) (hSb : ∀ i, i ≤ pa.length → qS P i ≤ 8000) (hpn : pq < pa.length) (hrr : rr < (P.getD pq d4).2.2.1 - (P.getD pq d4).2.1) (hpen : pe < pa.length) (hre : re < (P.getD pe d4).2.2.1 - (P.getD pe d4).2.1) : eIs l D yX0_beginsWithinSpeech cX0_beginsWithinSpeech 1 (some .boolean) 4 92 0 0 [.ref bk] z cB cI_ cO L0 g0 (fun r => (((EE (P.getD pq d4).1).1 = 4 ∧ 0 < rr ∧ rr < eRw (EE (P.getD pq d4).1)) ∧ r = 1 ∨ ¬ ((EE (P.getD pq d4).1).1 = 4 ∧ 0 < rr ∧ rr < eRw (EE (P.getD pq d4).1)) ∧ r = 0)) := by
  refine o_si (by decide) (Nat.le_of_ble_eq_true rfl) ?_
  intro p e s m below meth c A ls hf hr hlocks hin hK hP hD hS hA hZ hN hl
  obtain ⟨hx, hb, hml, hown, hts⟩ := id hf
  have hl : lv_has ls 1 [(0, .ref bk)] := hl
  have hSp := hSb (pq + 1) (by omega)
  have hSe := hSb (pe + 1) (by omega)
  have hqs := qS_s P pq
  have hqe := qS_s P pe
  have hpl_ := h_pc.1
  refine lv_aload_n hx hb dX0_beginsWithinSpeech_0 rfl (lv_at hl 0 rfl) ?_
  refine o_get (D := D) (ci := 1) (v := .ref pr) (C := RX0) (T := TX0) (N := 11) hx hb hts inX0 hown hK hP h_bk rfl 0 (by decide) (hts _ k_348) (fun _ h9 => h9) rfl dX0_beginsWithinSpeech_1 ?_
  refine lv_aload_n hx hb dX0_beginsWithinSpeech_4 rfl (lv_at hl 0 rfl) ?_
  refine o_cis (k := 0) (n := 0) hK hP hD hS hA (o_rV (As := []) (rest := [.ref pr]) hf (bk_fp _ _ _ _ _ _ _ _ pr pa P bk lf bop cf nx y7 y8 fb pq rr pe re h_bk h_bop hpa60 hFb hSb (by omega) (by omega) (by omega) (by omega) _) k_886 k_883 k_884 k_885 k_95 (nA := 0) (by decide +kernel) ⟨Nat.le_of_ble_eq_true rfl, Nat.le_of_ble_eq_true rfl⟩ hK hP hD hS hA hZ hN h_bk rfl rfl rfl hl.1 rfl (Nat.le_of_ble_eq_true rfl) dX0_beginsWithinSpeech_5 ⟨(show 0 + 0 ≤ 0 by omega), (show 0 + 0 ≤ 0 by omega)⟩) (Nat.le_refl _) (Nat.le_refl _) (fun r H locs hw hP hD hS => ?_)
  obtain rfl := hw
  refine o_crs (k := 0) (n := 0) hK hP hD hS hA (o_rV (As := [.int (nI pq)]) (rest := []) hf (p_atI _ _ _ _ _ _ _ _ pr pcs spr nwh cp pa ea P pq h_pr h_pcs h_pc hpa (by omega) _) k_775 k_772 k_773 k_774 k_92 (nA := 1) (by decide +kernel) ⟨Nat.le_of_ble_eq_true rfl, Nat.le_of_ble_eq_true rfl⟩ hK hP hD hS hA hZ hN h_pr rfl rfl rfl hl.1 rfl (Nat.le_of_ble_eq_true rfl) dX0_beginsWithinSpeech_8 ⟨(show 0 + 0 ≤ 0 by omega), (show 0 + 0 ≤ 0 by omega)⟩) (Nat.le_refl _) (Nat.le_refl _) (fun r H locs hw hP hD hS => ?_)
  obtain rfl := hw
  have h_p1 := h_pc.2 pq (by omega)
  have hpl_ := h_pc.1
  have hq_p1 := hQ pq (by omega)
  have hr_p1 := h_es.rb hq_p1.1
  refine o_get (D := D) (ci := 6) (v := .ref (ea (P.getD pq d4).1)) (C := RX5) (T := TX5) (N := 4) hx hb hts inX5 hown hK hP h_p1 rfl 0 (by decide) (hts _ k_281) (fun _ h9 => h9) rfl dX0_beginsWithinSpeech_11 ?_
  obtain ⟨tx1, rf1, rt1, h_e1⟩ := h_es.ob hq_p1.1
  refine lv_aload_n hx hb dX0_beginsWithinSpeech_14 rfl (lv_at hl 0 rfl) ?_
  refine o_cis (k := 0) (n := 0) hK hP hD hS hA (o_rV (As := []) (rest := [.ref (ea (P.getD pq d4).1)]) hf (bk_fr _ _ _ _ _ _ _ _ pr pa P bk lf bop cf nx y7 y8 fb pq rr pe re h_bk h_bop hpa60 hFb hSb (by omega) (by omega) (by omega) (by omega) _) k_894 k_891 k_892 k_893 k_95 (nA := 0) (by decide +kernel) ⟨Nat.le_of_ble_eq_true rfl, Nat.le_of_ble_eq_true rfl⟩ hK hP hD hS hA hZ hN h_bk rfl rfl rfl hl.1 rfl (Nat.le_of_ble_eq_true rfl) dX0_beginsWithinSpeech_15 ⟨(show 0 + 0 ≤ 0 by omega), (show 0 + 0 ≤ 0 by omega)⟩) (Nat.le_refl _) (Nat.le_refl _) (fun r H locs hw hP hD hS => ?_)
  obtain rfl := hw
  refine o_cis (k := 0) (n := 0) hK hP hD hS hA (o_rV (As := [.int (nI rr)]) (rest := []) hf (l_wSp _ _ _ _ _ _ _ _ (ea (P.getD pq d4).1) ((EE (P.getD pq d4).1).1) ((EE (P.getD pq d4).1).2.1) ((EE (P.getD pq d4).1).2.2.1) tx1 ((EE (P.getD pq d4).1).2.2.2.2.length) ((EE (P.getD pq d4).1).2.2.2.1) rf1 rt1 ((eRw (EE (P.getD pq d4).1))) rr h_e1 (by omega) (by omega) _) k_796 k_910 k_794 k_795 k_90 (nA := 1) (by decide +kernel) ⟨Nat.le_of_ble_eq_true rfl, Nat.le_of_ble_eq_true rfl⟩ hK hP hD hS hA hZ hN h_e1 rfl rfl rfl hl.1 rfl (Nat.le_of_ble_eq_true rfl) dX0_beginsWithinSpeech_18 ⟨(show 0 + 0 ≤ 0 by omega), (show 0 + 0 ≤ 0 by omega)⟩) (Nat.le_refl _) (Nat.le_refl _) (fun r H locs hw hP hD hS => ?_)
  rcases hw with ⟨c_2, rfl⟩ | ⟨c_2, rfl⟩
  · have hP := hP
    exact o_ri hf hr rfl hlocks hK hP hD hS (show 0 ≤ 0 by omega) (show 0 ≤ 0 by omega) ⟨Or.inl ⟨c_2, rfl⟩, rfl, rfl⟩ dX0_beginsWithinSpeech_21
  · have hP := hP
    exact o_ri hf hr rfl hlocks hK hP hD hS (show 0 ≤ 0 by omega) (show 0 ≤ 0 by omega) ⟨Or.inr ⟨c_2, rfl⟩, rfl, rfl⟩ dX0_beginsWithinSpeech_21
set_option maxHeartbeats 1000000 in
set_option maxRecDepth 100000 in
theorem bk_ews (l : Launch) (D : va_G) (z : Nat → Nat) (cB cI_ cO : ClassId) (L0 : List Nat) (g0 : hG) (pr pcs spr nwh cp : Nat) (pa : List Nat) (ea : Nat → Nat) (P : List Q4) (ne : Nat) (EE : Nat → E5) (bk lf bop cf nx : Nat) (y7 y8 : Int32) (fb : Nat → Int32) (pq rr pe re : Nat) (h_pr : ho L0 g0 pr 13 (.inr (7, [.ref pcs, .ref spr, .ref nwh]))) (h_pcs : alR cO (z 0) 14 15 L0 g0 pcs cp pa) (h_pc : pcR L0 g0 ea pa P) (h_es : esR cB cI_ L0 g0 ea ne EE) (h_bk : ho L0 g0 bk 21 (.inr (1, [.ref pr, .ref lf, .ref bop, .int (nI (pa.length)), .int (nI ((qS P pa.length))), .ref cf, .ref nx, .int y7, .int y8, .int (nI ((qS P pq + rr))), .int (nI ((qS P pe + re + 1)))]))) (h_bop : ho L0 g0 bop 22 (.inl (cI_, 61, .inl fb))) (hpa : pa.length ≤ 20000) (hQ : pq_ok ne EE P) (hpa60 : pa.length ≤ 60) (hFb : ∀ i, i ≤ pa.length → fb i = nI (qS P i)) (hSb : ∀ i, i ≤ pa.length → qS P i ≤ 8000) (hpn : pq < pa.length) (hrr : rr < (P.getD pq d4).2.2.1 - (P.getD pq d4).2.1) (hpen : pe < pa.length) (hre : re < (P.getD pe d4).2.2.1 - (P.getD pe d4).2.1) : eIs l D yX0_endsWithinSpeech cX0_endsWithinSpeech 1 (some .boolean) 4 92 0 0 [.ref bk] z cB cI_ cO L0 g0 (fun r => (((EE (P.getD pe d4).1).1 = 4 ∧ 0 < (re + 1) ∧ (re + 1) < eRw (EE (P.getD pe d4).1)) ∧ r = 1 ∨ ¬ ((EE (P.getD pe d4).1).1 = 4 ∧ 0 < (re + 1) ∧ (re + 1) < eRw (EE (P.getD pe d4).1)) ∧ r = 0)) := by
  refine o_si (by decide) (Nat.le_of_ble_eq_true rfl) ?_
  intro p e s m below meth c A ls hf hr hlocks hin hK hP hD hS hA hZ hN hl
  obtain ⟨hx, hb, hml, hown, hts⟩ := id hf
  have hl : lv_has ls 1 [(0, .ref bk)] := hl
  have hSp := hSb (pq + 1) (by omega)
  have hSe := hSb (pe + 1) (by omega)
  have hqs := qS_s P pq
  have hqe := qS_s P pe
  have hpl_ := h_pc.1
  refine lv_aload_n hx hb dX0_endsWithinSpeech_0 rfl (lv_at hl 0 rfl) ?_
  refine o_get (D := D) (ci := 1) (v := .ref pr) (C := RX0) (T := TX0) (N := 11) hx hb hts inX0 hown hK hP h_bk rfl 0 (by decide) (hts _ k_348) (fun _ h9 => h9) rfl dX0_endsWithinSpeech_1 ?_
  refine lv_aload_n hx hb dX0_endsWithinSpeech_4 rfl (lv_at hl 0 rfl) ?_
  refine o_cis (k := 0) (n := 0) hK hP hD hS hA (o_rV (As := []) (rest := [.ref pr]) hf (bk_lp _ _ _ _ _ _ _ _ pr pa P bk lf bop cf nx y7 y8 fb pq rr pe re h_bk h_bop hpa60 hFb hSb (by omega) (by omega) (by omega) (by omega) _) k_900 k_905 k_898 k_899 k_95 (nA := 0) (by decide +kernel) ⟨Nat.le_of_ble_eq_true rfl, Nat.le_of_ble_eq_true rfl⟩ hK hP hD hS hA hZ hN h_bk rfl rfl rfl hl.1 rfl (Nat.le_of_ble_eq_true rfl) dX0_endsWithinSpeech_5 ⟨(show 0 + 0 ≤ 0 by omega), (show 0 + 0 ≤ 0 by omega)⟩) (Nat.le_refl _) (Nat.le_refl _) (fun r H locs hw hP hD hS => ?_)
  obtain rfl := hw
  refine o_crs (k := 0) (n := 0) hK hP hD hS hA (o_rV (As := [.int (nI pe)]) (rest := []) hf (p_atI _ _ _ _ _ _ _ _ pr pcs spr nwh cp pa ea P pe h_pr h_pcs h_pc hpa (by omega) _) k_775 k_772 k_773 k_774 k_92 (nA := 1) (by decide +kernel) ⟨Nat.le_of_ble_eq_true rfl, Nat.le_of_ble_eq_true rfl⟩ hK hP hD hS hA hZ hN h_pr rfl rfl rfl hl.1 rfl (Nat.le_of_ble_eq_true rfl) dX0_endsWithinSpeech_8 ⟨(show 0 + 0 ≤ 0 by omega), (show 0 + 0 ≤ 0 by omega)⟩) (Nat.le_refl _) (Nat.le_refl _) (fun r H locs hw hP hD hS => ?_)
  obtain rfl := hw
  have h_p1 := h_pc.2 pe (by omega)
  have hpl_ := h_pc.1
  have hq_p1 := hQ pe (by omega)
  have hr_p1 := h_es.rb hq_p1.1
  refine o_get (D := D) (ci := 6) (v := .ref (ea (P.getD pe d4).1)) (C := RX5) (T := TX5) (N := 4) hx hb hts inX5 hown hK hP h_p1 rfl 0 (by decide) (hts _ k_281) (fun _ h9 => h9) rfl dX0_endsWithinSpeech_11 ?_
  obtain ⟨tx1, rf1, rt1, h_e1⟩ := h_es.ob hq_p1.1
  refine lv_aload_n hx hb dX0_endsWithinSpeech_14 rfl (lv_at hl 0 rfl) ?_
  refine o_cis (k := 0) (n := 0) hK hP hD hS hA (o_rV (As := []) (rest := [.ref (ea (P.getD pe d4).1)]) hf (bk_er _ _ _ _ _ _ _ _ pr pa P bk lf bop cf nx y7 y8 fb pq rr pe re h_bk h_bop hpa60 hFb hSb (by omega) (by omega) (by omega) (by omega) _) k_904 k_915 k_902 k_903 k_95 (nA := 0) (by decide +kernel) ⟨Nat.le_of_ble_eq_true rfl, Nat.le_of_ble_eq_true rfl⟩ hK hP hD hS hA hZ hN h_bk rfl rfl rfl hl.1 rfl (Nat.le_of_ble_eq_true rfl) dX0_endsWithinSpeech_15 ⟨(show 0 + 0 ≤ 0 by omega), (show 0 + 0 ≤ 0 by omega)⟩) (Nat.le_refl _) (Nat.le_refl _) (fun r H locs hw hP hD hS => ?_)
  obtain rfl := hw
  refine o_cis (k := 0) (n := 0) hK hP hD hS hA (o_rV (As := [.int (nI (re + 1))]) (rest := []) hf (l_wSp _ _ _ _ _ _ _ _ (ea (P.getD pe d4).1) ((EE (P.getD pe d4).1).1) ((EE (P.getD pe d4).1).2.1) ((EE (P.getD pe d4).1).2.2.1) tx1 ((EE (P.getD pe d4).1).2.2.2.2.length) ((EE (P.getD pe d4).1).2.2.2.1) rf1 rt1 ((eRw (EE (P.getD pe d4).1))) (re + 1) h_e1 (by omega) (by omega) _) k_796 k_910 k_794 k_795 k_90 (nA := 1) (by decide +kernel) ⟨Nat.le_of_ble_eq_true rfl, Nat.le_of_ble_eq_true rfl⟩ hK hP hD hS hA hZ hN h_e1 rfl rfl rfl hl.1 rfl (Nat.le_of_ble_eq_true rfl) dX0_endsWithinSpeech_18 ⟨(show 0 + 0 ≤ 0 by omega), (show 0 + 0 ≤ 0 by omega)⟩) (Nat.le_refl _) (Nat.le_refl _) (fun r H locs hw hP hD hS => ?_)
  rcases hw with ⟨c_2, rfl⟩ | ⟨c_2, rfl⟩
  · have hP := hP
    exact o_ri hf hr rfl hlocks hK hP hD hS (show 0 ≤ 0 by omega) (show 0 ≤ 0 by omega) ⟨Or.inl ⟨c_2, rfl⟩, rfl, rfl⟩ dX0_endsWithinSpeech_21
  · have hP := hP
    exact o_ri hf hr rfl hlocks hK hP hD hS (show 0 ≤ 0 by omega) (show 0 ≤ 0 by omega) ⟨Or.inr ⟨c_2, rfl⟩, rfl, rfl⟩ dX0_endsWithinSpeech_21
set_option maxHeartbeats 1000000 in
set_option maxRecDepth 100000 in
theorem bk_pc (l : Launch) (D : va_G) (z : Nat → Nat) (cB cI_ cO : ClassId) (L0 : List Nat) (g0 : hG) (pr bk lf bop cf nx bn bs : Nat) (y7 y9 y10 : Int32) (cn : Nat) (h_bk : ho L0 g0 bk 21 (.inr (1, [.ref pr, .ref lf, .ref bop, .int (nI bn), .int (nI bs), .ref cf, .ref nx, .int y7, .int (nI cn), .int y9, .int y10])))  : eIs l D yX0_pageCount cX0_pageCount 1 (some .int) 0 0 0 0 [.ref bk] z cB cI_ cO L0 g0 (fun r => r = nI cn) := by
  refine o_si (by decide) (Nat.le_of_ble_eq_true rfl) ?_
  intro p e s m below meth c A ls hf hr hlocks hin hK hP hD hS hA hZ hN hl
  obtain ⟨hx, hb, hml, hown, hts⟩ := id hf
  have hl : lv_has ls 1 [(0, .ref bk)] := hl
  refine lv_aload_n hx hb dX0_pageCount_0 rfl (lv_at hl 0 rfl) ?_
  refine o_get (D := D) (ci := 1) (v := .int (nI cn)) (C := RX0) (T := TX0) (N := 11) hx hb hts inX0 hown hK hP h_bk rfl 8 (by decide) (hts _ k_356) (fun _ h9 => h9) rfl dX0_pageCount_1 ?_
  exact o_ri hf hr rfl hlocks hK hP hD hS (show 0 ≤ 0 by omega) (show 0 ≤ 0 by omega) ⟨rfl, rfl, rfl⟩ dX0_pageCount_4
set_option maxHeartbeats 1000000 in
set_option maxRecDepth 100000 in
theorem bk_lc0 (l : Launch) (D : va_G) (z : Nat → Nat) (cB cI_ cO : ClassId) (L0 : List Nat) (g0 : hG) (pr bk lf bop cf nx bn bs : Nat) (y7 y9 y10 : Int32) (h_bk : ho L0 g0 bk 21 (.inr (1, [.ref pr, .ref lf, .ref bop, .int (nI bn), .int (nI bs), .ref cf, .ref nx, .int y7, .int 0, .int y9, .int y10])))  : eIs l D yX0_leastCost cX0_leastCost 1 (some .int) 0 0 0 0 [.ref bk] z cB cI_ cO L0 g0 (fun r => r = -1) := by
  refine o_si (by decide) (Nat.le_of_ble_eq_true rfl) ?_
  intro p e s m below meth c A ls hf hr hlocks hin hK hP hD hS hA hZ hN hl
  obtain ⟨hx, hb, hml, hown, hts⟩ := id hf
  have hl : lv_has ls 1 [(0, .ref bk)] := hl
  refine lv_aload_n hx hb dX0_leastCost_0 rfl (lv_at hl 0 rfl) ?_
  refine o_get (D := D) (ci := 1) (v := .int 0) (C := RX0) (T := TX0) (N := 11) hx hb hts inX0 hown hK hP h_bk rfl 8 (by decide) (hts _ k_356) (fun _ h9 => h9) rfl dX0_leastCost_1 ?_
  refine lv_if_ne (tgt := 11) hx hb dX0_leastCost_4 (by decide) (fun hno => absurd hno (by decide)) (fun _ => ?_)
  refine lv_iconst (v := (-1)) hx hb dX0_leastCost_7 (by decide) ?_
  refine lv_goto (tgt := 17) hx hb dX0_leastCost_8 (by decide) ?_
  exact o_ri hf hr rfl hlocks hK hP hD hS (show 0 ≤ 0 by omega) (show 0 ≤ 0 by omega) ⟨rfl, rfl, rfl⟩ dX0_leastCost_17
set_option maxHeartbeats 1000000 in
set_option maxRecDepth 100000 in
theorem bk_lc1 (l : Launch) (D : va_G) (z : Nat → Nat) (cB cI_ cO : ClassId) (L0 : List Nat) (g0 : hG) (pr bk lf bop cf nx bn bs : Nat) (y7 y9 y10 : Int32) (cn M : Nat) (fc : Nat → Int32) (h_bk : ho L0 g0 bk 21 (.inr (1, [.ref pr, .ref lf, .ref bop, .int (nI bn), .int (nI bs), .ref cf, .ref nx, .int y7, .int (nI cn), .int y9, .int y10]))) (h_cf : ho L0 g0 cf 23 (.inl (cI_, M, .inl fc))) (hcn : 0 < cn) (hcn2 : cn ≤ 8000) (hM : 0 < M) (hM2 : M ≤ 60000) : eIs l D yX0_leastCost cX0_leastCost 1 (some .int) 0 0 0 0 [.ref bk] z cB cI_ cO L0 g0 (fun r => r = fc 0) := by
  refine o_si (by decide) (Nat.le_of_ble_eq_true rfl) ?_
  intro p e s m below meth c A ls hf hr hlocks hin hK hP hD hS hA hZ hN hl
  obtain ⟨hx, hb, hml, hown, hts⟩ := id hf
  have hl : lv_has ls 1 [(0, .ref bk)] := hl
  refine lv_aload_n hx hb dX0_leastCost_0 rfl (lv_at hl 0 rfl) ?_
  refine o_get (D := D) (ci := 1) (v := .int (nI cn)) (C := RX0) (T := TX0) (N := 11) hx hb hts inX0 hown hK hP h_bk rfl 8 (by decide) (hts _ k_356) (fun _ h9 => h9) rfl dX0_leastCost_1 ?_
  refine lv_if_ne (tgt := 11) hx hb dX0_leastCost_4 (by decide) (fun c_1 => ?_) (fun c_1 => ?_)
  · have c_1 := q_nen (a := cn) (b := 0) (by omega) (by omega) c_1
    refine lv_aload_n hx hb dX0_leastCost_11 rfl (lv_at hl 0 rfl) ?_
    refine o_get (D := D) (ci := 1) (v := .ref cf) (C := RX0) (T := TX0) (N := 11) hx hb hts inX0 hown hK hP h_bk rfl 5 (by decide) (hts _ k_353) (fun _ h9 => h9) rfl dX0_leastCost_12 ?_
    refine lv_iconst (v := 0) hx hb dX0_leastCost_15 (by decide) ?_
    refine o_ild (X := 0) hx hb hK hP h_cf (by omega) (by omega) dX0_leastCost_16 ?_
    exact o_ri hf hr rfl hlocks hK hP hD hS (show 0 ≤ 0 by omega) (show 0 ≤ 0 by omega) ⟨rfl, rfl, rfl⟩ dX0_leastCost_17
  · have c_1 := q_eqn (a := cn) (b := 0) (by omega) (by omega) c_1
    exact False.elim (by omega)
set_option maxHeartbeats 1000000 in
set_option maxRecDepth 100000 in
theorem bk_forget (l : Launch) (D : va_G) (z : Nat → Nat) (cB cI_ cO : ClassId) (L0 : List Nat) (g0 : hG) (pr bk lf bop cf nx bn bs : Nat) (y7 y8 y9 y10 : Int32) (h_bk : ho L0 g0 bk 21 (.inr (1, [.ref pr, .ref lf, .ref bop, .int (nI bn), .int (nI bs), .ref cf, .ref nx, .int y7, .int y8, .int y9, .int y10])))  : eV l D yX0_forget cX0_forget 1 none 0 0 0 0 [.ref bk] z cB cI_ cO L0 g0 (fun L g => fr [21] L0 g0 L g ∧ ho L g bk 21 (.inr (1, [.ref pr, .ref lf, .ref bop, .int (nI bn), .int (nI bs), .ref cf, .ref nx, .int 0, .int y8, .int y9, .int y10]))) := by
  refine o_sv (by decide) (Nat.le_of_ble_eq_true rfl) ?_
  intro p e s m below meth c A ls hf hr hlocks hin hK hP hD hS hA hZ hN hl
  obtain ⟨hx, hb, hml, hown, hts⟩ := id hf
  have hl : lv_has ls 1 [(0, .ref bk)] := hl
  have hfr : fr [21] L0 g0 L0 g0 := fr.rf
  refine lv_aload_n hx hb dX0_forget_0 rfl (lv_at hl 0 rfl) ?_
  refine lv_iconst (v := 0) hx hb dX0_forget_1 (by decide) ?_
  refine o_put (D := D) (ci := 1) (v := .int 0) (ty := .boolean) (C := RX0) (T := TX0) (N := 11) (fs1 := [.ref pr, .ref lf, .ref bop, .int (nI bn), .int (nI bs), .ref cf, .ref nx, .int 0, .int y8, .int y9, .int y10]) hx hb hts inX0 tyX0 tyX0_ok nmX0 hown hK hP hD hS h_bk rfl 7 (by decide) (hts _ k_355) (fun _ h9 => h9) rfl (by decide +kernel) rfl rfl (Nat.le_of_ble_eq_true rfl) rfl dX0_forget_2 (fun g H locs h_bk hu hP hD hS => ?_)
  have hfr := hfr.up hu (by decide)
  exact o_rv hf hr hlocks hK hP hD hS (show 0 ≤ 0 by omega) (show 0 ≤ 0 by omega) ⟨hfr, h_bk⟩ dX0_forget_5
