theorem q_max0 {b : Nat} (hb : b < 2 ^ 31) : (if (0 : Int32) < nI b then nI b else 0) = nI b := by
  by_cases c : 0 < b
  · exact if_pos (show (0 : Int32) < nI b from nI_lt (a := 0) c hb)
  · rw [show b = 0 by omega]; rfl
theorem ck_eow {g : Nat → Int32} : ∀ k i, tx_eow g 0 k i = ck_end g k i := by
  intro k
  induction k with
  | zero => intro i; rfl
  | succ k ih =>
    intro i
    unfold tx_eow ck_end
    rw [Nat.zero_add, ih]
theorem ck_end_more {g : Nat → Int32} : ∀ k d i, i + k ≤ ck_end g (k + d) i → ck_end g (k + d) i = ck_end g d (i + k) := by
  intro k
  induction k with
  | zero => intro d i _; rw [Nat.zero_add]; rfl
  | succ k ih =>
    intro d i h
    rw [show k + 1 + d = (k + d) + 1 by omega] at h ⊢
    by_cases c : g i = 32
    · rw [show ck_end g (k + d + 1) i = i from if_pos c] at h; omega
    · rw [show ck_end g (k + d + 1) i = ck_end g (k + d) (i + 1) from if_neg c] at h ⊢
      have := ih d (i + 1) (by omega)
      rw [this, show i + 1 + k = i + (k + 1) by omega]
theorem ck_end_cut {g : Nat → Int32} : ∀ k d i, ck_end g (k + d) i ≤ i + k → ck_end g k i = ck_end g (k + d) i := by
  intro k
  induction k with
  | zero =>
    intro d i h
    have := (ck_end_le g (0 + d) i).1
    show i = _
    omega
  | succ k ih =>
    intro d i h
    rw [show k + 1 + d = (k + d) + 1 by omega] at h ⊢
    unfold ck_end at h ⊢
    by_cases c : g i = 32
    · rw [if_pos c, if_pos c]
    · rw [if_neg c] at h
      rw [if_neg c, if_neg c]
      exact ih d (i + 1) (by omega)
theorem ck_end_no {g : Nat → Int32} : ∀ k d i, i + k ≤ ck_end g (k + d) i → ck_end g k i = i + k := by
  intro k
  induction k with
  | zero => intro d i _; rfl
  | succ k ih =>
    intro d i h
    rw [show k + 1 + d = (k + d) + 1 by omega] at h
    unfold ck_end at h ⊢
    by_cases c : g i = 32
    · rw [if_pos c] at h; omega
    · rw [if_neg c] at h ⊢
      rw [ih d (i + 1) (by omega)]
      omega
/-- the chunk's end by the word's end -/
theorem ck_e_of {g : Nat → Int32} {n wd k e : Nat} (hk : k < n) (hw : 1 ≤ wd) (he : e = ck_end g (n - k) k) : ck_e g n wd k = if wd < e - k then k + wd else e := by
  have hb := ck_end_le g (n - k) k
  have hl := ck_lim_b hk hw
  rw [← he] at hb
  unfold ck_e
  by_cases c : wd < e - k
  · rw [if_pos c]
    have hlm : ck_lim n wd k = k + wd := if_pos (by omega)
    rw [hlm, show k + wd - k = wd by omega]
    refine ck_end_no wd (n - k - wd) k ?_
    rw [show wd + (n - k - wd) = n - k by omega, ← he]
    omega
  · rw [if_neg c]
    have := ck_end_cut (g := g) (ck_lim n wd k - k) (n - ck_lim n wd k) k (by
      rw [show ck_lim n wd k - k + (n - ck_lim n wd k) = n - k by omega, ← he]
      have : ck_lim n wd k = k + wd ∨ ck_lim n wd k = n := by
        unfold ck_lim
        by_cases c4 : k + wd < n
        · rw [if_pos c4]; exact Or.inl rfl
        · rw [if_neg c4]; exact Or.inr rfl
      omega)
    rw [this, show ck_lim n wd k - k + (n - ck_lim n wd k) = n - k by omega, ← he]
theorem tx_lg_f {wd : Nat} (hw : 1 ≤ wd) : ∀ f1 f2 k e Rv, e - k ≤ f1 → e - k ≤ f2 → tx_lg wd f1 k e Rv = tx_lg wd f2 k e Rv := by
  intro f1
  induction f1 with
  | zero => intro f2 k e Rv h1 _; rw [tx_lg_out (by omega), tx_lg_out (by omega)]
  | succ f1 ih =>
    intro f2 k e Rv h1 h2
    by_cases c : wd < e - k
    · cases f2 with
      | zero => omega
      | succ f2 =>
        unfold tx_lg
        rw [if_pos c, if_pos c]
        exact ih f2 (k + wd) e _ (by omega) (by omega)
    · rw [tx_lg_out c, tx_lg_out c]
/-- a long word: a row's width of it goes first -/
theorem tx_lay_long {wd : Nat} {g : Nat → Int32} {n f k e : Nat} {Rv : List (Nat × Nat)} (hk : k < n) (hw : 1 ≤ wd) (he : e = ck_end g (n - k) k) (hl : wd < e - k) : tx_lay wd g 0 n (f + 1) k Rv = tx_lay wd g 0 n (f + 1) (k + wd) (tx_pt wd Rv k wd) := by
  have hb := ck_end_le g (n - k) k
  rw [← he] at hb
  have he2 : e = ck_end g (n - (k + wd)) (k + wd) := by
    have := ck_end_more (g := g) wd (n - k - wd) k (by rw [show wd + (n - k - wd) = n - k by omega, ← he]; omega)
    rw [show wd + (n - k - wd) = n - k by omega, ← he] at this
    rw [this, show n - k - wd = n - (k + wd) by omega]
  rw [tx_lay_in (z := e) hk (by rw [ck_eow]; exact he) (Prod.eta _), tx_lay_in (z := e) (show k + wd < n by omega) (by rw [ck_eow]; exact he2) (Prod.eta _)]
  have e3 : tx_lg wd (e - k) k e Rv = tx_lg wd (e - (k + wd)) (k + wd) e (tx_pt wd Rv k wd) := by
    rw [tx_lg_f hw (e - k) ((e - k - 1) + 1) k e Rv (by omega) (by omega)]
    conv => lhs; unfold tx_lg
    rw [if_pos hl]
    exact tx_lg_f hw _ _ _ _ _ (by omega) (by omega)
  rw [e3]
theorem tx_lay_short {wd : Nat} {g : Nat → Int32} {n f k e : Nat} {Rv : List (Nat × Nat)} (hk : k < n) (he : e = ck_end g (n - k) k) (hl : ¬ wd < e - k) : tx_lay wd g 0 n (f + 1) k Rv = tx_lay wd g 0 n f (e + 1) (tx_pt wd Rv k (e - k)) := by
  rw [tx_lay_in (z := e) (k2 := k) (Rv2 := Rv) hk (by rw [ck_eow]; exact he) (tx_lg_out hl).symm]
/-- chunk by chunk or word by word: the same rows -/
theorem ck_lay_eq {wd : Nat} {g : Nat → Int32} {n : Nat} (hw : 20 ≤ wd) : ∀ m k f Rv, n - k ≤ m → n - k ≤ f → (k < n → tx_pre wd k Rv ∧ ck_J wd Rv k ∧ ck_nb g Rv k) → ck_lay wd g n m k Rv = tx_lay wd g 0 n f k Rv := by
  intro m
  induction m with
  | zero => intro k f Rv h1 _ _; rw [ck_lay_out (by omega), tx_lay_out (by omega)]
  | succ m ih =>
    intro k f Rv h1 h2 hi
    by_cases hk : k < n
    · obtain ⟨hp, hJ, hnb⟩ := hi hk
      have hs := ck_step (g := g) hk hw hJ hp (ck_h0 hk hw hJ hnb)
      have hb := ck_e_b g hk (show 1 ≤ wd by omega)
      have hxe : ∀ x t, Rv = x :: t → x.1 ≤ ck_e g n wd k := fun x t e => by have := (hp.1.2.1 x (by rw [e]; exact List.mem_cons_self)).1; omega
      have hinv : ck_nx g n (ck_e g n wd k) < n → tx_pre wd (ck_nx g n (ck_e g n wd k)) (ck_pr wd Rv k (ck_e g n wd k)) ∧ ck_J wd (ck_pr wd Rv k (ck_e g n wd k)) (ck_nx g n (ck_e g n wd k)) ∧ ck_nb g (ck_pr wd Rv k (ck_e g n wd k)) (ck_nx g n (ck_e g n wd k)) := fun q => ⟨(hs.2.2.2 q).1, (hs.2.2.2 q).2, ck_nb_s q (hs.2.2.2 q).2 (ck_pr_end hb.1 hxe)⟩
      rw [ck_lay_in hk]
      cases f with
      | zero => omega
      | succ f =>
        have he : ck_end g (n - k) k = ck_end g (n - k) k := rfl
        generalize ee : ck_end g (n - k) k = e at he
        have hce := ck_e_of (g := g) (wd := wd) hk (by omega) ee.symm
        have heb := ck_end_le g (n - k) k
        rw [ee] at heb
        by_cases c : wd < e - k
        · rw [if_pos c] at hce
          have hnx : ck_nx g n (ck_e g n wd k) = k + wd := by
            rw [hce]
            refine if_neg (fun z => ?_)
            exact ck_end_nb (n - k) k (k + wd) (by omega) (by rw [ee]; omega) z.2
          rw [ih _ (f + 1) _ (by rw [hnx]; omega) (by rw [hnx]; omega) hinv, hs.1, hnx, hce, tx_lay_long hk (by omega) ee.symm c, show k + wd - k = wd by omega]
        · rw [if_neg c] at hce
          rw [tx_lay_short hk ee.symm c]
          by_cases c2 : e < n
          · have hnx : ck_nx g n (ck_e g n wd k) = e + 1 := by
              rw [hce]
              refine if_pos ⟨c2, ?_⟩
              have := ck_end_bl (g := g) (n - k) k (by rw [ee]; omega)
              rw [ee] at this
              exact this
            rw [ih _ f _ (by rw [hnx]; omega) (by rw [hnx]; omega) hinv, hs.1, hnx, hce]
          · have hnx : ck_nx g n (ck_e g n wd k) = e := by rw [hce]; exact if_neg (fun z => c2 z.1)
            rw [hnx, ck_lay_out (by omega), tx_lay_out (by omega), hs.1, hce]
    · rw [ck_lay_out (by omega), tx_lay_out (by omega)]
theorem ck_rows {kd : Int32} {X : List Int32} {tf : Nat → Int32} {n : Nat} (h : tx_is X tf) (hn : n = X.length) : ck_lay (tx_w kd) tf n n 0 [] = tx_rows kd X := by
  rw [ck_lay_eq (tx_w_in kd).1 n 0 n [] (by omega) (by omega) (fun _ => ⟨tx_pre_0 _, fun x t e => (by cases e), fun x t e => (by cases e)⟩)]
  unfold tx_rows
  rw [hn]
  refine tx_lay_c (fun i hi => ?_) _ _ _
  rw [Nat.zero_add]
  exact h i hi
abbrev cX1_fillRows : ByteArray := prog_3_method_15_code
def yX1_fillRows : MethodName := ⟨RX1, "fillRows", "()V"⟩
theorem k_3 : (Cond.selects RX1 yX1_endOfChunk yX1_endOfChunk) ∈ gT := gT_i 3 (by decide +kernel) rfl
theorem k_5 : (Cond.selects RX1 yX1_putInRow yX1_putInRow) ∈ gT := gT_i 5 (by decide +kernel) rfl
theorem k_210 : (Cond.methodLink RX1 74 yX1_endOfChunk) ∈ gT := gT_i 210 (by decide +kernel) rfl
theorem k_212 : (Cond.instanceMethod yX1_endOfChunk) ∈ gT := gT_i 212 (by decide +kernel) rfl
theorem k_213 : (Cond.code yX1_endOfChunk cX1_endOfChunk 4 (some .int)) ∈ gT := gT_i 213 (by decide +kernel) rfl
theorem k_223 : (Cond.methodLink RX1 77 yX1_putInRow) ∈ gT := gT_i 223 (by decide +kernel) rfl
theorem k_225 : (Cond.instanceMethod yX1_putInRow) ∈ gT := gT_i 225 (by decide +kernel) rfl
theorem k_226 : (Cond.code yX1_putInRow cX1_putInRow 3 none) ∈ gT := gT_i 226 (by decide +kernel) rfl
theorem dX1_fillRows_4 : decode cX1_fillRows 4 = .ok (.iload_n 2, 1) := by decide +kernel
theorem dX1_fillRows_5 : decode cX1_fillRows 5 = .ok (.aload_n 0, 1) := by decide +kernel
theorem dX1_fillRows_6 : decode cX1_fillRows 6 = .ok (.getfield 32, 3) := by decide +kernel
theorem dX1_fillRows_9 : decode cX1_fillRows 9 = .ok (.if_icmp .ge 68, 3) := by decide +kernel
theorem dX1_fillRows_12 : decode cX1_fillRows 12 = .ok (.iload_n 1, 1) := by decide +kernel
theorem dX1_fillRows_13 : decode cX1_fillRows 13 = .ok (.aload_n 0, 1) := by decide +kernel
theorem dX1_fillRows_14 : decode cX1_fillRows 14 = .ok (.getfield 32, 3) := by decide +kernel
theorem dX1_fillRows_17 : decode cX1_fillRows 17 = .ok (.if_icmp .ge 60, 3) := by decide +kernel
theorem dX1_fillRows_20 : decode cX1_fillRows 20 = .ok (.aload_n 0, 1) := by decide +kernel
theorem dX1_fillRows_21 : decode cX1_fillRows 21 = .ok (.iload_n 1, 1) := by decide +kernel
theorem dX1_fillRows_22 : decode cX1_fillRows 22 = .ok (.invokevirtual 74, 3) := by decide +kernel
theorem dX1_fillRows_25 : decode cX1_fillRows 25 = .ok (.istore_n 3, 1) := by decide +kernel
theorem dX1_fillRows_26 : decode cX1_fillRows 26 = .ok (.aload_n 0, 1) := by decide +kernel
theorem dX1_fillRows_27 : decode cX1_fillRows 27 = .ok (.iload_n 1, 1) := by decide +kernel
theorem dX1_fillRows_28 : decode cX1_fillRows 28 = .ok (.iload_n 3, 1) := by decide +kernel
theorem dX1_fillRows_29 : decode cX1_fillRows 29 = .ok (.invokevirtual 77, 3) := by decide +kernel
theorem dX1_fillRows_32 : decode cX1_fillRows 32 = .ok (.iload_n 3, 1) := by decide +kernel
theorem dX1_fillRows_33 : decode cX1_fillRows 33 = .ok (.aload_n 0, 1) := by decide +kernel
theorem dX1_fillRows_34 : decode cX1_fillRows 34 = .ok (.getfield 32, 3) := by decide +kernel
theorem dX1_fillRows_37 : decode cX1_fillRows 37 = .ok (.if_icmp .ge 18, 3) := by decide +kernel
theorem dX1_fillRows_55 : decode cX1_fillRows 55 = .ok (.iconst 0, 1) := by decide +kernel
theorem dX1_fillRows_56 : decode cX1_fillRows 56 = .ok (.istore 4, 2) := by decide +kernel
theorem dX1_fillRows_58 : decode cX1_fillRows 58 = .ok (.iload 4, 2) := by decide +kernel
theorem dX1_fillRows_60 : decode cX1_fillRows 60 = .ok (.ifCond .eq 9, 3) := by decide +kernel
theorem dX1_fillRows_69 : decode cX1_fillRows 69 = .ok (.iload_n 3, 1) := by decide +kernel
theorem dX1_fillRows_70 : decode cX1_fillRows 70 = .ok (.istore_n 1, 1) := by decide +kernel
theorem dX1_fillRows_71 : decode cX1_fillRows 71 = .ok (.iinc 2 1, 3) := by decide +kernel
theorem dX1_fillRows_74 : decode cX1_fillRows 74 = .ok (.goto (-70), 3) := by decide +kernel
theorem dX1_fillRows_40 : decode cX1_fillRows 40 = .ok (.aload_n 0, 1) := by decide +kernel
theorem dX1_fillRows_41 : decode cX1_fillRows 41 = .ok (.getfield 24, 3) := by decide +kernel
theorem dX1_fillRows_44 : decode cX1_fillRows 44 = .ok (.iload_n 3, 1) := by decide +kernel
theorem dX1_fillRows_45 : decode cX1_fillRows 45 = .ok (.baload, 1) := by decide +kernel
theorem dX1_fillRows_46 : decode cX1_fillRows 46 = .ok (.bipush 32, 2) := by decide +kernel
theorem dX1_fillRows_48 : decode cX1_fillRows 48 = .ok (.if_icmp .ne 7, 3) := by decide +kernel
theorem dX1_fillRows_51 : decode cX1_fillRows 51 = .ok (.iconst 1, 1) := by decide +kernel
theorem dX1_fillRows_52 : decode cX1_fillRows 52 = .ok (.goto 4, 3) := by decide +kernel
theorem dX1_fillRows_63 : decode cX1_fillRows 63 = .ok (.iload_n 3, 1) := by decide +kernel
theorem dX1_fillRows_64 : decode cX1_fillRows 64 = .ok (.iconst 1, 1) := by decide +kernel
theorem dX1_fillRows_65 : decode cX1_fillRows 65 = .ok (.iadd, 1) := by decide +kernel
theorem dX1_fillRows_66 : decode cX1_fillRows 66 = .ok (.goto 4, 3) := by decide +kernel
theorem dX1_fillRows_0 : decode cX1_fillRows 0 = .ok (.iconst 0, 1) := by decide +kernel
theorem dX1_fillRows_1 : decode cX1_fillRows 1 = .ok (.istore_n 1, 1) := by decide +kernel
theorem dX1_fillRows_2 : decode cX1_fillRows 2 = .ok (.iconst 0, 1) := by decide +kernel
theorem dX1_fillRows_3 : decode cX1_fillRows 3 = .ok (.istore_n 2, 1) := by decide +kernel
theorem dX1_fillRows_77 : decode cX1_fillRows 77 = .ok (.return_, 1) := by decide +kernel
set_option maxHeartbeats 1000000 in
set_option maxRecDepth 100000 in
theorem lf_loop {p : Program} {l : Launch} {e : Env} {R : Room} {s : State} {m : MethodId} {args : Array Value} {below : List Frame} {meth : Method} {c : Code} {Q : State → Prop} {D : va_G} {A : Nat → Prop} {z : Nat → Nat} {cB cI_ cO : ClassId} {L0 : List Nat} {g0 : hG} {el : Nat} {kd nm sk : Int32} {tx n w rf rt M N0 : Nat} {tf : Nat → Int32} (hk6 : kd6 kd) (hN0 : N0 ≤ 1200) (hnN : n ≤ N0) (hMn : M = 2 * (n / 20) + 1) (hRf : 2 ≤ R.frames) (hRl : 60 ≤ R.locals) (hA : ∀ q : Nat, s.heap.size ≤ q → A q) (hf : CallFix p m c cX1_fillRows 5 s args gT yX1_fillRows.cls) (hK : va_K D vcl (dT cB cI_ cO) s) (hZ : zA z A s s.heap) (hN : zB z s) :
    ∀ (k : Nat) (at_ : Nat) (ch : Nat) (Rv : List (Nat × Nat)) (f1 : Nat → Int32) (f2 : Nat → Int32) (cells slots : Nat) (L : List Nat) (g : hG) (H : Heap) (locs : List Loc) (ls : Array Slot), n ≤ at_ + k → ch ≤ at_ ∧ at_ ≤ n + 1 → ck_rv f1 f2 Rv → (at_ < n → tx_pre (tx_w kd) at_ Rv ∧ ck_J (tx_w kd) Rv at_ ∧ ck_nb tf Rv at_) → Rv.length ≤ M → cells ≤ R.cells → slots ≤ R.slots → ho L g el 9 (.inr (2, [.int kd, .int nm, .int sk, .ref tx, .int (nI n), .int (nI w), .ref rf, .ref rt, .int (nI (Rv.length))])) → ho L g tx 10 (.inl (cB, N0, .inl tf)) → ho L g rf 11 (.inl (cI_, M, .inl f1)) → ho L g rt 12 (.inl (cI_, M, .inl f2)) → fr [9, 11, 12] L0 g0 L g → fra [el, rf, rt] L0 g0 L g → va_P D vcl (dW L g) H → va_D A (dW L g) → va_S A s.heap H locs → lv_has ls 5 [(2, .int (nI ch)), (1, .int (nI at_)), (0, .ref el)] →
    (∀ (R2 : List (Nat × Nat)) (k1 : Nat → Int32) (k2 : Nat → Int32)  (L : List Nat) (g : hG) (H : Heap) (locs : List Loc) (ls : Array Slot), R2 = ck_lay (tx_w kd) tf n k at_ Rv → ck_rv k1 k2 R2 → R2.length ≤ M → ho L g el 9 (.inr (2, [.int kd, .int nm, .int sk, .ref tx, .int (nI n), .int (nI w), .ref rf, .ref rt, .int (nI (R2.length))])) → ho L g tx 10 (.inl (cB, N0, .inl tf)) → ho L g rf 11 (.inl (cI_, M, .inl k1)) → ho L g rt 12 (.inl (cI_, M, .inl k2)) → fr [9, 11, 12] L0 g0 L g → fra [el, rf, rt] L0 g0 L g → va_P D vcl (dW L g) H → va_D A (dW L g) → va_S A s.heap H locs → lv_has ls 5 [(0, .ref el)] → W p l e R s m args below meth c H locs cells slots Q (F0 m 77 ls [])) →
    W p l e R s m args below meth c H locs cells slots Q (F0 m 4 ls []) := by
  obtain ⟨hx, hb, hml, hown, hts⟩ := id hf
  have hw20 := (tx_w_in kd).1
  have hw40 := (tx_w_in kd).2
  intro k
  induction k with
  | zero =>
    intro at_ ch Rv f1 f2 cells slots L g H locs ls hik hch hrv hinv hM0 hRc hRs h_el h_tx h_rf h_rt hfr hfa hP hD hS hl kk
    refine lv_iload_n hx hb dX1_fillRows_4 rfl (lv_at hl 0 rfl) ?_
    refine lv_aload_n hx hb dX1_fillRows_5 rfl (lv_at hl 2 rfl) ?_
    refine o_get (D := D) (ci := 2) (v := .int (nI n)) (C := RX1) (T := TX1) (N := 9) hx hb hts inX1 hown hK hP h_el rfl 4 (by decide) (hts _ k_237) (fun _ h9 => h9) rfl dX1_fillRows_6 ?_
    refine lv_icmp_ge (tgt := 77) hx hb dX1_fillRows_9 (by decide) (fun c_1 => ?_) (fun c_1 => ?_)
    · have c_1 := q_le (a := n) (b := ch) (by omega) (by omega) c_1
      exact kk Rv f1 f2 _ _ H locs ls (ck_lay_out (by omega)).symm hrv hM0 h_el h_tx h_rf h_rt hfr hfa hP hD hS (lv_sub hl (l' := [(0, .ref el)]) [2] rfl)
    · have c_1 := q_nle (a := n) (b := ch) (by omega) (by omega) c_1
      refine lv_iload_n hx hb dX1_fillRows_12 rfl (lv_at hl 1 rfl) ?_
      refine lv_aload_n hx hb dX1_fillRows_13 rfl (lv_at hl 2 rfl) ?_
      refine o_get (D := D) (ci := 2) (v := .int (nI n)) (C := RX1) (T := TX1) (N := 9) hx hb hts inX1 hown hK hP h_el rfl 4 (by decide) (hts _ k_237) (fun _ h9 => h9) rfl dX1_fillRows_14 ?_
      refine lv_icmp_ge (tgt := 77) hx hb dX1_fillRows_17 (by decide) (fun c_2 => ?_) (fun c_2 => ?_)
      · have c_2 := q_le (a := n) (b := at_) (by omega) (by omega) c_2
        exact kk Rv f1 f2 _ _ H locs ls (ck_lay_out (by omega)).symm hrv hM0 h_el h_tx h_rf h_rt hfr hfa hP hD hS (lv_sub hl (l' := [(0, .ref el)]) [2] rfl)
      · have c_2 := q_nle (a := n) (b := at_) (by omega) (by omega) c_2
        exact False.elim (by omega)
  | succ k ih =>
    intro at_ ch Rv f1 f2 cells slots L g H locs ls hik hch hrv hinv hM0 hRc hRs h_el h_tx h_rf h_rt hfr hfa hP hD hS hl kk
    refine lv_iload_n hx hb dX1_fillRows_4 rfl (lv_at hl 0 rfl) ?_
    refine lv_aload_n hx hb dX1_fillRows_5 rfl (lv_at hl 2 rfl) ?_
    refine o_get (D := D) (ci := 2) (v := .int (nI n)) (C := RX1) (T := TX1) (N := 9) hx hb hts inX1 hown hK hP h_el rfl 4 (by decide) (hts _ k_237) (fun _ h9 => h9) rfl dX1_fillRows_6 ?_
    refine lv_icmp_ge (tgt := 77) hx hb dX1_fillRows_9 (by decide) (fun c_1 => ?_) (fun c_1 => ?_)
    · have c_1 := q_le (a := n) (b := ch) (by omega) (by omega) c_1
      exact kk Rv f1 f2 _ _ H locs ls (ck_lay_out (by omega)).symm hrv hM0 h_el h_tx h_rf h_rt hfr hfa hP hD hS (lv_sub hl (l' := [(0, .ref el)]) [2] rfl)
    · have c_1 := q_nle (a := n) (b := ch) (by omega) (by omega) c_1
      refine lv_iload_n hx hb dX1_fillRows_12 rfl (lv_at hl 1 rfl) ?_
      refine lv_aload_n hx hb dX1_fillRows_13 rfl (lv_at hl 2 rfl) ?_
      refine o_get (D := D) (ci := 2) (v := .int (nI n)) (C := RX1) (T := TX1) (N := 9) hx hb hts inX1 hown hK hP h_el rfl 4 (by decide) (hts _ k_237) (fun _ h9 => h9) rfl dX1_fillRows_14 ?_
      refine lv_icmp_ge (tgt := 77) hx hb dX1_fillRows_17 (by decide) (fun c_2 => ?_) (fun c_2 => ?_)
      · have c_2 := q_le (a := n) (b := at_) (by omega) (by omega) c_2
        exact kk Rv f1 f2 _ _ H locs ls (ck_lay_out (by omega)).symm hrv hM0 h_el h_tx h_rf h_rt hfr hfa hP hD hS (lv_sub hl (l' := [(0, .ref el)]) [2] rfl)
      · have c_2 := q_nle (a := n) (b := at_) (by omega) (by omega) c_2
        have hat : at_ < n := by omega
        obtain ⟨hp, hJ, hnb⟩ := hinv hat
        have hs := ck_step (g := tf) hat hw20 hJ hp (ck_h0 hat hw20 hJ hnb)
        have hcb := ck_e_b tf hat (show 1 ≤ tx_w kd by omega)
        have hxe : ∀ x t, Rv = x :: t → x.1 ≤ (ck_e tf n (tx_w kd) at_) := fun x t e => by have := (hp.1.2.1 x (by rw [e]; exact List.mem_cons_self)).1; omega
        have hM1 := tx_rok_M hs.2.1 hcb.2.1 hw20
        rw [← hMn] at hM1
        have hiv : ck_nx tf n (ck_e tf n (tx_w kd) at_) < n → tx_pre (tx_w kd) (ck_nx tf n (ck_e tf n (tx_w kd) at_)) (ck_pr (tx_w kd) Rv at_ (ck_e tf n (tx_w kd) at_)) ∧ ck_J (tx_w kd) (ck_pr (tx_w kd) Rv at_ (ck_e tf n (tx_w kd) at_)) (ck_nx tf n (ck_e tf n (tx_w kd) at_)) ∧ ck_nb tf (ck_pr (tx_w kd) Rv at_ (ck_e tf n (tx_w kd) at_)) (ck_nx tf n (ck_e tf n (tx_w kd) at_)) := fun q => ⟨(hs.2.2.2 q).1, (hs.2.2.2 q).2, ck_nb_s q (hs.2.2.2 q).2 (ck_pr_end hcb.1 hxe)⟩
        refine lv_aload_n hx hb dX1_fillRows_20 rfl (lv_at hl 2 rfl) ?_
        refine lv_iload_n hx hb dX1_fillRows_21 rfl (lv_at hl 1 rfl) ?_
        refine o_cis (k := cells) (n := slots) hK hP hD hS hA (o_rV (As := [.int (nI at_)]) (rest := []) hf (l_chunk _ _ _ _ _ _ _ _ el kd nm sk tx n w rf rt (Rv.length) N0 at_ tf h_el h_tx hk6 hN0 hnN (by omega) _) k_213 k_210 k_212 k_3 k_90 (nA := 1) (by decide +kernel) ⟨Nat.le_trans (by decide) hRf, Nat.le_trans (by decide) hRl⟩ hK hP hD hS hA hZ hN h_el rfl rfl rfl hl.1 rfl (Nat.le_of_ble_eq_true rfl) dX1_fillRows_22 ⟨(show cells + 0 ≤ R.cells by omega), (show slots + 0 ≤ R.slots by omega)⟩) (Nat.le_refl _) (Nat.le_refl _) (fun r H locs hw hP hD hS => ?_)
        obtain rfl := hw
        refine lv_istore_n (lv' := [(3, .int (nI (ck_e tf n (tx_w kd) at_))), (2, .int (nI ch)), (1, .int (nI at_)), (0, .ref el)]) hx hb dX1_fillRows_25 rfl hl (by decide) rfl (fun ls hl => ?_)
        refine lv_aload_n hx hb dX1_fillRows_26 rfl (lv_at hl 3 rfl) ?_
        refine lv_iload_n hx hb dX1_fillRows_27 rfl (lv_at hl 2 rfl) ?_
        refine lv_iload_n hx hb dX1_fillRows_28 rfl (lv_at hl 0 rfl) ?_
        refine o_cv (k := cells) (n := slots) hK hP hD hS hA (o_rV (As := [.int (nI at_), .int (nI (ck_e tf n (tx_w kd) at_))]) (rest := []) hf (l_put _ _ _ _ _ _ _ _ el kd nm sk tx n w rf rt M at_ (ck_e tf n (tx_w kd) at_) f1 f2 Rv h_el h_rf h_rt hk6 (by omega) hcb.1 (by omega) hrv hxe hM0 hM1 _) k_226 k_223 k_225 k_5 k_90 (nA := 2) (by decide +kernel) ⟨Nat.le_trans (by decide) hRf, Nat.le_trans (by decide) hRl⟩ hK hP hD hS hA hZ hN h_el rfl rfl rfl hl.1 rfl (Nat.le_of_ble_eq_true rfl) dX1_fillRows_29 ⟨(show cells + 0 ≤ R.cells by omega), (show slots + 0 ≤ R.slots by omega)⟩) (Nat.le_refl _) (Nat.le_refl _) (fun L g H locs hw hP hD hS => ?_)
        obtain ⟨k1, k2, hrv2, hf9, hfa9, h_el, h_rf, h_rt⟩ := hw
        have h_tx := h_tx.fr hf9 (by decide)
        have hfr := hfr.tr hf9
        have hfa := hfa.tm hfa9 (fal_s (Or.inl (by simp)) (fal_s (Or.inl (by simp)) (fal_s (Or.inl (by simp)) fal_0)))
        refine lv_iload_n hx hb dX1_fillRows_32 rfl (lv_at hl 0 rfl) ?_
        refine lv_aload_n hx hb dX1_fillRows_33 rfl (lv_at hl 3 rfl) ?_
        refine o_get (D := D) (ci := 2) (v := .int (nI n)) (C := RX1) (T := TX1) (N := 9) hx hb hts inX1 hown hK hP h_el rfl 4 (by decide) (hts _ k_237) (fun _ h9 => h9) rfl dX1_fillRows_34 ?_
        refine lv_icmp_ge (tgt := 55) hx hb dX1_fillRows_37 (by decide) (fun c_3 => ?_) (fun c_3 => ?_)
        · have c_3 := q_le (a := n) (b := ck_e tf n (tx_w kd) at_) (by omega) (by omega) c_3
          refine lv_iconst (v := 0) hx hb dX1_fillRows_55 (by decide) ?_
          refine lv_istore (lv' := [(4, .int 0), (3, .int (nI (ck_e tf n (tx_w kd) at_))), (2, .int (nI ch)), (1, .int (nI at_)), (0, .ref el)]) hx hb dX1_fillRows_56 hl (by decide) rfl (fun ls hl => ?_)
          refine lv_iload hx hb dX1_fillRows_58 (lv_at hl 0 rfl) ?_
          refine lv_if_eq (tgt := 69) hx hb dX1_fillRows_60 (by decide) (fun _ => ?_) (fun hno => absurd hno (by decide))
          refine lv_iload_n hx hb dX1_fillRows_69 rfl (lv_at hl 1 rfl) ?_
          refine lv_istore_n (lv' := [(1, .int (nI (ck_e tf n (tx_w kd) at_))), (4, .int 0), (3, .int (nI (ck_e tf n (tx_w kd) at_))), (2, .int (nI ch)), (0, .ref el)]) hx hb dX1_fillRows_70 rfl hl (by decide) rfl (fun ls hl => ?_)
          refine lv_iinc (v := nI (ch + 1)) (lv' := [(2, .int (nI (ch + 1))), (1, .int (nI (ck_e tf n (tx_w kd) at_))), (4, .int 0), (3, .int (nI (ck_e tf n (tx_w kd) at_))), (0, .ref el)]) hx hb dX1_fillRows_71 hl (k := 3) rfl (nI_addE (a := ch) (b := 1) (by omega)) (by decide) rfl (fun ls hl => ?_)
          refine lv_goto (tgt := 4) hx hb dX1_fillRows_74 (by decide) ?_
          have hnx : ck_nx tf n (ck_e tf n (tx_w kd) at_) = (ck_e tf n (tx_w kd) at_) := if_neg (fun q => absurd q.1 (by omega))
          have hlt := hs.2.2.1
          rw [hnx] at hiv hlt
          exact ih (ck_e tf n (tx_w kd) at_) (ch + 1) (ck_pr (tx_w kd) Rv at_ (ck_e tf n (tx_w kd) at_)) k1 k2 cells slots _ _ H locs ls (by omega) (by omega) hrv2 hiv hM1 hRc hRs h_el h_tx h_rf h_rt hfr hfa hP hD hS (lv_sub hl (l' := [(2, .int (nI (ch + 1))), (1, .int (nI (ck_e tf n (tx_w kd) at_))), (0, .ref el)]) [0, 1, 4] rfl) (fun R2 k3 k4 L g H locs ls a1 => kk R2 k3 k4 L g H locs ls (a1.trans (by rw [ck_lay_in hat, hnx])))
        · have c_3 := q_nle (a := n) (b := ck_e tf n (tx_w kd) at_) (by omega) (by omega) c_3
          refine lv_aload_n hx hb dX1_fillRows_40 rfl (lv_at hl 3 rfl) ?_
          refine o_get (D := D) (ci := 2) (v := .ref tx) (C := RX1) (T := TX1) (N := 9) hx hb hts inX1 hown hK hP h_el rfl 3 (by decide) (hts _ k_236) (fun _ h9 => h9) rfl dX1_fillRows_41 ?_
          refine lv_iload_n hx hb dX1_fillRows_44 rfl (lv_at hl 0 rfl) ?_
          refine o_bld (X := ck_e tf n (tx_w kd) at_) hx hb hK hP h_tx (by omega) (by omega) dX1_fillRows_45 ?_
          refine lv_bipush (v := 32) hx hb dX1_fillRows_46 (by decide) ?_
          refine lv_icmp_ne (tgt := 55) hx hb dX1_fillRows_48 (by decide) (fun c_4 => ?_) (fun c_4 => ?_)
          · refine lv_iconst (v := 0) hx hb dX1_fillRows_55 (by decide) ?_
            refine lv_istore (lv' := [(4, .int 0), (3, .int (nI (ck_e tf n (tx_w kd) at_))), (2, .int (nI ch)), (1, .int (nI at_)), (0, .ref el)]) hx hb dX1_fillRows_56 hl (by decide) rfl (fun ls hl => ?_)
            refine lv_iload hx hb dX1_fillRows_58 (lv_at hl 0 rfl) ?_
            refine lv_if_eq (tgt := 69) hx hb dX1_fillRows_60 (by decide) (fun _ => ?_) (fun hno => absurd hno (by decide))
            refine lv_iload_n hx hb dX1_fillRows_69 rfl (lv_at hl 1 rfl) ?_
            refine lv_istore_n (lv' := [(1, .int (nI (ck_e tf n (tx_w kd) at_))), (4, .int 0), (3, .int (nI (ck_e tf n (tx_w kd) at_))), (2, .int (nI ch)), (0, .ref el)]) hx hb dX1_fillRows_70 rfl hl (by decide) rfl (fun ls hl => ?_)
            refine lv_iinc (v := nI (ch + 1)) (lv' := [(2, .int (nI (ch + 1))), (1, .int (nI (ck_e tf n (tx_w kd) at_))), (4, .int 0), (3, .int (nI (ck_e tf n (tx_w kd) at_))), (0, .ref el)]) hx hb dX1_fillRows_71 hl (k := 3) rfl (nI_addE (a := ch) (b := 1) (by omega)) (by decide) rfl (fun ls hl => ?_)
            refine lv_goto (tgt := 4) hx hb dX1_fillRows_74 (by decide) ?_
            have hnx : ck_nx tf n (ck_e tf n (tx_w kd) at_) = (ck_e tf n (tx_w kd) at_) := if_neg (fun q => c_4 q.2)
            have hlt := hs.2.2.1
            rw [hnx] at hiv hlt
            exact ih (ck_e tf n (tx_w kd) at_) (ch + 1) (ck_pr (tx_w kd) Rv at_ (ck_e tf n (tx_w kd) at_)) k1 k2 cells slots _ _ H locs ls (by omega) (by omega) hrv2 hiv hM1 hRc hRs h_el h_tx h_rf h_rt hfr hfa hP hD hS (lv_sub hl (l' := [(2, .int (nI (ch + 1))), (1, .int (nI (ck_e tf n (tx_w kd) at_))), (0, .ref el)]) [0, 1, 4] rfl) (fun R2 k3 k4 L g H locs ls a1 => kk R2 k3 k4 L g H locs ls (a1.trans (by rw [ck_lay_in hat, hnx])))
          · refine lv_iconst (v := 1) hx hb dX1_fillRows_51 (by decide) ?_
            refine lv_goto (tgt := 56) hx hb dX1_fillRows_52 (by decide) ?_
            refine lv_istore (lv' := [(4, .int 1), (3, .int (nI (ck_e tf n (tx_w kd) at_))), (2, .int (nI ch)), (1, .int (nI at_)), (0, .ref el)]) hx hb dX1_fillRows_56 hl (by decide) rfl (fun ls hl => ?_)
            refine lv_iload hx hb dX1_fillRows_58 (lv_at hl 0 rfl) ?_
            refine lv_if_eq (tgt := 69) hx hb dX1_fillRows_60 (by decide) (fun hno => absurd hno (by decide)) (fun _ => ?_)
            refine lv_iload_n hx hb dX1_fillRows_63 rfl (lv_at hl 1 rfl) ?_
            refine lv_iconst (v := 1) hx hb dX1_fillRows_64 (by decide) ?_
            refine lv_iadd hx hb dX1_fillRows_65 ?_
            refine q_seti (y := nI (ck_e tf n (tx_w kd) at_ + 1)) (nI_addE (a := ck_e tf n (tx_w kd) at_) (b := 1) (by omega)) ?_
            refine lv_goto (tgt := 70) hx hb dX1_fillRows_66 (by decide) ?_
            refine lv_istore_n (lv' := [(1, .int (nI (ck_e tf n (tx_w kd) at_ + 1))), (4, .int 1), (3, .int (nI (ck_e tf n (tx_w kd) at_))), (2, .int (nI ch)), (0, .ref el)]) hx hb dX1_fillRows_70 rfl hl (by decide) rfl (fun ls hl => ?_)
            refine lv_iinc (v := nI (ch + 1)) (lv' := [(2, .int (nI (ch + 1))), (1, .int (nI (ck_e tf n (tx_w kd) at_ + 1))), (4, .int 1), (3, .int (nI (ck_e tf n (tx_w kd) at_))), (0, .ref el)]) hx hb dX1_fillRows_71 hl (k := 3) rfl (nI_addE (a := ch) (b := 1) (by omega)) (by decide) rfl (fun ls hl => ?_)
            refine lv_goto (tgt := 4) hx hb dX1_fillRows_74 (by decide) ?_
            have hnx : ck_nx tf n (ck_e tf n (tx_w kd) at_) = (ck_e tf n (tx_w kd) at_) + 1 := if_pos ⟨by omega, c_4⟩
            have hlt := hs.2.2.1
            rw [hnx] at hiv hlt
            exact ih (ck_e tf n (tx_w kd) at_ + 1) (ch + 1) (ck_pr (tx_w kd) Rv at_ (ck_e tf n (tx_w kd) at_)) k1 k2 cells slots _ _ H locs ls (by omega) (by omega) hrv2 hiv hM1 hRc hRs h_el h_tx h_rf h_rt hfr hfa hP hD hS (lv_sub hl (l' := [(2, .int (nI (ch + 1))), (1, .int (nI (ck_e tf n (tx_w kd) at_ + 1))), (0, .ref el)]) [0, 1, 4] rfl) (fun R2 k3 k4 L g H locs ls a1 => kk R2 k3 k4 L g H locs ls (a1.trans (by rw [ck_lay_in hat, hnx])))
set_option maxHeartbeats 1000000 in
set_option maxRecDepth 100000 in
theorem l_fill (l : Launch) (D : va_G) (z : Nat → Nat) (cB cI_ cO : ClassId) (L0 : List Nat) (g0 : hG) (el : Nat) (kd nm sk : Int32) (tx n w rf rt M N0 : Nat) (tf f1 f2 : Nat → Int32) (h_el : ho L0 g0 el 9 (.inr (2, [.int kd, .int nm, .int sk, .ref tx, .int (nI n), .int (nI w), .ref rf, .ref rt, .int 0]))) (h_tx : ho L0 g0 tx 10 (.inl (cB, N0, .inl tf))) (h_rf : ho L0 g0 rf 11 (.inl (cI_, M, .inl f1))) (h_rt : ho L0 g0 rt 12 (.inl (cI_, M, .inl f2))) (hk6 : kd6 kd) (hN0 : N0 ≤ 1200) (hnN : n ≤ N0) (hMn : M = 2 * (n / 20) + 1) : eV l D yX1_fillRows cX1_fillRows 5 none 2 60 0 0 [.ref el] z cB cI_ cO L0 g0 (fun L g => ∃ (R2 : List (Nat × Nat)) (k1 k2 : Nat → Int32), R2 = ck_lay (tx_w kd) tf n n 0 [] ∧ ck_rv k1 k2 R2 ∧ R2.length ≤ M ∧ fr [9, 11, 12] L0 g0 L g ∧ fra [el, rf, rt] L0 g0 L g ∧ ho L g el 9 (.inr (2, [.int kd, .int nm, .int sk, .ref tx, .int (nI n), .int (nI w), .ref rf, .ref rt, .int (nI R2.length)])) ∧ ho L g rf 11 (.inl (cI_, M, .inl k1)) ∧ ho L g rt 12 (.inl (cI_, M, .inl k2))) := by
  refine o_sv (by decide) (Nat.le_of_ble_eq_true rfl) ?_
  intro p e s m below meth c A ls hf hr hlocks hin hK hP hD hS hA hZ hN hl
  obtain ⟨hx, hb, hml, hown, hts⟩ := id hf
  have hl : lv_has ls 5 [(0, .ref el)] := hl
  have hfr : fr [9, 11, 12] L0 g0 L0 g0 := fr.rf
  have hfa : fra [el, rf, rt] L0 g0 L0 g0 := fra.rf
  refine lv_iconst (v := 0) hx hb dX1_fillRows_0 (by decide) ?_
  refine lv_istore_n (lv' := [(1, .int 0), (0, .ref el)]) hx hb dX1_fillRows_1 rfl hl (by decide) rfl (fun ls hl => ?_)
  refine lv_iconst (v := 0) hx hb dX1_fillRows_2 (by decide) ?_
  refine lv_istore_n (lv' := [(2, .int 0), (1, .int 0), (0, .ref el)]) hx hb dX1_fillRows_3 rfl hl (by decide) rfl (fun ls hl => ?_)
  refine lf_loop (L0 := L0) (g0 := g0) hk6 hN0 hnN hMn (Nat.le_of_ble_eq_true rfl) (Nat.le_of_ble_eq_true rfl) hA hf hK hZ hN n 0 0 [] f1 f2 0 0 _ _ _ _ ls (by omega) (by omega) trivial (fun _ => ⟨tx_pre_0 _, fun x t e => (by cases e), fun x t e => (by cases e)⟩) (Nat.zero_le _) (Nat.le_of_ble_eq_true rfl) (Nat.le_of_ble_eq_true rfl) h_el h_tx h_rf h_rt hfr hfa hP hD hS (lv_sub hl (l' := [(2, .int 0), (1, .int 0), (0, .ref el)]) [0, 1, 2] rfl) (fun R2 k1 k2 L g H locs ls a1 a2 a3 h_el h_tx h_rf h_rt hfr hfa hP hD hS hl => ?_)
  exact o_rv hf hr hlocks hK hP hD hS (show 0 ≤ 0 by omega) (show 0 ≤ 0 by omega) ⟨R2, k1, k2, a1, a2, a3, hfr, hfa, h_el, h_rf, h_rt⟩ dX1_fillRows_77
