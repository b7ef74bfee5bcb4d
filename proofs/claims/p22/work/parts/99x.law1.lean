theorem nm_st {Es : List E5} {j : Nat} (h : nmO Es) : nmO (stE Es j) := by
  intro e he
  rw [(stE_sx Es j).1] at he
  have h1 := h e he
  by_cases c : e = j
  · rw [c] at he h1 ⊢
    unfold stE
    rw [gset_eq he]
    exact h1
  · unfold stE
    rw [gset_ne c]
    exact h1
theorem nm_ins {Es : List E5} {T : Nat → Int32} {n : Nat} {kd : Int32} (h : nmO Es) : nmO (Es ++ [insE T n kd Es.length]) := by
  intro e he
  rw [List.length_append] at he
  have he : e < Es.length + 1 := he
  by_cases c : e = Es.length
  · rw [c, gd_r]
    rfl
  · rw [gd_l (by omega)]
    exact h e (by omega)
theorem rnm_n (Ms : List E5) : ∀ i, i ≤ Ms.length → ∀ e, e < i → ((rnm Ms i).getD e dE).2.1 = nI e := by
  intro i
  induction i with
  | zero => intro _ e he; exact absurd he (Nat.not_lt_zero e)
  | succ i ih =>
    intro hi e he
    show (((rnm Ms i).set i _).getD e dE).2.1 = nI e
    by_cases c : e = i
    · rw [c, gset_eq (by rw [rnm_len]; omega)]
    · rw [gset_ne c]
      exact ih (by omega) e (by omega)
theorem nm_mg {Es : List E5} {l : List Nat} : nmO (rnm (l.map (fun e => Es.getD e dE)) l.length) := by
  intro e he
  rw [rnm_len, List.length_map] at he
  exact rnm_n _ _ (by rw [List.length_map]; exact Nat.le_refl _) e he
theorem q_sld {p : Program} {l : Launch} {e : Env} {R : Room} {s : State} {m : MethodId} {args : Array Value} {below : List Frame} {meth : Method} {c : Code} {H : Heap} {locs : List Loc} {cells slots : Nat} {Q : State → Prop} {cc : ByteArray} {pc : Nat} {ls : Array Slot} {rest : List Value} {A : Nat → Prop} {b n : Nat} {xs : Nat → Int32} (hexec : p.tables.exec = Jvm.exec) (hb : c.code = cc) (hX : va_X b n xs s s.heap) (hbl : b < s.heap.size) (hbA : ¬ A b) (hS : va_S A s.heap H locs) {X : Nat} (h : X < n) (hn : n < 2 ^ 31) (hdg : decode cc pc = .ok (.iaload, 1))
    (kk : W p l e R s m args below meth c H locs cells slots Q (F0 m (pc + 1) ls (.int (xs X) :: rest))) : W p l e R s m args below meth c H locs cells slots Q (F0 m pc ls (.int (nI X) :: .ref b :: rest)) := by
  refine va_sld hexec hb hX hbl hbA hS (vp_in_nI h hn) hdg ?_
  rw [nI_clamp (by omega)]
  exact kk
theorem cS.dk {z : Nat → Nat} {cB cI_ cO : ClassId} {L : List Nat} {g : hG} {dk : Nat} {T : Nat → Int32} {n : Nat} {Es : List E5} {P : List Q4} {mo lk gs M : Nat} (h : cS z cB cI_ cO L g dk T n Es P mo lk gs M) : ∃ fs : List Value, ho L g dk 1 (.inr (10, fs)) := by
  obtain ⟨a, x, xs, pa, sa, f, hb⟩ := h
  exact ⟨_, hb.h_dk⟩
theorem cS.m1 {z : Nat → Nat} {cB cI_ cO : ClassId} {L : List Nat} {g : hG} {dk : Nat} {T : Nat → Int32} {n : Nat} {Es : List E5} {P : List Q4} {mo lk gs M : Nat} (h : cS z cB cI_ cO L g dk T n Es P mo lk gs M) : M ≤ 1000 := by
  obtain ⟨a, x, xs, pa, sa, f, hb⟩ := h
  exact hb.hbn.2.1.2.2.2
/-- both sides, with the same data; rm calls left -/
def jS (D : va_G) (A : Nat → Prop) (z : Nat → Nat) (cB cI_ cO : ClassId) (dk h0 : Nat) (q : Nat → Nat) (cB2 cI2 cZ : ClassId) (H : Heap) (M rm : Nat) : Prop := ∃ (L : List Nat) (g : hG) (I : Nat → Int32) (F : Nat → Nat → Int32) (T : Nat → Int32) (n : Nat) (Es : List E5) (sl : Nat → Nat) (P : List Q4) (mo lk gs : Nat), va_P D vcl (dW L g) H ∧ va_D A (dW L g) ∧ va_P D vcl (mW h0 q cB2 cI2 cZ I F) H ∧ va_D A (mW h0 q cB2 cI2 cZ I F) ∧ sep (dW L g) (mW h0 q cB2 cI2 cZ I F) ∧ cS z cB cI_ cO L g dk T n Es (upl lk P) mo lk gs M ∧ rS I F T n Es sl P mo lk gs ∧ dI T n Es P mo lk gs rm ∧ nmO Es
theorem dI.dn {T : Nat → Int32} {n : Nat} {Es : List E5} {P : List Q4} {mo lk gs rm rm2 : Nat} (h : dI T n Es P mo lk gs rm) (hr : rm2 ≤ rm) : dI T n Es P mo lk gs rm2 := h.n2 h.1.1 h.1.2.1 (by omega)
theorem fd_det {w : Int64} {x3 r1 r2 : Int32} {n n1 n2 : Nat} {T T1 T2 : Nat → Int32} (h1 : fdC w x3 n T r1 n1 T1) (h2 : fdC w x3 n T r2 n2 T2) : r1 = r2 ∧ n1 = n2 ∧ T1 = T2 := by
  have key : ∀ {k1 k2 : Nat}, k1 < 8 → k2 < 8 → x3 = nI (k1 + 1) → x3 = nI (k2 + 1) → k1 = k2 := fun {k1 k2} a1 b1 a2 b2 => by
    have e := q_eqn (a := k1 + 1) (b := k2 + 1) (by omega) (by omega) (a2.symm.trans b2)
    omega
  rcases h1 with ⟨a1, a2, e1, e2⟩ | ⟨k1, a1, a2, a3, a4, e1, e2⟩ | ⟨k1, a1, a2, a3, a4, a5⟩
  · rcases h2 with ⟨b1, b2, e3, e4⟩ | ⟨k2, b1, b2, b3, b4, e3, e4⟩ | ⟨k2, b1, b2, b3, b4, b5⟩
    · exact ⟨a2.trans b2.symm, e1.trans e3.symm, e2.trans e4.symm⟩
    · exact (fd_no a1 b1 b2).elim
    · exact (fd_no a1 b1 b2).elim
  · rcases h2 with ⟨b1, b2, e3, e4⟩ | ⟨k2, b1, b2, b3, b4, e3, e4⟩ | ⟨k2, b1, b2, b3, b4, b5⟩
    · exact (fd_no b1 a1 a2).elim
    · exact ⟨a4.trans b4.symm, e1.trans e3.symm, e2.trans e4.symm⟩
    · have := key a1 b1 a2 b2
      exact False.elim (by omega)
  · rcases h2 with ⟨b1, b2, e3, e4⟩ | ⟨k2, b1, b2, b3, b4, e3, e4⟩ | ⟨k2, b1, b2, b3, b4, b5⟩
    · exact (fd_no b1 a1 a2).elim
    · have := key a1 b1 a2 b2
      exact False.elim (by omega)
    · have e := key a1 b1 a2 b2
      rw [e, ← b5] at a5
      have e5 : n1 = n2 := congrArg Prod.fst a5
      have e6 : T1 = T2 := congrArg Prod.snd a5
      exact ⟨by rw [a4, b4, e5], e5, e6⟩
theorem fd_dI {w : Int64} {x3 r2 : Int32} {n n2 : Nat} {T T2 : Nat → Int32} {Es : List E5} {P : List Q4} {mo lk gs rm : Nat} (h : dI T n Es P mo lk gs (rm + 1)) (h2 : fdC w x3 n T r2 n2 T2) : dI T2 n2 Es P mo lk gs rm := by
  rcases h2 with ⟨_, _, e3, e4⟩ | ⟨_, _, _, _, _, e3, e4⟩ | ⟨k2, b1, b2, b3, b5, b4⟩
  · rw [e3, e4]; exact h.dn (Nat.le_succ _)
  · rw [e3, e4]; exact h.dn (Nat.le_succ _)
  · have h3 := tx_fd_n1 (w := w) (k2 + 1) (n, T) h.1.2.1
    rw [← b4] at h3
    have h4 : n2 ≤ n + (k2 + 1) := h3.1
    exact h.n2 (by omega) h3.2 (by omega)
theorem ct_det {x1 r1 r2 : Int32} {n n1 n2 : Nat} (hn : n ≤ 1200) (h1 : ctC x1 n r1 n1) (h2 : ctC x1 n r2 n2) : r1 = r2 ∧ n1 = n2 ∧ n2 ≤ n := by
  rcases h1 with ⟨h1, c1, e1⟩ | ⟨h1, h1b, c1, h1c, e1⟩
  · rcases h2 with ⟨h2, c2, e2⟩ | ⟨h2, h2b, c2, h2c, e2⟩
    · exact ⟨c1.trans c2.symm, by omega, by omega⟩
    · exact (h1.elim (fun z9 => h2 z9) (fun z9 => h2b z9)).elim
  · rcases h2 with ⟨h2, c2, e2⟩ | ⟨h2, h2b, c2, h2c, e2⟩
    · exact (h2.elim (fun z9 => h1 z9) (fun z9 => h1b z9)).elim
    · exact ⟨c1.trans c2.symm, q_eqn (by omega) (by omega) (e1.symm.trans e2), h2c⟩
theorem ln_det {x1 r1 r2 : Int32} {mo m1 m2 lk : Nat} (h1 : (x1 < 10 ∧ r1 = (-2) ∧ m1 = mo) ∨ (¬ x1 < 10 ∧ 40 < x1 ∧ r1 = (-2) ∧ m1 = mo) ∨ (¬ x1 < 10 ∧ ¬ 40 < x1 ∧ 0 < lk ∧ r1 = (-3) ∧ m1 = mo) ∨ (¬ x1 < 10 ∧ ¬ 40 < x1 ∧ lk = 0 ∧ r1 = nI mo ∧ x1 = nI m1 ∧ 10 ≤ m1 ∧ m1 ≤ 40)) (h2 : (x1 < 10 ∧ r2 = (-2) ∧ m2 = mo) ∨ (¬ x1 < 10 ∧ 40 < x1 ∧ r2 = (-2) ∧ m2 = mo) ∨ (¬ x1 < 10 ∧ ¬ 40 < x1 ∧ 0 < lk ∧ r2 = (-3) ∧ m2 = mo) ∨ (¬ x1 < 10 ∧ ¬ 40 < x1 ∧ lk = 0 ∧ r2 = nI mo ∧ x1 = nI m2 ∧ 10 ≤ m2 ∧ m2 ≤ 40)) : r1 = r2 ∧ m1 = m2 := by
  rcases h1 with ⟨a1, e1, f1⟩ | ⟨a1, a2, e1, f1⟩ | ⟨a1, a2, a3, e1, f1⟩ | ⟨a1, a2, a3, e1, g1, f1, k1⟩ <;> rcases h2 with ⟨b1, e2, f2⟩ | ⟨b1, b2, e2, f2⟩ | ⟨b1, b2, b3, e2, f2⟩ | ⟨b1, b2, b3, e2, g2, f2, k2⟩ <;> first | exact absurd a1 b1 | exact absurd b1 a1 | exact absurd a2 b2 | exact absurd b2 a2 | exact False.elim (by omega) | exact ⟨e1.trans e2.symm, f1.trans f2.symm⟩ | exact ⟨e1.trans e2.symm, q_eqn (by omega) (by omega) (g1.symm.trans g2)⟩
theorem ln_dI {x1 r2 : Int32} {T : Nat → Int32} {n : Nat} {Es : List E5} {P : List Q4} {mo m2 lk gs rm : Nat} (h : dI T n Es P mo lk gs (rm + 1)) (h2 : (x1 < 10 ∧ r2 = (-2) ∧ m2 = mo) ∨ (¬ x1 < 10 ∧ 40 < x1 ∧ r2 = (-2) ∧ m2 = mo) ∨ (¬ x1 < 10 ∧ ¬ 40 < x1 ∧ 0 < lk ∧ r2 = (-3) ∧ m2 = mo) ∨ (¬ x1 < 10 ∧ ¬ 40 < x1 ∧ lk = 0 ∧ r2 = nI mo ∧ x1 = nI m2 ∧ 10 ≤ m2 ∧ m2 ≤ 40)) : dI T n Es P m2 lk gs rm := by
  rcases h2 with ⟨_, _, f2⟩ | ⟨_, _, _, f2⟩ | ⟨_, _, _, _, f2⟩ | ⟨_, _, _, _, _, f2, k2⟩
  · rw [f2]; exact h.dn (Nat.le_succ _)
  · rw [f2]; exact h.dn (Nat.le_succ _)
  · rw [f2]; exact h.dn (Nat.le_succ _)
  · exact h.mo f2 k2 (Nat.le_succ _)
theorem rd_dI {T : Nat → Int32} {n : Nat} {Es Es2 : List E5} {P : List Q4} {mo lk gs rm gs2 : Nat} (h : dI T n Es P mo lk gs (rm + 1)) (h1 : tx_acc T (tx_ln T n (n + 1) 0) (tx_ln T n (n + 1) 0).length = acE Es2) (h2 : tx_cnt T (tx_ln T n (n + 1) 0) (tx_ln T n (n + 1) 0).length ≤ 60) : dI T 0 Es2 (upP Es2 Es2.length) mo 0 gs2 rm := by
  have h3 := read_in rfl h1
  have h4 := tx_acc_len T (tx_ln T n (n + 1) 0) (tx_ln T n (n + 1) 0).length
  rw [h1, acE_len] at h4
  have h5 := h.2.1.2.2
  exact dI.un ⟨Nat.zero_le _, h.1.2.1, h.1.2.2.1, h.1.2.2.2.1⟩ ⟨by omega, h3.2, by omega⟩
theorem rm5 {cells mc M M2 : Nat} (b1 : M ≤ M2) (b2 : M2 ≤ 1000) (b5 : mc ≤ 1100 + 3 * (M2 - M)) (hcc : cells + 1100 + 3 * (1000 - M) ≤ 600000) : cells + mc + 0 ≤ 600000 := by omega
theorem rm6 {slots ms M M2 : Nat} (b1 : M ≤ M2) (b2 : M2 ≤ 1000) (b6 : ms ≤ 13800 + 6 * (M2 - M)) (hss : slots + 13800 + 6 * (1000 - M) ≤ 7302250) : slots + ms + 0 ≤ 7302250 := by omega
theorem rq5 {cells mc M M2 : Nat} (b5 : mc ≤ 1100 + 3 * (M2 - M)) : cells + mc ≤ cells + 1100 + 3 * (M2 - M) := by omega
theorem rq6 {slots ms M M2 : Nat} (b6 : ms ≤ 13800 + 6 * (M2 - M)) : slots + ms ≤ slots + 13800 + 6 * (M2 - M) := by omega
theorem rl9 {k lo : Nat} (h : k ≤ 70) (b4 : lo ≤ 400) : k + lo ≤ 470 := by omega
theorem ins_no {Es : List E5} {x1 x2 : Int32} {j : Nat} (h : ¬ (∃ j : Nat, j < Es.length ∧ x1 = nI j) ∨ x2 < 0 ∨ 5 < x2) (h1 : j < Es.length ∧ x1 = nI j ∧ kd6 x2) : False := by
  rcases h with h | h | h
  · exact h ⟨j, h1.1, h1.2.1⟩
  · exact kd6_in h1.2.2 (Or.inl h)
  · exact kd6_in h1.2.2 (Or.inr (gt5 h))
theorem ins_n2 {Es : List E5} {x1 x2 : Int32} {j j2 lk n : Nat} {T : Nat → Int32} (hE : Es.length ≤ 60) (h1 : j < Es.length ∧ x1 = nI j ∧ kd6 x2) (h2 : j2 < Es.length ∧ x1 = nI j2 ∧ kd6 x2) (h3 : lk = 0 ∨ ¬ (Es.getD j dE).2.2.1 = 0 ∨ ¬ (∃ i, i < n ∧ ¬ tx_gap (T i))) (h4 : 0 < lk) (h5 : (Es.getD j2 dE).2.2.1 = 0) (h6 : ∃ i, i < n ∧ ¬ tx_gap (T i)) : False := by
  have e := q_eqn (a := j) (b := j2) (by omega) (by omega) (h1.2.1.symm.trans h2.2.1)
  rw [← e] at h5
  rcases h3 with h3 | h3 | h3
  · omega
  · exact h3 h5
  · exact h3 h6
theorem pl_un {P : List Q4} {j p1 p2 : Nat} (h1 : p1 < P.length ∧ (P.getD p1 d4).1 = j ∧ ∀ i, p1 < i → i < P.length → ¬ (P.getD i d4).1 = j) (h2 : p2 < P.length ∧ (P.getD p2 d4).1 = j ∧ ∀ i, p2 < i → i < P.length → ¬ (P.getD i d4).1 = j) : p1 = p2 := by
  rcases Nat.lt_trichotomy p1 p2 with h | h | h
  · exact absurd h2.2.1 (h1.2.2 p2 h h2.1)
  · exact h
  · exact absurd h1.2.1 (h2.2.2 p1 h h1.1)
abbrev cL_law : ByteArray := code
theorem k_466 : (Cond.methodLink R_law 15 yX9_feed) ∈ gT := gT_i 466 (by decide +kernel) rfl
theorem k_467 : (Cond.instanceMethod yX9_feed) ∈ gT := gT_i 467 (by decide +kernel) rfl
theorem k_468 : (Cond.selects RX9 yX9_feed yX9_feed) ∈ gT := gT_i 468 (by decide +kernel) rfl
theorem k_469 : (Cond.code yX9_feed cX9_feed 5 (some .int)) ∈ gT := gT_i 469 (by decide +kernel) rfl
theorem k_482 : (Cond.methodLink R_law 20 yX9_cut) ∈ gT := gT_i 482 (by decide +kernel) rfl
theorem k_483 : (Cond.instanceMethod yX9_cut) ∈ gT := gT_i 483 (by decide +kernel) rfl
theorem k_484 : (Cond.selects RX9 yX9_cut yX9_cut) ∈ gT := gT_i 484 (by decide +kernel) rfl
theorem k_485 : (Cond.code yX9_cut cX9_cut 3 (some .int)) ∈ gT := gT_i 485 (by decide +kernel) rfl
theorem k_490 : (Cond.methodLink R_law 25 yX9_read) ∈ gT := gT_i 490 (by decide +kernel) rfl
theorem k_491 : (Cond.instanceMethod yX9_read) ∈ gT := gT_i 491 (by decide +kernel) rfl
theorem k_492 : (Cond.selects RX9 yX9_read yX9_read) ∈ gT := gT_i 492 (by decide +kernel) rfl
theorem k_493 : (Cond.code yX9_read cX9_read 1 (some .int)) ∈ gT := gT_i 493 (by decide +kernel) rfl
theorem k_725 : (Cond.methodLink R_law 30 yX9_length) ∈ gT := gT_i 725 (by decide +kernel) rfl
theorem k_726 : (Cond.instanceMethod yX9_length) ∈ gT := gT_i 726 (by decide +kernel) rfl
theorem k_727 : (Cond.selects RX9 yX9_length yX9_length) ∈ gT := gT_i 727 (by decide +kernel) rfl
theorem k_728 : (Cond.code yX9_length cX9_length 3 (some .int)) ∈ gT := gT_i 728 (by decide +kernel) rfl
theorem k_729 : (Cond.methodLink R_law 34 yX9_element) ∈ gT := gT_i 729 (by decide +kernel) rfl
theorem k_745 : (Cond.methodLink R_law 39 yX9_rowByte) ∈ gT := gT_i 745 (by decide +kernel) rfl
theorem k_746 : (Cond.instanceMethod yX9_rowByte) ∈ gT := gT_i 746 (by decide +kernel) rfl
theorem k_747 : (Cond.selects RX9 yX9_rowByte yX9_rowByte) ∈ gT := gT_i 747 (by decide +kernel) rfl
theorem k_748 : (Cond.code yX9_rowByte cX9_rowByte 5 (some .int)) ∈ gT := gT_i 748 (by decide +kernel) rfl
theorem k_758 : (Cond.methodLink R_law 44 yX9_pages) ∈ gT := gT_i 758 (by decide +kernel) rfl
theorem k_863 : (Cond.methodLink R_law 48 yX9_cost) ∈ gT := gT_i 863 (by decide +kernel) rfl
theorem k_871 : (Cond.methodLink R_law 52 yX9_page) ∈ gT := gT_i 871 (by decide +kernel) rfl
theorem k_872 : (Cond.instanceMethod yX9_page) ∈ gT := gT_i 872 (by decide +kernel) rfl
theorem k_873 : (Cond.selects RX9 yX9_page yX9_page) ∈ gT := gT_i 873 (by decide +kernel) rfl
theorem k_874 : (Cond.code yX9_page cX9_page 3 (some .int)) ∈ gT := gT_i 874 (by decide +kernel) rfl
theorem k_924 : (Cond.methodLink R_law 60 yX9_strike) ∈ gT := gT_i 924 (by decide +kernel) rfl
theorem k_925 : (Cond.instanceMethod yX9_strike) ∈ gT := gT_i 925 (by decide +kernel) rfl
theorem k_926 : (Cond.selects RX9 yX9_strike yX9_strike) ∈ gT := gT_i 926 (by decide +kernel) rfl
theorem k_927 : (Cond.code yX9_strike cX9_strike 3 (some .int)) ∈ gT := gT_i 927 (by decide +kernel) rfl
theorem k_932 : (Cond.methodLink R_law 64 yX9_insert) ∈ gT := gT_i 932 (by decide +kernel) rfl
theorem k_933 : (Cond.instanceMethod yX9_insert) ∈ gT := gT_i 933 (by decide +kernel) rfl
theorem k_934 : (Cond.selects RX9 yX9_insert yX9_insert) ∈ gT := gT_i 934 (by decide +kernel) rfl
theorem k_935 : (Cond.code yX9_insert cX9_insert 7 (some .int)) ∈ gT := gT_i 935 (by decide +kernel) rfl
theorem k_993 : (Cond.methodLink R_law 68 yX9_sheets) ∈ gT := gT_i 993 (by decide +kernel) rfl
theorem k_994 : (Cond.instanceMethod yX9_sheets) ∈ gT := gT_i 994 (by decide +kernel) rfl
theorem k_995 : (Cond.selects RX9 yX9_sheets yX9_sheets) ∈ gT := gT_i 995 (by decide +kernel) rfl
theorem k_996 : (Cond.code yX9_sheets cX9_sheets 2 (some .int)) ∈ gT := gT_i 996 (by decide +kernel) rfl
theorem k_997 : (Cond.methodLink R_law 72 yX9_sheet) ∈ gT := gT_i 997 (by decide +kernel) rfl
theorem k_998 : (Cond.instanceMethod yX9_sheet) ∈ gT := gT_i 998 (by decide +kernel) rfl
theorem k_999 : (Cond.selects RX9 yX9_sheet yX9_sheet) ∈ gT := gT_i 999 (by decide +kernel) rfl
theorem k_1000 : (Cond.code yX9_sheet cX9_sheet 4 (some .int)) ∈ gT := gT_i 1000 (by decide +kernel) rfl
theorem k_1021 : (Cond.methodLink R_law 76 yX9_where) ∈ gT := gT_i 1021 (by decide +kernel) rfl
theorem k_1022 : (Cond.instanceMethod yX9_where) ∈ gT := gT_i 1022 (by decide +kernel) rfl
theorem k_1023 : (Cond.selects RX9 yX9_where yX9_where) ∈ gT := gT_i 1023 (by decide +kernel) rfl
theorem k_1024 : (Cond.code yX9_where cX9_where 5 (some .int)) ∈ gT := gT_i 1024 (by decide +kernel) rfl
theorem k_1033 : (Cond.methodLink R_law 80 yX9_merge) ∈ gT := gT_i 1033 (by decide +kernel) rfl
theorem k_1034 : (Cond.instanceMethod yX9_merge) ∈ gT := gT_i 1034 (by decide +kernel) rfl
theorem k_1035 : (Cond.selects RX9 yX9_merge yX9_merge) ∈ gT := gT_i 1035 (by decide +kernel) rfl
theorem k_1036 : (Cond.code yX9_merge cX9_merge 3 (some .int)) ∈ gT := gT_i 1036 (by decide +kernel) rfl
theorem k_1038 : (Cond.methodLink R_law 84 yX9_scenes) ∈ gT := gT_i 1038 (by decide +kernel) rfl
theorem k_1039 : (Cond.instanceMethod yX9_scenes) ∈ gT := gT_i 1039 (by decide +kernel) rfl
theorem k_1040 : (Cond.selects RX9 yX9_scenes yX9_scenes) ∈ gT := gT_i 1040 (by decide +kernel) rfl
theorem k_1041 : (Cond.code yX9_scenes cX9_scenes 1 (some .int)) ∈ gT := gT_i 1041 (by decide +kernel) rfl
theorem k_1053 : (Cond.methodLink R_law 88 yX9_scene) ∈ gT := gT_i 1053 (by decide +kernel) rfl
theorem k_1054 : (Cond.instanceMethod yX9_scene) ∈ gT := gT_i 1054 (by decide +kernel) rfl
theorem k_1055 : (Cond.selects RX9 yX9_scene yX9_scene) ∈ gT := gT_i 1055 (by decide +kernel) rfl
theorem k_1056 : (Cond.code yX9_scene cX9_scene 5 (some .int)) ∈ gT := gT_i 1056 (by decide +kernel) rfl
theorem k_1094 : (Cond.methodLink R_law 92 yX9_who) ∈ gT := gT_i 1094 (by decide +kernel) rfl
theorem k_1095 : (Cond.instanceMethod yX9_who) ∈ gT := gT_i 1095 (by decide +kernel) rfl
theorem k_1096 : (Cond.selects RX9 yX9_who yX9_who) ∈ gT := gT_i 1096 (by decide +kernel) rfl
theorem k_1097 : (Cond.code yX9_who cX9_who 3 (some .int)) ∈ gT := gT_i 1097 (by decide +kernel) rfl
theorem k_1102 : (Cond.methodLink R_law 96 yX9_parts) ∈ gT := gT_i 1102 (by decide +kernel) rfl
theorem k_1103 : (Cond.instanceMethod yX9_parts) ∈ gT := gT_i 1103 (by decide +kernel) rfl
theorem k_1104 : (Cond.selects RX9 yX9_parts yX9_parts) ∈ gT := gT_i 1104 (by decide +kernel) rfl
theorem k_1105 : (Cond.code yX9_parts cX9_parts 6 (some .int)) ∈ gT := gT_i 1105 (by decide +kernel) rfl
theorem k_1107 : (Cond.methodLink R_law 100 yX9_count) ∈ gT := gT_i 1107 (by decide +kernel) rfl
theorem k_1119 : (Cond.methodLink R_law 104 yX9_digest) ∈ gT := gT_i 1119 (by decide +kernel) rfl
theorem k_1120 : (Cond.instanceMethod yX9_digest) ∈ gT := gT_i 1120 (by decide +kernel) rfl
theorem k_1121 : (Cond.selects RX9 yX9_digest yX9_digest) ∈ gT := gT_i 1121 (by decide +kernel) rfl
theorem k_1122 : (Cond.code yX9_digest cX9_digest 4 (some .long)) ∈ gT := gT_i 1122 (by decide +kernel) rfl
theorem k_1290 : (Cond.methodLink R_law 19 yX10_feed) ∈ gT := gT_i 1290 (by decide +kernel) rfl
theorem k_1291 : (Cond.instanceMethod yX10_feed) ∈ gT := gT_i 1291 (by decide +kernel) rfl
theorem k_1292 : (Cond.selects RX10 yX10_feed yX10_feed) ∈ gT := gT_i 1292 (by decide +kernel) rfl
theorem k_1293 : (Cond.code yX10_feed cX10_feed 6 (some .int)) ∈ gT := gT_i 1293 (by decide +kernel) rfl
theorem k_1297 : (Cond.methodLink R_law 24 yX10_cut) ∈ gT := gT_i 1297 (by decide +kernel) rfl
theorem k_1298 : (Cond.instanceMethod yX10_cut) ∈ gT := gT_i 1298 (by decide +kernel) rfl
theorem k_1299 : (Cond.selects RX10 yX10_cut yX10_cut) ∈ gT := gT_i 1299 (by decide +kernel) rfl
theorem k_1300 : (Cond.code yX10_cut cX10_cut 3 (some .int)) ∈ gT := gT_i 1300 (by decide +kernel) rfl
theorem k_1301 : (Cond.methodLink R_law 29 yX10_read) ∈ gT := gT_i 1301 (by decide +kernel) rfl
theorem k_1302 : (Cond.instanceMethod yX10_read) ∈ gT := gT_i 1302 (by decide +kernel) rfl
theorem k_1303 : (Cond.selects RX10 yX10_read yX10_read) ∈ gT := gT_i 1303 (by decide +kernel) rfl
theorem k_1304 : (Cond.code yX10_read cX10_read 4 (some .int)) ∈ gT := gT_i 1304 (by decide +kernel) rfl
theorem k_1360 : (Cond.methodLink R_law 33 yX10_length) ∈ gT := gT_i 1360 (by decide +kernel) rfl
theorem k_1361 : (Cond.instanceMethod yX10_length) ∈ gT := gT_i 1361 (by decide +kernel) rfl
theorem k_1362 : (Cond.selects RX10 yX10_length yX10_length) ∈ gT := gT_i 1362 (by decide +kernel) rfl
theorem k_1363 : (Cond.code yX10_length cX10_length 3 (some .int)) ∈ gT := gT_i 1363 (by decide +kernel) rfl
theorem k_1364 : (Cond.methodLink R_law 38 yX10_element) ∈ gT := gT_i 1364 (by decide +kernel) rfl
theorem k_1365 : (Cond.instanceMethod yX10_element) ∈ gT := gT_i 1365 (by decide +kernel) rfl
theorem k_1366 : (Cond.selects RX10 yX10_element yX10_element) ∈ gT := gT_i 1366 (by decide +kernel) rfl
theorem k_1367 : (Cond.code yX10_element cX10_element 3 (some .int)) ∈ gT := gT_i 1367 (by decide +kernel) rfl
theorem k_1376 : (Cond.methodLink R_law 43 yX10_rowByte) ∈ gT := gT_i 1376 (by decide +kernel) rfl
theorem k_1377 : (Cond.instanceMethod yX10_rowByte) ∈ gT := gT_i 1377 (by decide +kernel) rfl
theorem k_1378 : (Cond.selects RX10 yX10_rowByte yX10_rowByte) ∈ gT := gT_i 1378 (by decide +kernel) rfl
theorem k_1379 : (Cond.code yX10_rowByte cX10_rowByte 6 (some .int)) ∈ gT := gT_i 1379 (by decide +kernel) rfl
theorem k_1380 : (Cond.methodLink R_law 47 yX10_pages) ∈ gT := gT_i 1380 (by decide +kernel) rfl
theorem k_1416 : (Cond.methodLink R_law 51 yX10_cost) ∈ gT := gT_i 1416 (by decide +kernel) rfl
theorem k_1417 : (Cond.instanceMethod yX10_cost) ∈ gT := gT_i 1417 (by decide +kernel) rfl
theorem k_1418 : (Cond.selects RX10 yX10_cost yX10_cost) ∈ gT := gT_i 1418 (by decide +kernel) rfl
theorem k_1419 : (Cond.code yX10_cost cX10_cost 1 (some .int)) ∈ gT := gT_i 1419 (by decide +kernel) rfl
theorem k_1420 : (Cond.methodLink R_law 55 yX10_page) ∈ gT := gT_i 1420 (by decide +kernel) rfl
theorem k_1421 : (Cond.instanceMethod yX10_page) ∈ gT := gT_i 1421 (by decide +kernel) rfl
theorem k_1422 : (Cond.selects RX10 yX10_page yX10_page) ∈ gT := gT_i 1422 (by decide +kernel) rfl
theorem k_1423 : (Cond.code yX10_page cX10_page 7 (some .int)) ∈ gT := gT_i 1423 (by decide +kernel) rfl
theorem k_1428 : (Cond.methodLink R_law 63 yX10_strike) ∈ gT := gT_i 1428 (by decide +kernel) rfl
theorem k_1429 : (Cond.instanceMethod yX10_strike) ∈ gT := gT_i 1429 (by decide +kernel) rfl
theorem k_1430 : (Cond.selects RX10 yX10_strike yX10_strike) ∈ gT := gT_i 1430 (by decide +kernel) rfl
theorem k_1431 : (Cond.code yX10_strike cX10_strike 4 (some .int)) ∈ gT := gT_i 1431 (by decide +kernel) rfl
theorem k_1432 : (Cond.methodLink R_law 67 yX10_insert) ∈ gT := gT_i 1432 (by decide +kernel) rfl
theorem k_1433 : (Cond.instanceMethod yX10_insert) ∈ gT := gT_i 1433 (by decide +kernel) rfl
theorem k_1434 : (Cond.selects RX10 yX10_insert yX10_insert) ∈ gT := gT_i 1434 (by decide +kernel) rfl
theorem k_1435 : (Cond.code yX10_insert cX10_insert 6 (some .int)) ∈ gT := gT_i 1435 (by decide +kernel) rfl
theorem k_1456 : (Cond.methodLink R_law 71 yX10_sheets) ∈ gT := gT_i 1456 (by decide +kernel) rfl
theorem k_1457 : (Cond.instanceMethod yX10_sheets) ∈ gT := gT_i 1457 (by decide +kernel) rfl
theorem k_1458 : (Cond.selects RX10 yX10_sheets yX10_sheets) ∈ gT := gT_i 1458 (by decide +kernel) rfl
theorem k_1459 : (Cond.code yX10_sheets cX10_sheets 2 (some .int)) ∈ gT := gT_i 1459 (by decide +kernel) rfl
theorem k_1464 : (Cond.methodLink R_law 75 yX10_sheet) ∈ gT := gT_i 1464 (by decide +kernel) rfl
theorem k_1465 : (Cond.instanceMethod yX10_sheet) ∈ gT := gT_i 1465 (by decide +kernel) rfl
theorem k_1466 : (Cond.selects RX10 yX10_sheet yX10_sheet) ∈ gT := gT_i 1466 (by decide +kernel) rfl
theorem k_1467 : (Cond.code yX10_sheet cX10_sheet 4 (some .int)) ∈ gT := gT_i 1467 (by decide +kernel) rfl
theorem k_1472 : (Cond.methodLink R_law 79 yX10_where) ∈ gT := gT_i 1472 (by decide +kernel) rfl
theorem k_1473 : (Cond.instanceMethod yX10_where) ∈ gT := gT_i 1473 (by decide +kernel) rfl
theorem k_1474 : (Cond.selects RX10 yX10_where yX10_where) ∈ gT := gT_i 1474 (by decide +kernel) rfl
theorem k_1475 : (Cond.code yX10_where cX10_where 7 (some .int)) ∈ gT := gT_i 1475 (by decide +kernel) rfl
theorem k_1476 : (Cond.methodLink R_law 83 yX10_merge) ∈ gT := gT_i 1476 (by decide +kernel) rfl
theorem k_1477 : (Cond.instanceMethod yX10_merge) ∈ gT := gT_i 1477 (by decide +kernel) rfl
theorem k_1478 : (Cond.selects RX10 yX10_merge yX10_merge) ∈ gT := gT_i 1478 (by decide +kernel) rfl
theorem k_1479 : (Cond.code yX10_merge cX10_merge 4 (some .int)) ∈ gT := gT_i 1479 (by decide +kernel) rfl
theorem k_1480 : (Cond.methodLink R_law 87 yX10_scenes) ∈ gT := gT_i 1480 (by decide +kernel) rfl
theorem k_1492 : (Cond.methodLink R_law 91 yX10_scene) ∈ gT := gT_i 1492 (by decide +kernel) rfl
theorem k_1493 : (Cond.instanceMethod yX10_scene) ∈ gT := gT_i 1493 (by decide +kernel) rfl
theorem k_1494 : (Cond.selects RX10 yX10_scene yX10_scene) ∈ gT := gT_i 1494 (by decide +kernel) rfl
theorem k_1495 : (Cond.code yX10_scene cX10_scene 3 (some .int)) ∈ gT := gT_i 1495 (by decide +kernel) rfl
theorem k_1517 : (Cond.methodLink R_law 95 yX10_who) ∈ gT := gT_i 1517 (by decide +kernel) rfl
theorem k_1518 : (Cond.instanceMethod yX10_who) ∈ gT := gT_i 1518 (by decide +kernel) rfl
theorem k_1519 : (Cond.selects RX10 yX10_who yX10_who) ∈ gT := gT_i 1519 (by decide +kernel) rfl
theorem k_1520 : (Cond.code yX10_who cX10_who 3 (some .int)) ∈ gT := gT_i 1520 (by decide +kernel) rfl
theorem k_1521 : (Cond.methodLink R_law 99 yX10_parts) ∈ gT := gT_i 1521 (by decide +kernel) rfl
theorem k_1522 : (Cond.instanceMethod yX10_parts) ∈ gT := gT_i 1522 (by decide +kernel) rfl
theorem k_1523 : (Cond.selects RX10 yX10_parts yX10_parts) ∈ gT := gT_i 1523 (by decide +kernel) rfl
theorem k_1524 : (Cond.code yX10_parts cX10_parts 7 (some .int)) ∈ gT := gT_i 1524 (by decide +kernel) rfl
theorem k_1525 : (Cond.methodLink R_law 103 yX10_count) ∈ gT := gT_i 1525 (by decide +kernel) rfl
theorem k_1529 : (Cond.methodLink R_law 108 yX10_digest) ∈ gT := gT_i 1529 (by decide +kernel) rfl
theorem k_1530 : (Cond.instanceMethod yX10_digest) ∈ gT := gT_i 1530 (by decide +kernel) rfl
theorem k_1531 : (Cond.selects RX10 yX10_digest yX10_digest) ∈ gT := gT_i 1531 (by decide +kernel) rfl
theorem k_1532 : (Cond.code yX10_digest cX10_digest 7 (some .long)) ∈ gT := gT_i 1532 (by decide +kernel) rfl
theorem k_1537 : (Cond.constantLong R_law 13 (4294967295)) ∈ gT := gT_i 1537 (by decide +kernel) rfl
theorem dL_law_136 : decode cL_law 136 = .ok (.aload_n 1, 1) := by decide +kernel
theorem dL_law_137 : decode cL_law 137 = .ok (.aload_n 0, 1) := by decide +kernel
theorem dL_law_138 : decode cL_law 138 = .ok (.iload_n 3, 1) := by decide +kernel
theorem dL_law_139 : decode cL_law 139 = .ok (.iconst 1, 1) := by decide +kernel
theorem dL_law_140 : decode cL_law 140 = .ok (.iadd, 1) := by decide +kernel
theorem dL_law_141 : decode cL_law 141 = .ok (.iaload, 1) := by decide +kernel
theorem dL_law_142 : decode cL_law 142 = .ok (.i2l, 1) := by decide +kernel
theorem dL_law_143 : decode cL_law 143 = .ok (.bipush 32, 2) := by decide +kernel
theorem dL_law_145 : decode cL_law 145 = .ok (.lshl, 1) := by decide +kernel
theorem dL_law_146 : decode cL_law 146 = .ok (.aload_n 0, 1) := by decide +kernel
theorem dL_law_147 : decode cL_law 147 = .ok (.iload_n 3, 1) := by decide +kernel
theorem dL_law_148 : decode cL_law 148 = .ok (.iconst 2, 1) := by decide +kernel
theorem dL_law_149 : decode cL_law 149 = .ok (.iadd, 1) := by decide +kernel
theorem dL_law_150 : decode cL_law 150 = .ok (.iaload, 1) := by decide +kernel
theorem dL_law_151 : decode cL_law 151 = .ok (.i2l, 1) := by decide +kernel
theorem dL_law_152 : decode cL_law 152 = .ok (.ldc2_w 13, 3) := by decide +kernel
theorem dL_law_155 : decode cL_law 155 = .ok (.land, 1) := by decide +kernel
theorem dL_law_156 : decode cL_law 156 = .ok (.lor, 1) := by decide +kernel
theorem dL_law_157 : decode cL_law 157 = .ok (.aload_n 0, 1) := by decide +kernel
theorem dL_law_158 : decode cL_law 158 = .ok (.iload_n 3, 1) := by decide +kernel
theorem dL_law_159 : decode cL_law 159 = .ok (.iconst 3, 1) := by decide +kernel
theorem dL_law_160 : decode cL_law 160 = .ok (.iadd, 1) := by decide +kernel
theorem dL_law_161 : decode cL_law 161 = .ok (.iaload, 1) := by decide +kernel
theorem dL_law_162 : decode cL_law 162 = .ok (.invokevirtual 15, 3) := by decide +kernel
theorem dL_law_165 : decode cL_law 165 = .ok (.pop, 1) := by decide +kernel
theorem dL_law_166 : decode cL_law 166 = .ok (.aload_n 2, 1) := by decide +kernel
theorem dL_law_167 : decode cL_law 167 = .ok (.aload_n 0, 1) := by decide +kernel
theorem dL_law_168 : decode cL_law 168 = .ok (.iload_n 3, 1) := by decide +kernel
theorem dL_law_169 : decode cL_law 169 = .ok (.iconst 1, 1) := by decide +kernel
theorem dL_law_170 : decode cL_law 170 = .ok (.iadd, 1) := by decide +kernel
theorem dL_law_171 : decode cL_law 171 = .ok (.iaload, 1) := by decide +kernel
theorem dL_law_172 : decode cL_law 172 = .ok (.i2l, 1) := by decide +kernel
theorem dL_law_173 : decode cL_law 173 = .ok (.bipush 32, 2) := by decide +kernel
theorem dL_law_175 : decode cL_law 175 = .ok (.lshl, 1) := by decide +kernel
theorem dL_law_176 : decode cL_law 176 = .ok (.aload_n 0, 1) := by decide +kernel
theorem dL_law_177 : decode cL_law 177 = .ok (.iload_n 3, 1) := by decide +kernel
theorem dL_law_178 : decode cL_law 178 = .ok (.iconst 2, 1) := by decide +kernel
theorem dL_law_179 : decode cL_law 179 = .ok (.iadd, 1) := by decide +kernel
theorem dL_law_180 : decode cL_law 180 = .ok (.iaload, 1) := by decide +kernel
theorem dL_law_181 : decode cL_law 181 = .ok (.i2l, 1) := by decide +kernel
theorem dL_law_182 : decode cL_law 182 = .ok (.ldc2_w 13, 3) := by decide +kernel
theorem dL_law_185 : decode cL_law 185 = .ok (.land, 1) := by decide +kernel
theorem dL_law_186 : decode cL_law 186 = .ok (.lor, 1) := by decide +kernel
theorem dL_law_187 : decode cL_law 187 = .ok (.aload_n 0, 1) := by decide +kernel
theorem dL_law_188 : decode cL_law 188 = .ok (.iload_n 3, 1) := by decide +kernel
theorem dL_law_189 : decode cL_law 189 = .ok (.iconst 3, 1) := by decide +kernel
theorem dL_law_190 : decode cL_law 190 = .ok (.iadd, 1) := by decide +kernel
theorem dL_law_191 : decode cL_law 191 = .ok (.iaload, 1) := by decide +kernel
theorem dL_law_192 : decode cL_law 192 = .ok (.invokevirtual 19, 3) := by decide +kernel
theorem dL_law_195 : decode cL_law 195 = .ok (.pop, 1) := by decide +kernel
theorem dL_law_196 : decode cL_law 196 = .ok (.goto 506, 3) := by decide +kernel
theorem dL_law_199 : decode cL_law 199 = .ok (.aload_n 1, 1) := by decide +kernel
theorem dL_law_200 : decode cL_law 200 = .ok (.aload_n 0, 1) := by decide +kernel
theorem dL_law_201 : decode cL_law 201 = .ok (.iload_n 3, 1) := by decide +kernel
theorem dL_law_202 : decode cL_law 202 = .ok (.iconst 1, 1) := by decide +kernel
theorem dL_law_203 : decode cL_law 203 = .ok (.iadd, 1) := by decide +kernel
theorem dL_law_204 : decode cL_law 204 = .ok (.iaload, 1) := by decide +kernel
theorem dL_law_205 : decode cL_law 205 = .ok (.invokevirtual 20, 3) := by decide +kernel
theorem dL_law_208 : decode cL_law 208 = .ok (.pop, 1) := by decide +kernel
theorem dL_law_209 : decode cL_law 209 = .ok (.aload_n 2, 1) := by decide +kernel
theorem dL_law_210 : decode cL_law 210 = .ok (.aload_n 0, 1) := by decide +kernel
theorem dL_law_211 : decode cL_law 211 = .ok (.iload_n 3, 1) := by decide +kernel
theorem dL_law_212 : decode cL_law 212 = .ok (.iconst 1, 1) := by decide +kernel
theorem dL_law_213 : decode cL_law 213 = .ok (.iadd, 1) := by decide +kernel
theorem dL_law_214 : decode cL_law 214 = .ok (.iaload, 1) := by decide +kernel
theorem dL_law_215 : decode cL_law 215 = .ok (.invokevirtual 24, 3) := by decide +kernel
theorem dL_law_218 : decode cL_law 218 = .ok (.pop, 1) := by decide +kernel
theorem dL_law_219 : decode cL_law 219 = .ok (.goto 483, 3) := by decide +kernel
theorem dL_law_222 : decode cL_law 222 = .ok (.aload_n 1, 1) := by decide +kernel
theorem dL_law_223 : decode cL_law 223 = .ok (.invokevirtual 25, 3) := by decide +kernel
theorem dL_law_226 : decode cL_law 226 = .ok (.pop, 1) := by decide +kernel
theorem dL_law_227 : decode cL_law 227 = .ok (.aload_n 2, 1) := by decide +kernel
theorem dL_law_228 : decode cL_law 228 = .ok (.invokevirtual 29, 3) := by decide +kernel
theorem dL_law_231 : decode cL_law 231 = .ok (.pop, 1) := by decide +kernel
theorem dL_law_232 : decode cL_law 232 = .ok (.goto 470, 3) := by decide +kernel
theorem dL_law_235 : decode cL_law 235 = .ok (.aload_n 1, 1) := by decide +kernel
theorem dL_law_236 : decode cL_law 236 = .ok (.aload_n 0, 1) := by decide +kernel
theorem dL_law_237 : decode cL_law 237 = .ok (.iload_n 3, 1) := by decide +kernel
theorem dL_law_238 : decode cL_law 238 = .ok (.iconst 1, 1) := by decide +kernel
theorem dL_law_239 : decode cL_law 239 = .ok (.iadd, 1) := by decide +kernel
theorem dL_law_240 : decode cL_law 240 = .ok (.iaload, 1) := by decide +kernel
theorem dL_law_241 : decode cL_law 241 = .ok (.invokevirtual 30, 3) := by decide +kernel
theorem dL_law_244 : decode cL_law 244 = .ok (.pop, 1) := by decide +kernel
theorem dL_law_245 : decode cL_law 245 = .ok (.aload_n 2, 1) := by decide +kernel
theorem dL_law_246 : decode cL_law 246 = .ok (.aload_n 0, 1) := by decide +kernel
theorem dL_law_247 : decode cL_law 247 = .ok (.iload_n 3, 1) := by decide +kernel
theorem dL_law_248 : decode cL_law 248 = .ok (.iconst 1, 1) := by decide +kernel
theorem dL_law_249 : decode cL_law 249 = .ok (.iadd, 1) := by decide +kernel
theorem dL_law_250 : decode cL_law 250 = .ok (.iaload, 1) := by decide +kernel
theorem dL_law_251 : decode cL_law 251 = .ok (.invokevirtual 33, 3) := by decide +kernel
theorem dL_law_254 : decode cL_law 254 = .ok (.pop, 1) := by decide +kernel
theorem dL_law_255 : decode cL_law 255 = .ok (.goto 447, 3) := by decide +kernel
theorem dL_law_258 : decode cL_law 258 = .ok (.aload_n 1, 1) := by decide +kernel
theorem dL_law_259 : decode cL_law 259 = .ok (.aload_n 0, 1) := by decide +kernel
theorem dL_law_260 : decode cL_law 260 = .ok (.iload_n 3, 1) := by decide +kernel
theorem dL_law_261 : decode cL_law 261 = .ok (.iconst 1, 1) := by decide +kernel
theorem dL_law_262 : decode cL_law 262 = .ok (.iadd, 1) := by decide +kernel
theorem dL_law_263 : decode cL_law 263 = .ok (.iaload, 1) := by decide +kernel
theorem dL_law_264 : decode cL_law 264 = .ok (.aload_n 0, 1) := by decide +kernel
theorem dL_law_265 : decode cL_law 265 = .ok (.iload_n 3, 1) := by decide +kernel
theorem dL_law_266 : decode cL_law 266 = .ok (.iconst 2, 1) := by decide +kernel
theorem dL_law_267 : decode cL_law 267 = .ok (.iadd, 1) := by decide +kernel
theorem dL_law_268 : decode cL_law 268 = .ok (.iaload, 1) := by decide +kernel
theorem dL_law_269 : decode cL_law 269 = .ok (.invokevirtual 34, 3) := by decide +kernel
theorem dL_law_272 : decode cL_law 272 = .ok (.pop, 1) := by decide +kernel
theorem dL_law_273 : decode cL_law 273 = .ok (.aload_n 2, 1) := by decide +kernel
theorem dL_law_274 : decode cL_law 274 = .ok (.aload_n 0, 1) := by decide +kernel
theorem dL_law_275 : decode cL_law 275 = .ok (.iload_n 3, 1) := by decide +kernel
theorem dL_law_276 : decode cL_law 276 = .ok (.iconst 1, 1) := by decide +kernel
theorem dL_law_277 : decode cL_law 277 = .ok (.iadd, 1) := by decide +kernel
theorem dL_law_278 : decode cL_law 278 = .ok (.iaload, 1) := by decide +kernel
theorem dL_law_279 : decode cL_law 279 = .ok (.aload_n 0, 1) := by decide +kernel
theorem dL_law_280 : decode cL_law 280 = .ok (.iload_n 3, 1) := by decide +kernel
theorem dL_law_281 : decode cL_law 281 = .ok (.iconst 2, 1) := by decide +kernel
theorem dL_law_282 : decode cL_law 282 = .ok (.iadd, 1) := by decide +kernel
theorem dL_law_283 : decode cL_law 283 = .ok (.iaload, 1) := by decide +kernel
theorem dL_law_284 : decode cL_law 284 = .ok (.invokevirtual 38, 3) := by decide +kernel
theorem dL_law_287 : decode cL_law 287 = .ok (.pop, 1) := by decide +kernel
theorem dL_law_288 : decode cL_law 288 = .ok (.goto 414, 3) := by decide +kernel
theorem dL_law_291 : decode cL_law 291 = .ok (.aload_n 1, 1) := by decide +kernel
theorem dL_law_292 : decode cL_law 292 = .ok (.aload_n 0, 1) := by decide +kernel
theorem dL_law_293 : decode cL_law 293 = .ok (.iload_n 3, 1) := by decide +kernel
theorem dL_law_294 : decode cL_law 294 = .ok (.iconst 1, 1) := by decide +kernel
theorem dL_law_295 : decode cL_law 295 = .ok (.iadd, 1) := by decide +kernel
theorem dL_law_296 : decode cL_law 296 = .ok (.iaload, 1) := by decide +kernel
theorem dL_law_297 : decode cL_law 297 = .ok (.aload_n 0, 1) := by decide +kernel
theorem dL_law_298 : decode cL_law 298 = .ok (.iload_n 3, 1) := by decide +kernel
theorem dL_law_299 : decode cL_law 299 = .ok (.iconst 2, 1) := by decide +kernel
theorem dL_law_300 : decode cL_law 300 = .ok (.iadd, 1) := by decide +kernel
theorem dL_law_301 : decode cL_law 301 = .ok (.iaload, 1) := by decide +kernel
theorem dL_law_302 : decode cL_law 302 = .ok (.aload_n 0, 1) := by decide +kernel
theorem dL_law_303 : decode cL_law 303 = .ok (.iload_n 3, 1) := by decide +kernel
theorem dL_law_304 : decode cL_law 304 = .ok (.iconst 3, 1) := by decide +kernel
theorem dL_law_305 : decode cL_law 305 = .ok (.iadd, 1) := by decide +kernel
theorem dL_law_306 : decode cL_law 306 = .ok (.iaload, 1) := by decide +kernel
theorem dL_law_307 : decode cL_law 307 = .ok (.invokevirtual 39, 3) := by decide +kernel
theorem dL_law_310 : decode cL_law 310 = .ok (.pop, 1) := by decide +kernel
theorem dL_law_311 : decode cL_law 311 = .ok (.aload_n 2, 1) := by decide +kernel
theorem dL_law_312 : decode cL_law 312 = .ok (.aload_n 0, 1) := by decide +kernel
theorem dL_law_313 : decode cL_law 313 = .ok (.iload_n 3, 1) := by decide +kernel
theorem dL_law_314 : decode cL_law 314 = .ok (.iconst 1, 1) := by decide +kernel
theorem dL_law_315 : decode cL_law 315 = .ok (.iadd, 1) := by decide +kernel
theorem dL_law_316 : decode cL_law 316 = .ok (.iaload, 1) := by decide +kernel
theorem dL_law_317 : decode cL_law 317 = .ok (.aload_n 0, 1) := by decide +kernel
theorem dL_law_318 : decode cL_law 318 = .ok (.iload_n 3, 1) := by decide +kernel
theorem dL_law_319 : decode cL_law 319 = .ok (.iconst 2, 1) := by decide +kernel
theorem dL_law_320 : decode cL_law 320 = .ok (.iadd, 1) := by decide +kernel
theorem dL_law_321 : decode cL_law 321 = .ok (.iaload, 1) := by decide +kernel
theorem dL_law_322 : decode cL_law 322 = .ok (.aload_n 0, 1) := by decide +kernel
theorem dL_law_323 : decode cL_law 323 = .ok (.iload_n 3, 1) := by decide +kernel
theorem dL_law_324 : decode cL_law 324 = .ok (.iconst 3, 1) := by decide +kernel
theorem dL_law_325 : decode cL_law 325 = .ok (.iadd, 1) := by decide +kernel
theorem dL_law_326 : decode cL_law 326 = .ok (.iaload, 1) := by decide +kernel
theorem dL_law_327 : decode cL_law 327 = .ok (.invokevirtual 43, 3) := by decide +kernel
theorem dL_law_330 : decode cL_law 330 = .ok (.pop, 1) := by decide +kernel
theorem dL_law_331 : decode cL_law 331 = .ok (.goto 371, 3) := by decide +kernel
theorem dL_law_334 : decode cL_law 334 = .ok (.aload_n 1, 1) := by decide +kernel
theorem dL_law_335 : decode cL_law 335 = .ok (.invokevirtual 44, 3) := by decide +kernel
theorem dL_law_338 : decode cL_law 338 = .ok (.pop, 1) := by decide +kernel
theorem dL_law_339 : decode cL_law 339 = .ok (.aload_n 2, 1) := by decide +kernel
theorem dL_law_340 : decode cL_law 340 = .ok (.invokevirtual 47, 3) := by decide +kernel
theorem dL_law_343 : decode cL_law 343 = .ok (.pop, 1) := by decide +kernel
theorem dL_law_344 : decode cL_law 344 = .ok (.goto 358, 3) := by decide +kernel
theorem dL_law_347 : decode cL_law 347 = .ok (.aload_n 1, 1) := by decide +kernel
theorem dL_law_348 : decode cL_law 348 = .ok (.invokevirtual 48, 3) := by decide +kernel
theorem dL_law_351 : decode cL_law 351 = .ok (.pop, 1) := by decide +kernel
theorem dL_law_352 : decode cL_law 352 = .ok (.aload_n 2, 1) := by decide +kernel
theorem dL_law_353 : decode cL_law 353 = .ok (.invokevirtual 51, 3) := by decide +kernel
theorem dL_law_356 : decode cL_law 356 = .ok (.pop, 1) := by decide +kernel
theorem dL_law_357 : decode cL_law 357 = .ok (.goto 345, 3) := by decide +kernel
theorem dL_law_360 : decode cL_law 360 = .ok (.aload_n 1, 1) := by decide +kernel
theorem dL_law_361 : decode cL_law 361 = .ok (.aload_n 0, 1) := by decide +kernel
theorem dL_law_362 : decode cL_law 362 = .ok (.iload_n 3, 1) := by decide +kernel
theorem dL_law_363 : decode cL_law 363 = .ok (.iconst 1, 1) := by decide +kernel
theorem dL_law_364 : decode cL_law 364 = .ok (.iadd, 1) := by decide +kernel
theorem dL_law_365 : decode cL_law 365 = .ok (.iaload, 1) := by decide +kernel
theorem dL_law_366 : decode cL_law 366 = .ok (.aload_n 0, 1) := by decide +kernel
theorem dL_law_367 : decode cL_law 367 = .ok (.iload_n 3, 1) := by decide +kernel
theorem dL_law_368 : decode cL_law 368 = .ok (.iconst 2, 1) := by decide +kernel
theorem dL_law_369 : decode cL_law 369 = .ok (.iadd, 1) := by decide +kernel
theorem dL_law_370 : decode cL_law 370 = .ok (.iaload, 1) := by decide +kernel
theorem dL_law_371 : decode cL_law 371 = .ok (.invokevirtual 52, 3) := by decide +kernel
theorem dL_law_374 : decode cL_law 374 = .ok (.pop, 1) := by decide +kernel
theorem dL_law_375 : decode cL_law 375 = .ok (.aload_n 2, 1) := by decide +kernel
theorem dL_law_376 : decode cL_law 376 = .ok (.aload_n 0, 1) := by decide +kernel
theorem dL_law_377 : decode cL_law 377 = .ok (.iload_n 3, 1) := by decide +kernel
theorem dL_law_378 : decode cL_law 378 = .ok (.iconst 1, 1) := by decide +kernel
theorem dL_law_379 : decode cL_law 379 = .ok (.iadd, 1) := by decide +kernel
theorem dL_law_380 : decode cL_law 380 = .ok (.iaload, 1) := by decide +kernel
theorem dL_law_381 : decode cL_law 381 = .ok (.aload_n 0, 1) := by decide +kernel
theorem dL_law_382 : decode cL_law 382 = .ok (.iload_n 3, 1) := by decide +kernel
theorem dL_law_383 : decode cL_law 383 = .ok (.iconst 2, 1) := by decide +kernel
theorem dL_law_384 : decode cL_law 384 = .ok (.iadd, 1) := by decide +kernel
theorem dL_law_385 : decode cL_law 385 = .ok (.iaload, 1) := by decide +kernel
theorem dL_law_386 : decode cL_law 386 = .ok (.invokevirtual 55, 3) := by decide +kernel
theorem dL_law_389 : decode cL_law 389 = .ok (.pop, 1) := by decide +kernel
theorem dL_law_390 : decode cL_law 390 = .ok (.goto 312, 3) := by decide +kernel
theorem dL_law_406 : decode cL_law 406 = .ok (.aload_n 1, 1) := by decide +kernel
theorem dL_law_407 : decode cL_law 407 = .ok (.aload_n 0, 1) := by decide +kernel
theorem dL_law_408 : decode cL_law 408 = .ok (.iload_n 3, 1) := by decide +kernel
theorem dL_law_409 : decode cL_law 409 = .ok (.iconst 1, 1) := by decide +kernel
theorem dL_law_410 : decode cL_law 410 = .ok (.iadd, 1) := by decide +kernel
theorem dL_law_411 : decode cL_law 411 = .ok (.iaload, 1) := by decide +kernel
theorem dL_law_412 : decode cL_law 412 = .ok (.invokevirtual 60, 3) := by decide +kernel
theorem dL_law_415 : decode cL_law 415 = .ok (.pop, 1) := by decide +kernel
theorem dL_law_416 : decode cL_law 416 = .ok (.aload_n 2, 1) := by decide +kernel
theorem dL_law_417 : decode cL_law 417 = .ok (.aload_n 0, 1) := by decide +kernel
theorem dL_law_418 : decode cL_law 418 = .ok (.iload_n 3, 1) := by decide +kernel
theorem dL_law_419 : decode cL_law 419 = .ok (.iconst 1, 1) := by decide +kernel
theorem dL_law_420 : decode cL_law 420 = .ok (.iadd, 1) := by decide +kernel
theorem dL_law_421 : decode cL_law 421 = .ok (.iaload, 1) := by decide +kernel
theorem dL_law_422 : decode cL_law 422 = .ok (.invokevirtual 63, 3) := by decide +kernel
theorem dL_law_425 : decode cL_law 425 = .ok (.pop, 1) := by decide +kernel
theorem dL_law_426 : decode cL_law 426 = .ok (.goto 276, 3) := by decide +kernel
theorem dL_law_429 : decode cL_law 429 = .ok (.aload_n 1, 1) := by decide +kernel
theorem dL_law_430 : decode cL_law 430 = .ok (.aload_n 0, 1) := by decide +kernel
theorem dL_law_431 : decode cL_law 431 = .ok (.iload_n 3, 1) := by decide +kernel
theorem dL_law_432 : decode cL_law 432 = .ok (.iconst 1, 1) := by decide +kernel
theorem dL_law_433 : decode cL_law 433 = .ok (.iadd, 1) := by decide +kernel
theorem dL_law_434 : decode cL_law 434 = .ok (.iaload, 1) := by decide +kernel
theorem dL_law_435 : decode cL_law 435 = .ok (.aload_n 0, 1) := by decide +kernel
theorem dL_law_436 : decode cL_law 436 = .ok (.iload_n 3, 1) := by decide +kernel
theorem dL_law_437 : decode cL_law 437 = .ok (.iconst 2, 1) := by decide +kernel
theorem dL_law_438 : decode cL_law 438 = .ok (.iadd, 1) := by decide +kernel
theorem dL_law_439 : decode cL_law 439 = .ok (.iaload, 1) := by decide +kernel
theorem dL_law_440 : decode cL_law 440 = .ok (.invokevirtual 64, 3) := by decide +kernel
theorem dL_law_443 : decode cL_law 443 = .ok (.pop, 1) := by decide +kernel
theorem dL_law_444 : decode cL_law 444 = .ok (.aload_n 2, 1) := by decide +kernel
theorem dL_law_445 : decode cL_law 445 = .ok (.aload_n 0, 1) := by decide +kernel
theorem dL_law_446 : decode cL_law 446 = .ok (.iload_n 3, 1) := by decide +kernel
theorem dL_law_447 : decode cL_law 447 = .ok (.iconst 1, 1) := by decide +kernel
theorem dL_law_448 : decode cL_law 448 = .ok (.iadd, 1) := by decide +kernel
theorem dL_law_449 : decode cL_law 449 = .ok (.iaload, 1) := by decide +kernel
theorem dL_law_450 : decode cL_law 450 = .ok (.aload_n 0, 1) := by decide +kernel
theorem dL_law_451 : decode cL_law 451 = .ok (.iload_n 3, 1) := by decide +kernel
theorem dL_law_452 : decode cL_law 452 = .ok (.iconst 2, 1) := by decide +kernel
theorem dL_law_453 : decode cL_law 453 = .ok (.iadd, 1) := by decide +kernel
theorem dL_law_454 : decode cL_law 454 = .ok (.iaload, 1) := by decide +kernel
theorem dL_law_455 : decode cL_law 455 = .ok (.invokevirtual 67, 3) := by decide +kernel
theorem dL_law_458 : decode cL_law 458 = .ok (.pop, 1) := by decide +kernel
theorem dL_law_459 : decode cL_law 459 = .ok (.goto 243, 3) := by decide +kernel
theorem dL_law_462 : decode cL_law 462 = .ok (.aload_n 1, 1) := by decide +kernel
theorem dL_law_463 : decode cL_law 463 = .ok (.aload_n 0, 1) := by decide +kernel
theorem dL_law_464 : decode cL_law 464 = .ok (.iload_n 3, 1) := by decide +kernel
theorem dL_law_465 : decode cL_law 465 = .ok (.iconst 1, 1) := by decide +kernel
theorem dL_law_466 : decode cL_law 466 = .ok (.iadd, 1) := by decide +kernel
theorem dL_law_467 : decode cL_law 467 = .ok (.iaload, 1) := by decide +kernel
theorem dL_law_468 : decode cL_law 468 = .ok (.invokevirtual 68, 3) := by decide +kernel
theorem dL_law_471 : decode cL_law 471 = .ok (.pop, 1) := by decide +kernel
theorem dL_law_472 : decode cL_law 472 = .ok (.aload_n 2, 1) := by decide +kernel
theorem dL_law_473 : decode cL_law 473 = .ok (.aload_n 0, 1) := by decide +kernel
theorem dL_law_474 : decode cL_law 474 = .ok (.iload_n 3, 1) := by decide +kernel
theorem dL_law_475 : decode cL_law 475 = .ok (.iconst 1, 1) := by decide +kernel
theorem dL_law_476 : decode cL_law 476 = .ok (.iadd, 1) := by decide +kernel
theorem dL_law_477 : decode cL_law 477 = .ok (.iaload, 1) := by decide +kernel
theorem dL_law_478 : decode cL_law 478 = .ok (.invokevirtual 71, 3) := by decide +kernel
theorem dL_law_481 : decode cL_law 481 = .ok (.pop, 1) := by decide +kernel
theorem dL_law_482 : decode cL_law 482 = .ok (.goto 220, 3) := by decide +kernel
theorem dL_law_485 : decode cL_law 485 = .ok (.aload_n 1, 1) := by decide +kernel
theorem dL_law_486 : decode cL_law 486 = .ok (.aload_n 0, 1) := by decide +kernel
theorem dL_law_487 : decode cL_law 487 = .ok (.iload_n 3, 1) := by decide +kernel
theorem dL_law_488 : decode cL_law 488 = .ok (.iconst 1, 1) := by decide +kernel
theorem dL_law_489 : decode cL_law 489 = .ok (.iadd, 1) := by decide +kernel
theorem dL_law_490 : decode cL_law 490 = .ok (.iaload, 1) := by decide +kernel
theorem dL_law_491 : decode cL_law 491 = .ok (.aload_n 0, 1) := by decide +kernel
theorem dL_law_492 : decode cL_law 492 = .ok (.iload_n 3, 1) := by decide +kernel
theorem dL_law_493 : decode cL_law 493 = .ok (.iconst 2, 1) := by decide +kernel
theorem dL_law_494 : decode cL_law 494 = .ok (.iadd, 1) := by decide +kernel
theorem dL_law_495 : decode cL_law 495 = .ok (.iaload, 1) := by decide +kernel
theorem dL_law_496 : decode cL_law 496 = .ok (.aload_n 0, 1) := by decide +kernel
theorem dL_law_497 : decode cL_law 497 = .ok (.iload_n 3, 1) := by decide +kernel
theorem dL_law_498 : decode cL_law 498 = .ok (.iconst 3, 1) := by decide +kernel
theorem dL_law_499 : decode cL_law 499 = .ok (.iadd, 1) := by decide +kernel
theorem dL_law_500 : decode cL_law 500 = .ok (.iaload, 1) := by decide +kernel
theorem dL_law_501 : decode cL_law 501 = .ok (.invokevirtual 72, 3) := by decide +kernel
theorem dL_law_504 : decode cL_law 504 = .ok (.pop, 1) := by decide +kernel
theorem dL_law_505 : decode cL_law 505 = .ok (.aload_n 2, 1) := by decide +kernel
theorem dL_law_506 : decode cL_law 506 = .ok (.aload_n 0, 1) := by decide +kernel
theorem dL_law_507 : decode cL_law 507 = .ok (.iload_n 3, 1) := by decide +kernel
theorem dL_law_508 : decode cL_law 508 = .ok (.iconst 1, 1) := by decide +kernel
theorem dL_law_509 : decode cL_law 509 = .ok (.iadd, 1) := by decide +kernel
theorem dL_law_510 : decode cL_law 510 = .ok (.iaload, 1) := by decide +kernel
theorem dL_law_511 : decode cL_law 511 = .ok (.aload_n 0, 1) := by decide +kernel
theorem dL_law_512 : decode cL_law 512 = .ok (.iload_n 3, 1) := by decide +kernel
theorem dL_law_513 : decode cL_law 513 = .ok (.iconst 2, 1) := by decide +kernel
theorem dL_law_514 : decode cL_law 514 = .ok (.iadd, 1) := by decide +kernel
theorem dL_law_515 : decode cL_law 515 = .ok (.iaload, 1) := by decide +kernel
theorem dL_law_516 : decode cL_law 516 = .ok (.aload_n 0, 1) := by decide +kernel
theorem dL_law_517 : decode cL_law 517 = .ok (.iload_n 3, 1) := by decide +kernel
theorem dL_law_518 : decode cL_law 518 = .ok (.iconst 3, 1) := by decide +kernel
theorem dL_law_519 : decode cL_law 519 = .ok (.iadd, 1) := by decide +kernel
theorem dL_law_520 : decode cL_law 520 = .ok (.iaload, 1) := by decide +kernel
theorem dL_law_521 : decode cL_law 521 = .ok (.invokevirtual 75, 3) := by decide +kernel
theorem dL_law_524 : decode cL_law 524 = .ok (.pop, 1) := by decide +kernel
theorem dL_law_525 : decode cL_law 525 = .ok (.goto 177, 3) := by decide +kernel
theorem dL_law_528 : decode cL_law 528 = .ok (.aload_n 1, 1) := by decide +kernel
theorem dL_law_529 : decode cL_law 529 = .ok (.aload_n 0, 1) := by decide +kernel
theorem dL_law_530 : decode cL_law 530 = .ok (.iload_n 3, 1) := by decide +kernel
theorem dL_law_531 : decode cL_law 531 = .ok (.iconst 1, 1) := by decide +kernel
theorem dL_law_532 : decode cL_law 532 = .ok (.iadd, 1) := by decide +kernel
theorem dL_law_533 : decode cL_law 533 = .ok (.iaload, 1) := by decide +kernel
theorem dL_law_534 : decode cL_law 534 = .ok (.invokevirtual 76, 3) := by decide +kernel
theorem dL_law_537 : decode cL_law 537 = .ok (.pop, 1) := by decide +kernel
theorem dL_law_538 : decode cL_law 538 = .ok (.aload_n 2, 1) := by decide +kernel
theorem dL_law_539 : decode cL_law 539 = .ok (.aload_n 0, 1) := by decide +kernel
theorem dL_law_540 : decode cL_law 540 = .ok (.iload_n 3, 1) := by decide +kernel
theorem dL_law_541 : decode cL_law 541 = .ok (.iconst 1, 1) := by decide +kernel
theorem dL_law_542 : decode cL_law 542 = .ok (.iadd, 1) := by decide +kernel
theorem dL_law_543 : decode cL_law 543 = .ok (.iaload, 1) := by decide +kernel
theorem dL_law_544 : decode cL_law 544 = .ok (.invokevirtual 79, 3) := by decide +kernel
theorem dL_law_547 : decode cL_law 547 = .ok (.pop, 1) := by decide +kernel
theorem dL_law_548 : decode cL_law 548 = .ok (.goto 154, 3) := by decide +kernel
theorem dL_law_551 : decode cL_law 551 = .ok (.aload_n 1, 1) := by decide +kernel
theorem dL_law_552 : decode cL_law 552 = .ok (.invokevirtual 80, 3) := by decide +kernel
theorem dL_law_555 : decode cL_law 555 = .ok (.pop, 1) := by decide +kernel
theorem dL_law_556 : decode cL_law 556 = .ok (.aload_n 2, 1) := by decide +kernel
theorem dL_law_557 : decode cL_law 557 = .ok (.invokevirtual 83, 3) := by decide +kernel
theorem dL_law_560 : decode cL_law 560 = .ok (.pop, 1) := by decide +kernel
theorem dL_law_561 : decode cL_law 561 = .ok (.goto 141, 3) := by decide +kernel
theorem dL_law_564 : decode cL_law 564 = .ok (.aload_n 1, 1) := by decide +kernel
theorem dL_law_565 : decode cL_law 565 = .ok (.invokevirtual 84, 3) := by decide +kernel
theorem dL_law_568 : decode cL_law 568 = .ok (.pop, 1) := by decide +kernel
theorem dL_law_569 : decode cL_law 569 = .ok (.aload_n 2, 1) := by decide +kernel
theorem dL_law_570 : decode cL_law 570 = .ok (.invokevirtual 87, 3) := by decide +kernel
theorem dL_law_573 : decode cL_law 573 = .ok (.pop, 1) := by decide +kernel
theorem dL_law_574 : decode cL_law 574 = .ok (.goto 128, 3) := by decide +kernel
theorem dL_law_577 : decode cL_law 577 = .ok (.aload_n 1, 1) := by decide +kernel
theorem dL_law_578 : decode cL_law 578 = .ok (.aload_n 0, 1) := by decide +kernel
theorem dL_law_579 : decode cL_law 579 = .ok (.iload_n 3, 1) := by decide +kernel
theorem dL_law_580 : decode cL_law 580 = .ok (.iconst 1, 1) := by decide +kernel
theorem dL_law_581 : decode cL_law 581 = .ok (.iadd, 1) := by decide +kernel
theorem dL_law_582 : decode cL_law 582 = .ok (.iaload, 1) := by decide +kernel
theorem dL_law_583 : decode cL_law 583 = .ok (.aload_n 0, 1) := by decide +kernel
theorem dL_law_584 : decode cL_law 584 = .ok (.iload_n 3, 1) := by decide +kernel
theorem dL_law_585 : decode cL_law 585 = .ok (.iconst 2, 1) := by decide +kernel
theorem dL_law_586 : decode cL_law 586 = .ok (.iadd, 1) := by decide +kernel
theorem dL_law_587 : decode cL_law 587 = .ok (.iaload, 1) := by decide +kernel
theorem dL_law_588 : decode cL_law 588 = .ok (.invokevirtual 88, 3) := by decide +kernel
theorem dL_law_591 : decode cL_law 591 = .ok (.pop, 1) := by decide +kernel
theorem dL_law_592 : decode cL_law 592 = .ok (.aload_n 2, 1) := by decide +kernel
theorem dL_law_593 : decode cL_law 593 = .ok (.aload_n 0, 1) := by decide +kernel
theorem dL_law_594 : decode cL_law 594 = .ok (.iload_n 3, 1) := by decide +kernel
theorem dL_law_595 : decode cL_law 595 = .ok (.iconst 1, 1) := by decide +kernel
theorem dL_law_596 : decode cL_law 596 = .ok (.iadd, 1) := by decide +kernel
theorem dL_law_597 : decode cL_law 597 = .ok (.iaload, 1) := by decide +kernel
theorem dL_law_598 : decode cL_law 598 = .ok (.aload_n 0, 1) := by decide +kernel
theorem dL_law_599 : decode cL_law 599 = .ok (.iload_n 3, 1) := by decide +kernel
theorem dL_law_600 : decode cL_law 600 = .ok (.iconst 2, 1) := by decide +kernel
theorem dL_law_601 : decode cL_law 601 = .ok (.iadd, 1) := by decide +kernel
theorem dL_law_602 : decode cL_law 602 = .ok (.iaload, 1) := by decide +kernel
theorem dL_law_603 : decode cL_law 603 = .ok (.invokevirtual 91, 3) := by decide +kernel
theorem dL_law_606 : decode cL_law 606 = .ok (.pop, 1) := by decide +kernel
theorem dL_law_607 : decode cL_law 607 = .ok (.goto 95, 3) := by decide +kernel
theorem dL_law_610 : decode cL_law 610 = .ok (.aload_n 1, 1) := by decide +kernel
theorem dL_law_611 : decode cL_law 611 = .ok (.aload_n 0, 1) := by decide +kernel
theorem dL_law_612 : decode cL_law 612 = .ok (.iload_n 3, 1) := by decide +kernel
theorem dL_law_613 : decode cL_law 613 = .ok (.iconst 1, 1) := by decide +kernel
theorem dL_law_614 : decode cL_law 614 = .ok (.iadd, 1) := by decide +kernel
theorem dL_law_615 : decode cL_law 615 = .ok (.iaload, 1) := by decide +kernel
theorem dL_law_616 : decode cL_law 616 = .ok (.aload_n 0, 1) := by decide +kernel
theorem dL_law_617 : decode cL_law 617 = .ok (.iload_n 3, 1) := by decide +kernel
theorem dL_law_618 : decode cL_law 618 = .ok (.iconst 2, 1) := by decide +kernel
theorem dL_law_619 : decode cL_law 619 = .ok (.iadd, 1) := by decide +kernel
theorem dL_law_620 : decode cL_law 620 = .ok (.iaload, 1) := by decide +kernel
theorem dL_law_621 : decode cL_law 621 = .ok (.invokevirtual 92, 3) := by decide +kernel
theorem dL_law_624 : decode cL_law 624 = .ok (.pop, 1) := by decide +kernel
theorem dL_law_625 : decode cL_law 625 = .ok (.aload_n 2, 1) := by decide +kernel
theorem dL_law_626 : decode cL_law 626 = .ok (.aload_n 0, 1) := by decide +kernel
theorem dL_law_627 : decode cL_law 627 = .ok (.iload_n 3, 1) := by decide +kernel
theorem dL_law_628 : decode cL_law 628 = .ok (.iconst 1, 1) := by decide +kernel
theorem dL_law_629 : decode cL_law 629 = .ok (.iadd, 1) := by decide +kernel
theorem dL_law_630 : decode cL_law 630 = .ok (.iaload, 1) := by decide +kernel
theorem dL_law_631 : decode cL_law 631 = .ok (.aload_n 0, 1) := by decide +kernel
theorem dL_law_632 : decode cL_law 632 = .ok (.iload_n 3, 1) := by decide +kernel
theorem dL_law_633 : decode cL_law 633 = .ok (.iconst 2, 1) := by decide +kernel
theorem dL_law_634 : decode cL_law 634 = .ok (.iadd, 1) := by decide +kernel
theorem dL_law_635 : decode cL_law 635 = .ok (.iaload, 1) := by decide +kernel
theorem dL_law_636 : decode cL_law 636 = .ok (.invokevirtual 95, 3) := by decide +kernel
theorem dL_law_639 : decode cL_law 639 = .ok (.pop, 1) := by decide +kernel
theorem dL_law_640 : decode cL_law 640 = .ok (.goto 62, 3) := by decide +kernel
theorem dL_law_643 : decode cL_law 643 = .ok (.aload_n 1, 1) := by decide +kernel
theorem dL_law_644 : decode cL_law 644 = .ok (.aload_n 0, 1) := by decide +kernel
theorem dL_law_645 : decode cL_law 645 = .ok (.iload_n 3, 1) := by decide +kernel
theorem dL_law_646 : decode cL_law 646 = .ok (.iconst 1, 1) := by decide +kernel
theorem dL_law_647 : decode cL_law 647 = .ok (.iadd, 1) := by decide +kernel
theorem dL_law_648 : decode cL_law 648 = .ok (.iaload, 1) := by decide +kernel
theorem dL_law_649 : decode cL_law 649 = .ok (.invokevirtual 96, 3) := by decide +kernel
theorem dL_law_652 : decode cL_law 652 = .ok (.pop, 1) := by decide +kernel
theorem dL_law_653 : decode cL_law 653 = .ok (.aload_n 2, 1) := by decide +kernel
theorem dL_law_654 : decode cL_law 654 = .ok (.aload_n 0, 1) := by decide +kernel
theorem dL_law_655 : decode cL_law 655 = .ok (.iload_n 3, 1) := by decide +kernel
theorem dL_law_656 : decode cL_law 656 = .ok (.iconst 1, 1) := by decide +kernel
theorem dL_law_657 : decode cL_law 657 = .ok (.iadd, 1) := by decide +kernel
theorem dL_law_658 : decode cL_law 658 = .ok (.iaload, 1) := by decide +kernel
theorem dL_law_659 : decode cL_law 659 = .ok (.invokevirtual 99, 3) := by decide +kernel
theorem dL_law_662 : decode cL_law 662 = .ok (.pop, 1) := by decide +kernel
theorem dL_law_663 : decode cL_law 663 = .ok (.goto 39, 3) := by decide +kernel
theorem dL_law_666 : decode cL_law 666 = .ok (.aload_n 1, 1) := by decide +kernel
theorem dL_law_667 : decode cL_law 667 = .ok (.aload_n 0, 1) := by decide +kernel
theorem dL_law_668 : decode cL_law 668 = .ok (.iload_n 3, 1) := by decide +kernel
theorem dL_law_669 : decode cL_law 669 = .ok (.iconst 1, 1) := by decide +kernel
theorem dL_law_670 : decode cL_law 670 = .ok (.iadd, 1) := by decide +kernel
theorem dL_law_671 : decode cL_law 671 = .ok (.iaload, 1) := by decide +kernel
theorem dL_law_672 : decode cL_law 672 = .ok (.invokevirtual 100, 3) := by decide +kernel
theorem dL_law_675 : decode cL_law 675 = .ok (.aload_n 2, 1) := by decide +kernel
theorem dL_law_676 : decode cL_law 676 = .ok (.aload_n 0, 1) := by decide +kernel
theorem dL_law_677 : decode cL_law 677 = .ok (.iload_n 3, 1) := by decide +kernel
theorem dL_law_678 : decode cL_law 678 = .ok (.iconst 1, 1) := by decide +kernel
theorem dL_law_679 : decode cL_law 679 = .ok (.iadd, 1) := by decide +kernel
theorem dL_law_680 : decode cL_law 680 = .ok (.iaload, 1) := by decide +kernel
theorem dL_law_681 : decode cL_law 681 = .ok (.invokevirtual 103, 3) := by decide +kernel
theorem dL_law_684 : decode cL_law 684 = .ok (.if_icmp .eq 18, 3) := by decide +kernel
theorem dL_law_689 : decode cL_law 689 = .ok (.aload_n 1, 1) := by decide +kernel
theorem dL_law_690 : decode cL_law 690 = .ok (.invokevirtual 104, 3) := by decide +kernel
theorem dL_law_693 : decode cL_law 693 = .ok (.pop2, 1) := by decide +kernel
theorem dL_law_694 : decode cL_law 694 = .ok (.aload_n 2, 1) := by decide +kernel
theorem dL_law_695 : decode cL_law 695 = .ok (.invokevirtual 108, 3) := by decide +kernel
theorem dL_law_698 : decode cL_law 698 = .ok (.pop2, 1) := by decide +kernel
theorem dL_law_699 : decode cL_law 699 = .ok (.goto 3, 3) := by decide +kernel
set_option maxHeartbeats 2000000 in
set_option maxRecDepth 100000 in
theorem lc_feed {p : Program} {l : Launch} {e : Env} {s : State} {m : MethodId} {below : List Frame} {meth : Method} {c : Code} {Q : State → Prop} {D : va_G} {A : Nat → Prop} {z : Nat → Nat} {cB cI_ cO cB2 cI2 cZ : ClassId} {dk h0 : Nat} {q : Nat → Nat} {b Ln i M rm cells slots : Nat} {xs : Nat → Int32} {H : Heap} {locs : List Loc} {ls : Array Slot} (hf : CallFix p m c cL_law 4 s #[Value.ref b] gT R_law) (hX : va_X b Ln xs s s.heap) (hbl : b < s.heap.size) (hbA : ¬ A b) (hA : ∀ q : Nat, s.heap.size ≤ q → A q) (hK1 : va_K D vcl (dT cB cI_ cO) s) (hK2 : va_K D vcl (mT cB2 cI2 cZ) s) (hZ : zA z A s s.heap) (hN : zB z s) (hi4 : i + 4 ≤ Ln) (hLn : Ln ≤ 2048) (hS : va_S A s.heap H locs) (hj : jS D A z cB cI_ cO dk h0 q cB2 cI2 cZ H M (rm + 1)) (hcc : cells + 1100 + 3 * (1000 - M) ≤ 600000) (hss : slots + 13800 + 6 * (1000 - M) ≤ 7302250) (hl : lv_has ls 4 [(3, .int (nI i)), (2, .ref h0), (1, .ref dk), (0, .ref b)])
    (kk : ∀ (M2 cells2 slots2 : Nat) (H : Heap) (locs : List Loc) (ls : Array Slot), M ≤ M2 → M2 ≤ 1000 → cells2 ≤ cells + 1100 + 3 * (M2 - M) → slots2 ≤ slots + 13800 + 6 * (M2 - M) → va_S A s.heap H locs → jS D A z cB cI_ cO dk h0 q cB2 cI2 cZ H M2 rm → lv_has ls 4 [(3, .int (nI i)), (2, .ref h0), (1, .ref dk), (0, .ref b)] → W p l e room_1 s m #[Value.ref b] below meth c H locs cells2 slots2 Q (F0 m 702 ls [])) : W p l e room_1 s m #[Value.ref b] below meth c H locs cells slots Q (F0 m 136 ls []) := by
  obtain ⟨hx, hb, hml, hown, hts⟩ := id hf
  have hy0 : i < Ln := by omega
  have hy1 : i + 1 < Ln := by omega
  have hy2 : i + 2 < Ln := by omega
  have hy3 : i + 3 < Ln := by omega
  have hLb : Ln < 2 ^ 31 := by omega
  obtain ⟨L, g, I, F, T, n, Es, sl, P, mo, lk, gs, hP1, hD1, hP2, hD2, hsep, hcS, hrS, hdI, hnm⟩ := hj
  refine lv_aload_n hx hb dL_law_136 rfl (lv_at hl 2 rfl) ?_
  refine lv_aload_n hx hb dL_law_137 rfl (lv_at hl 3 rfl) ?_
  refine lv_iload_n hx hb dL_law_138 rfl (lv_at hl 0 rfl) ?_
  refine lv_iconst (v := 1) hx hb dL_law_139 (by decide) ?_
  refine lv_iadd hx hb dL_law_140 ?_
  refine q_seti (y := nI (i + 1)) (nI_add i 1) ?_
  refine q_sld (X := i + 1) hx hb hX hbl hbA hS hy1 hLb dL_law_141 ?_
  refine lv_i2l (v := ((xs (i + 1))).toInt64) hx hb dL_law_142 rfl ?_
  refine lv_bipush (v := 32) hx hb dL_law_143 (by decide) ?_
  refine lv_lshl (v := ((((xs (i + 1))).toInt64) <<< ((32 : Int32).toInt64 &&& 63))) hx hb dL_law_145 rfl ?_
  refine lv_aload_n hx hb dL_law_146 rfl (lv_at hl 3 rfl) ?_
  refine lv_iload_n hx hb dL_law_147 rfl (lv_at hl 0 rfl) ?_
  refine lv_iconst (v := 2) hx hb dL_law_148 (by decide) ?_
  refine lv_iadd hx hb dL_law_149 ?_
  refine q_seti (y := nI (i + 2)) (nI_add i 2) ?_
  refine q_sld (X := i + 2) hx hb hX hbl hbA hS hy2 hLb dL_law_150 ?_
  refine lv_i2l (v := ((xs (i + 2))).toInt64) hx hb dL_law_151 rfl ?_
  refine lv_ldc2 (v := 4294967295) hx hb hown (hts _ k_1537) dL_law_152 ?_
  refine lv_land hx hb dL_law_155 ?_
  refine lv_lor hx hb dL_law_156 ?_
  refine lv_aload_n hx hb dL_law_157 rfl (lv_at hl 3 rfl) ?_
  refine lv_iload_n hx hb dL_law_158 rfl (lv_at hl 0 rfl) ?_
  refine lv_iconst (v := 3) hx hb dL_law_159 (by decide) ?_
  refine lv_iadd hx hb dL_law_160 ?_
  refine q_seti (y := nI (i + 3)) (nI_add i 3) ?_
  refine q_sld (X := i + 3) hx hb hX hbl hbA hS hy3 hLb dL_law_161 ?_
  obtain ⟨M2, fr, lo, mc, ms, hrb, hC⟩ := C_feed l D (((((xs (i + 1))).toInt64) <<< ((32 : Int32).toInt64 &&& 63)) ||| ((((xs (i + 2))).toInt64) &&& 4294967295)) (xs (i + 3)) hcS hdI
  obtain ⟨b1, b2, b3, b4, b5, b6⟩ := hrb
  obtain ⟨fs, h_dk⟩ := hcS.dk
  have hr5 := rm5 b1 b2 b5 hcc
  have hr6 := rm6 b1 b2 b6 hss
  have hq5 := rq5 (cells := cells) b5
  have hq6 := rq6 (slots := slots) b6
  refine q2_ci (k := cells + mc) (n := slots + ms) hP1 hD1 hP2 hsep hS hA (o_rV (As := [.long (((((xs (i + 1))).toInt64) <<< ((32 : Int32).toInt64 &&& 63)) ||| ((((xs (i + 2))).toInt64) &&& 4294967295)), .int (xs (i + 3))]) (rest := []) hf (hC _) k_469 k_466 k_467 k_468 k_84 (nA := 2) (by decide +kernel) ⟨show fr + 1 ≤ 13 from Nat.succ_le_succ b3, show 8 + (5 + 11) + lo ≤ 470 from rl9 (by decide) b4⟩ hK1 hP1 hD1 hS hA hZ hN h_dk rfl rfl rfl hl.1 rfl (Nat.le_of_ble_eq_true rfl) dL_law_162 ⟨show cells + mc ≤ 600000 from hr5, show slots + ms ≤ 7302250 from hr6⟩) (Nat.le_refl _) (Nat.le_refl _) (fun r1 u H locs hw _ hP1 hD1 hP2 hsep hS => ?_)
  obtain ⟨L, g, hw1, rfl⟩ := hw
  clear hcS h_dk hC
  refine lv_pop hx hb dL_law_165 rfl ?_
  refine lv_aload_n hx hb dL_law_166 rfl (lv_at hl 1 rfl) ?_
  refine lv_aload_n hx hb dL_law_167 rfl (lv_at hl 3 rfl) ?_
  refine lv_iload_n hx hb dL_law_168 rfl (lv_at hl 0 rfl) ?_
  refine lv_iconst (v := 1) hx hb dL_law_169 (by decide) ?_
  refine lv_iadd hx hb dL_law_170 ?_
  refine q_seti (y := nI (i + 1)) (nI_add i 1) ?_
  refine q_sld (X := i + 1) hx hb hX hbl hbA hS hy1 hLb dL_law_171 ?_
  refine lv_i2l (v := ((xs (i + 1))).toInt64) hx hb dL_law_172 rfl ?_
  refine lv_bipush (v := 32) hx hb dL_law_173 (by decide) ?_
  refine lv_lshl (v := ((((xs (i + 1))).toInt64) <<< ((32 : Int32).toInt64 &&& 63))) hx hb dL_law_175 rfl ?_
  refine lv_aload_n hx hb dL_law_176 rfl (lv_at hl 3 rfl) ?_
  refine lv_iload_n hx hb dL_law_177 rfl (lv_at hl 0 rfl) ?_
  refine lv_iconst (v := 2) hx hb dL_law_178 (by decide) ?_
  refine lv_iadd hx hb dL_law_179 ?_
  refine q_seti (y := nI (i + 2)) (nI_add i 2) ?_
  refine q_sld (X := i + 2) hx hb hX hbl hbA hS hy2 hLb dL_law_180 ?_
  refine lv_i2l (v := ((xs (i + 2))).toInt64) hx hb dL_law_181 rfl ?_
  refine lv_ldc2 (v := 4294967295) hx hb hown (hts _ k_1537) dL_law_182 ?_
  refine lv_land hx hb dL_law_185 ?_
  refine lv_lor hx hb dL_law_186 ?_
  refine lv_aload_n hx hb dL_law_187 rfl (lv_at hl 3 rfl) ?_
  refine lv_iload_n hx hb dL_law_188 rfl (lv_at hl 0 rfl) ?_
  refine lv_iconst (v := 3) hx hb dL_law_189 (by decide) ?_
  refine lv_iadd hx hb dL_law_190 ?_
  refine q_seti (y := nI (i + 3)) (nI_add i 3) ?_
  refine q_sld (X := i + 3) hx hb hX hbl hbA hS hy3 hLb dL_law_191 ?_
  refine q2_ci (k := cells + mc) (n := slots + ms) hP2 hD2 hP1 hsep.sy hS hA (q_rV (As := [.long (((((xs (i + 1))).toInt64) <<< ((32 : Int32).toInt64 &&& 63)) ||| ((((xs (i + 2))).toInt64) &&& 4294967295)), .int (xs (i + 3))]) (rest := []) hf (R_feed l D h0 q cB2 cI2 cZ (((((xs (i + 1))).toInt64) <<< ((32 : Int32).toInt64 &&& 63)) ||| ((((xs (i + 2))).toInt64) &&& 4294967295)) (xs (i + 3)) hrS hdI _) k_1293 k_1290 k_1291 k_1292 k_98 (nA := 2) (by decide +kernel) ⟨by decide, by decide⟩ hK2 hP2 (ci := 11) (q0 := 0) rfl rfl rfl hP2 hK2 hD2 (fun _ _ _ _ h => h) (fun _ _ _ => trivial) rfl hl.1 rfl (Nat.le_of_ble_eq_true rfl) dL_law_192 ⟨hr5, hr6⟩) (Nat.le_refl _) (Nat.le_refl _) (fun r2 u H locs hw2 _ hP2 hD2 hP1 hsep hS => ?_)
  replace hsep := hsep.sy
  refine lv_pop hx hb dL_law_195 rfl ?_
  refine lv_goto (tgt := 702) hx hb dL_law_196 (by decide) ?_
  obtain ⟨n1, T1, hc1, h1⟩ := hw1
  obtain ⟨n2, T2, I2, F2, hr2, h2, rfl⟩ := hw2
  obtain ⟨hE, e1, e2⟩ := fd_det h1 h2
  rw [e1, e2] at hc1
  exact kk M2 (cells + mc) (slots + ms) H locs ls b1 b2 hq5 hq6 hS ⟨L, g, I2, F2, T2, n2, Es, sl, P, mo, lk, gs, hP1, hD1, hP2, hD2, hsep, hc1, hr2, (fd_dI hdI h2), hnm⟩ (lv_sub hl (l' := [(3, .int (nI i)), (2, .ref h0), (1, .ref dk), (0, .ref b)]) [0, 1, 2, 3] rfl)
set_option maxHeartbeats 2000000 in
set_option maxRecDepth 100000 in
theorem lc_cut {p : Program} {l : Launch} {e : Env} {s : State} {m : MethodId} {below : List Frame} {meth : Method} {c : Code} {Q : State → Prop} {D : va_G} {A : Nat → Prop} {z : Nat → Nat} {cB cI_ cO cB2 cI2 cZ : ClassId} {dk h0 : Nat} {q : Nat → Nat} {b Ln i M rm cells slots : Nat} {xs : Nat → Int32} {H : Heap} {locs : List Loc} {ls : Array Slot} (hf : CallFix p m c cL_law 4 s #[Value.ref b] gT R_law) (hX : va_X b Ln xs s s.heap) (hbl : b < s.heap.size) (hbA : ¬ A b) (hA : ∀ q : Nat, s.heap.size ≤ q → A q) (hK1 : va_K D vcl (dT cB cI_ cO) s) (hK2 : va_K D vcl (mT cB2 cI2 cZ) s) (hZ : zA z A s s.heap) (hN : zB z s) (hi4 : i + 4 ≤ Ln) (hLn : Ln ≤ 2048) (hS : va_S A s.heap H locs) (hj : jS D A z cB cI_ cO dk h0 q cB2 cI2 cZ H M (rm + 1)) (hcc : cells + 1100 + 3 * (1000 - M) ≤ 600000) (hss : slots + 13800 + 6 * (1000 - M) ≤ 7302250) (hl : lv_has ls 4 [(3, .int (nI i)), (2, .ref h0), (1, .ref dk), (0, .ref b)])
    (kk : ∀ (M2 cells2 slots2 : Nat) (H : Heap) (locs : List Loc) (ls : Array Slot), M ≤ M2 → M2 ≤ 1000 → cells2 ≤ cells + 1100 + 3 * (M2 - M) → slots2 ≤ slots + 13800 + 6 * (M2 - M) → va_S A s.heap H locs → jS D A z cB cI_ cO dk h0 q cB2 cI2 cZ H M2 rm → lv_has ls 4 [(3, .int (nI i)), (2, .ref h0), (1, .ref dk), (0, .ref b)] → W p l e room_1 s m #[Value.ref b] below meth c H locs cells2 slots2 Q (F0 m 702 ls [])) : W p l e room_1 s m #[Value.ref b] below meth c H locs cells slots Q (F0 m 199 ls []) := by
  obtain ⟨hx, hb, hml, hown, hts⟩ := id hf
  have hy0 : i < Ln := by omega
  have hy1 : i + 1 < Ln := by omega
  have hy2 : i + 2 < Ln := by omega
  have hy3 : i + 3 < Ln := by omega
  have hLb : Ln < 2 ^ 31 := by omega
  obtain ⟨L, g, I, F, T, n, Es, sl, P, mo, lk, gs, hP1, hD1, hP2, hD2, hsep, hcS, hrS, hdI, hnm⟩ := hj
  refine lv_aload_n hx hb dL_law_199 rfl (lv_at hl 2 rfl) ?_
  refine lv_aload_n hx hb dL_law_200 rfl (lv_at hl 3 rfl) ?_
  refine lv_iload_n hx hb dL_law_201 rfl (lv_at hl 0 rfl) ?_
  refine lv_iconst (v := 1) hx hb dL_law_202 (by decide) ?_
  refine lv_iadd hx hb dL_law_203 ?_
  refine q_seti (y := nI (i + 1)) (nI_add i 1) ?_
  refine q_sld (X := i + 1) hx hb hX hbl hbA hS hy1 hLb dL_law_204 ?_
  obtain ⟨M2, fr, lo, mc, ms, hrb, hC⟩ := C_cut l D (xs (i + 1)) hcS hdI
  obtain ⟨b1, b2, b3, b4, b5, b6⟩ := hrb
  obtain ⟨fs, h_dk⟩ := hcS.dk
  have hr5 := rm5 b1 b2 b5 hcc
  have hr6 := rm6 b1 b2 b6 hss
  have hq5 := rq5 (cells := cells) b5
  have hq6 := rq6 (slots := slots) b6
  refine q2_ci (k := cells + mc) (n := slots + ms) hP1 hD1 hP2 hsep hS hA (o_rV (As := [.int (xs (i + 1))]) (rest := []) hf (hC _) k_485 k_482 k_483 k_484 k_84 (nA := 1) (by decide +kernel) ⟨show fr + 1 ≤ 13 from Nat.succ_le_succ b3, show 8 + (3 + 11) + lo ≤ 470 from rl9 (by decide) b4⟩ hK1 hP1 hD1 hS hA hZ hN h_dk rfl rfl rfl hl.1 rfl (Nat.le_of_ble_eq_true rfl) dL_law_205 ⟨show cells + mc ≤ 600000 from hr5, show slots + ms ≤ 7302250 from hr6⟩) (Nat.le_refl _) (Nat.le_refl _) (fun r1 u H locs hw _ hP1 hD1 hP2 hsep hS => ?_)
  obtain ⟨L, g, hw1, rfl⟩ := hw
  clear hcS h_dk hC
  refine lv_pop hx hb dL_law_208 rfl ?_
  refine lv_aload_n hx hb dL_law_209 rfl (lv_at hl 1 rfl) ?_
  refine lv_aload_n hx hb dL_law_210 rfl (lv_at hl 3 rfl) ?_
  refine lv_iload_n hx hb dL_law_211 rfl (lv_at hl 0 rfl) ?_
  refine lv_iconst (v := 1) hx hb dL_law_212 (by decide) ?_
  refine lv_iadd hx hb dL_law_213 ?_
  refine q_seti (y := nI (i + 1)) (nI_add i 1) ?_
  refine q_sld (X := i + 1) hx hb hX hbl hbA hS hy1 hLb dL_law_214 ?_
  refine q2_ci (k := cells + mc) (n := slots + ms) hP2 hD2 hP1 hsep.sy hS hA (q_rV (As := [.int (xs (i + 1))]) (rest := []) hf (R_cut l D h0 q cB2 cI2 cZ (xs (i + 1)) hrS hdI _) k_1300 k_1297 k_1298 k_1299 k_98 (nA := 1) (by decide +kernel) ⟨by decide, by decide⟩ hK2 hP2 (ci := 11) (q0 := 0) rfl rfl rfl hP2 hK2 hD2 (fun _ _ _ _ h => h) (fun _ _ _ => trivial) rfl hl.1 rfl (Nat.le_of_ble_eq_true rfl) dL_law_215 ⟨hr5, hr6⟩) (Nat.le_refl _) (Nat.le_refl _) (fun r2 u H locs hw2 _ hP2 hD2 hP1 hsep hS => ?_)
  replace hsep := hsep.sy
  refine lv_pop hx hb dL_law_218 rfl ?_
  refine lv_goto (tgt := 702) hx hb dL_law_219 (by decide) ?_
  obtain ⟨n1, hc1, h1⟩ := hw1
  obtain ⟨n2, I2, F2, hr2, h2, rfl⟩ := hw2
  obtain ⟨hE, en, hn2⟩ := ct_det hdI.1.1 h1 h2
  rw [en] at hc1
  exact kk M2 (cells + mc) (slots + ms) H locs ls b1 b2 hq5 hq6 hS ⟨L, g, I2, F2, T, n2, Es, sl, P, mo, lk, gs, hP1, hD1, hP2, hD2, hsep, hc1, hr2, (hdI.n2 (by have := hdI.1.1; omega) hdI.1.2.1 (by omega)), hnm⟩ (lv_sub hl (l' := [(3, .int (nI i)), (2, .ref h0), (1, .ref dk), (0, .ref b)]) [0, 1, 2, 3] rfl)
set_option maxHeartbeats 2000000 in
set_option maxRecDepth 100000 in
theorem lc_read {p : Program} {l : Launch} {e : Env} {s : State} {m : MethodId} {below : List Frame} {meth : Method} {c : Code} {Q : State → Prop} {D : va_G} {A : Nat → Prop} {z : Nat → Nat} {cB cI_ cO cB2 cI2 cZ : ClassId} {dk h0 : Nat} {q : Nat → Nat} {b Ln i M rm cells slots : Nat} {xs : Nat → Int32} {H : Heap} {locs : List Loc} {ls : Array Slot} (hf : CallFix p m c cL_law 4 s #[Value.ref b] gT R_law) (hX : va_X b Ln xs s s.heap) (hbl : b < s.heap.size) (hbA : ¬ A b) (hA : ∀ q : Nat, s.heap.size ≤ q → A q) (hK1 : va_K D vcl (dT cB cI_ cO) s) (hK2 : va_K D vcl (mT cB2 cI2 cZ) s) (hZ : zA z A s s.heap) (hN : zB z s) (hi4 : i + 4 ≤ Ln) (hLn : Ln ≤ 2048) (hS : va_S A s.heap H locs) (hj : jS D A z cB cI_ cO dk h0 q cB2 cI2 cZ H M (rm + 1)) (hcc : cells + 1100 + 3 * (1000 - M) ≤ 600000) (hss : slots + 13800 + 6 * (1000 - M) ≤ 7302250) (hl : lv_has ls 4 [(3, .int (nI i)), (2, .ref h0), (1, .ref dk), (0, .ref b)])
    (kk : ∀ (M2 cells2 slots2 : Nat) (H : Heap) (locs : List Loc) (ls : Array Slot), M ≤ M2 → M2 ≤ 1000 → cells2 ≤ cells + 1100 + 3 * (M2 - M) → slots2 ≤ slots + 13800 + 6 * (M2 - M) → va_S A s.heap H locs → jS D A z cB cI_ cO dk h0 q cB2 cI2 cZ H M2 rm → lv_has ls 4 [(3, .int (nI i)), (2, .ref h0), (1, .ref dk), (0, .ref b)] → W p l e room_1 s m #[Value.ref b] below meth c H locs cells2 slots2 Q (F0 m 702 ls [])) : W p l e room_1 s m #[Value.ref b] below meth c H locs cells slots Q (F0 m 222 ls []) := by
  obtain ⟨hx, hb, hml, hown, hts⟩ := id hf
  have hy0 : i < Ln := by omega
  have hy1 : i + 1 < Ln := by omega
  have hy2 : i + 2 < Ln := by omega
  have hy3 : i + 3 < Ln := by omega
  have hLb : Ln < 2 ^ 31 := by omega
  obtain ⟨L, g, I, F, T, n, Es, sl, P, mo, lk, gs, hP1, hD1, hP2, hD2, hsep, hcS, hrS, hdI, hnm⟩ := hj
  refine lv_aload_n hx hb dL_law_222 rfl (lv_at hl 2 rfl) ?_
  obtain ⟨M2, fr, lo, mc, ms, hrb, hC⟩ := C_read l D  hcS hdI
  obtain ⟨b1, b2, b3, b4, b5, b6⟩ := hrb
  obtain ⟨fs, h_dk⟩ := hcS.dk
  have hr5 := rm5 b1 b2 b5 hcc
  have hr6 := rm6 b1 b2 b6 hss
  have hq5 := rq5 (cells := cells) b5
  have hq6 := rq6 (slots := slots) b6
  refine q2_ci (k := cells + mc) (n := slots + ms) hP1 hD1 hP2 hsep hS hA (o_rV (As := []) (rest := []) hf (hC _) k_493 k_490 k_491 k_492 k_84 (nA := 0) (by decide +kernel) ⟨show fr + 1 ≤ 13 from Nat.succ_le_succ b3, show 8 + (1 + 11) + lo ≤ 470 from rl9 (by decide) b4⟩ hK1 hP1 hD1 hS hA hZ hN h_dk rfl rfl rfl hl.1 rfl (Nat.le_of_ble_eq_true rfl) dL_law_223 ⟨show cells + mc ≤ 600000 from hr5, show slots + ms ≤ 7302250 from hr6⟩) (Nat.le_refl _) (Nat.le_refl _) (fun r1 u H locs hw _ hP1 hD1 hP2 hsep hS => ?_)
  obtain ⟨L, g, hw1, rfl⟩ := hw
  clear hcS h_dk hC
  refine lv_pop hx hb dL_law_226 rfl ?_
  refine lv_aload_n hx hb dL_law_227 rfl (lv_at hl 1 rfl) ?_
  refine q2_ci (k := cells + mc) (n := slots + ms) hP2 hD2 hP1 hsep.sy hS hA (q_rV (As := []) (rest := []) hf (R_read l D h0 q cB2 cI2 cZ  hrS hdI _) k_1304 k_1301 k_1302 k_1303 k_98 (nA := 0) (by decide +kernel) ⟨by decide, by decide⟩ hK2 hP2 (ci := 11) (q0 := 0) rfl rfl rfl hP2 hK2 hD2 (fun _ _ _ _ h => h) (fun _ _ _ => trivial) rfl hl.1 rfl (Nat.le_of_ble_eq_true rfl) dL_law_228 ⟨hr5, hr6⟩) (Nat.le_refl _) (Nat.le_refl _) (fun r2 u H locs hw2 _ hP2 hD2 hP1 hsep hS => ?_)
  replace hsep := hsep.sy
  refine lv_pop hx hb dL_law_231 rfl ?_
  refine lv_goto (tgt := 702) hx hb dL_law_232 (by decide) ?_
  obtain ⟨I2, F2, h2, rfl⟩ := hw2
  rcases h2 with ⟨h2, hv2, hr2⟩ | ⟨h2, hv2, hr2⟩
  · rcases hw1 with ⟨_, hv1, hw1⟩ | ⟨h1, _⟩
    · exact kk M2 (cells + mc) (slots + ms) H locs ls b1 b2 hq5 hq6 hS ⟨L, g, I2, F2, T, n, Es, sl, P, mo, lk, gs, hP1, hD1, hP2, hD2, hsep, hw1, hr2, (hdI.dn (Nat.le_succ _)), hnm⟩ (lv_sub hl (l' := [(3, .int (nI i)), (2, .ref h0), (1, .ref dk), (0, .ref b)]) [0, 1, 2, 3] rfl)
    · exact absurd h2 (by omega)
  · rcases hw1 with ⟨h1, _⟩ | ⟨_, hv1, Es2, h3, h4, hw1⟩
    · exact absurd h1 (by omega)
    · exact kk M2 (cells + mc) (slots + ms) H locs ls b1 b2 hq5 hq6 hS ⟨L, g, I2, F2, T, 0, Es2, (fun e => e), (upP Es2 Es2.length), mo, 0, gs, hP1, hD1, hP2, hD2, hsep, hw1, (hr2 Es2 gs h3 h4), (rd_dI hdI h3 h2), (fun e he => (h4 e he).1)⟩ (lv_sub hl (l' := [(3, .int (nI i)), (2, .ref h0), (1, .ref dk), (0, .ref b)]) [0, 1, 2, 3] rfl)
set_option maxHeartbeats 2000000 in
set_option maxRecDepth 100000 in
theorem lc_length {p : Program} {l : Launch} {e : Env} {s : State} {m : MethodId} {below : List Frame} {meth : Method} {c : Code} {Q : State → Prop} {D : va_G} {A : Nat → Prop} {z : Nat → Nat} {cB cI_ cO cB2 cI2 cZ : ClassId} {dk h0 : Nat} {q : Nat → Nat} {b Ln i M rm cells slots : Nat} {xs : Nat → Int32} {H : Heap} {locs : List Loc} {ls : Array Slot} (hf : CallFix p m c cL_law 4 s #[Value.ref b] gT R_law) (hX : va_X b Ln xs s s.heap) (hbl : b < s.heap.size) (hbA : ¬ A b) (hA : ∀ q : Nat, s.heap.size ≤ q → A q) (hK1 : va_K D vcl (dT cB cI_ cO) s) (hK2 : va_K D vcl (mT cB2 cI2 cZ) s) (hZ : zA z A s s.heap) (hN : zB z s) (hi4 : i + 4 ≤ Ln) (hLn : Ln ≤ 2048) (hS : va_S A s.heap H locs) (hj : jS D A z cB cI_ cO dk h0 q cB2 cI2 cZ H M (rm + 1)) (hcc : cells + 1100 + 3 * (1000 - M) ≤ 600000) (hss : slots + 13800 + 6 * (1000 - M) ≤ 7302250) (hl : lv_has ls 4 [(3, .int (nI i)), (2, .ref h0), (1, .ref dk), (0, .ref b)])
    (kk : ∀ (M2 cells2 slots2 : Nat) (H : Heap) (locs : List Loc) (ls : Array Slot), M ≤ M2 → M2 ≤ 1000 → cells2 ≤ cells + 1100 + 3 * (M2 - M) → slots2 ≤ slots + 13800 + 6 * (M2 - M) → va_S A s.heap H locs → jS D A z cB cI_ cO dk h0 q cB2 cI2 cZ H M2 rm → lv_has ls 4 [(3, .int (nI i)), (2, .ref h0), (1, .ref dk), (0, .ref b)] → W p l e room_1 s m #[Value.ref b] below meth c H locs cells2 slots2 Q (F0 m 702 ls [])) : W p l e room_1 s m #[Value.ref b] below meth c H locs cells slots Q (F0 m 235 ls []) := by
  obtain ⟨hx, hb, hml, hown, hts⟩ := id hf
  have hy0 : i < Ln := by omega
  have hy1 : i + 1 < Ln := by omega
  have hy2 : i + 2 < Ln := by omega
  have hy3 : i + 3 < Ln := by omega
  have hLb : Ln < 2 ^ 31 := by omega
  obtain ⟨L, g, I, F, T, n, Es, sl, P, mo, lk, gs, hP1, hD1, hP2, hD2, hsep, hcS, hrS, hdI, hnm⟩ := hj
  refine lv_aload_n hx hb dL_law_235 rfl (lv_at hl 2 rfl) ?_
  refine lv_aload_n hx hb dL_law_236 rfl (lv_at hl 3 rfl) ?_
  refine lv_iload_n hx hb dL_law_237 rfl (lv_at hl 0 rfl) ?_
  refine lv_iconst (v := 1) hx hb dL_law_238 (by decide) ?_
  refine lv_iadd hx hb dL_law_239 ?_
  refine q_seti (y := nI (i + 1)) (nI_add i 1) ?_
  refine q_sld (X := i + 1) hx hb hX hbl hbA hS hy1 hLb dL_law_240 ?_
  obtain ⟨M2, fr, lo, mc, ms, hrb, hC⟩ := C_length l D (xs (i + 1)) hcS hdI
  obtain ⟨b1, b2, b3, b4, b5, b6⟩ := hrb
  obtain ⟨fs, h_dk⟩ := hcS.dk
  have hr5 := rm5 b1 b2 b5 hcc
  have hr6 := rm6 b1 b2 b6 hss
  have hq5 := rq5 (cells := cells) b5
  have hq6 := rq6 (slots := slots) b6
  refine q2_ci (k := cells + mc) (n := slots + ms) hP1 hD1 hP2 hsep hS hA (o_rV (As := [.int (xs (i + 1))]) (rest := []) hf (hC _) k_728 k_725 k_726 k_727 k_84 (nA := 1) (by decide +kernel) ⟨show fr + 1 ≤ 13 from Nat.succ_le_succ b3, show 8 + (3 + 11) + lo ≤ 470 from rl9 (by decide) b4⟩ hK1 hP1 hD1 hS hA hZ hN h_dk rfl rfl rfl hl.1 rfl (Nat.le_of_ble_eq_true rfl) dL_law_241 ⟨show cells + mc ≤ 600000 from hr5, show slots + ms ≤ 7302250 from hr6⟩) (Nat.le_refl _) (Nat.le_refl _) (fun r1 u H locs hw _ hP1 hD1 hP2 hsep hS => ?_)
  obtain ⟨L, g, hw1, rfl⟩ := hw
  clear hcS h_dk hC
  refine lv_pop hx hb dL_law_244 rfl ?_
  refine lv_aload_n hx hb dL_law_245 rfl (lv_at hl 1 rfl) ?_
  refine lv_aload_n hx hb dL_law_246 rfl (lv_at hl 3 rfl) ?_
  refine lv_iload_n hx hb dL_law_247 rfl (lv_at hl 0 rfl) ?_
  refine lv_iconst (v := 1) hx hb dL_law_248 (by decide) ?_
  refine lv_iadd hx hb dL_law_249 ?_
  refine q_seti (y := nI (i + 1)) (nI_add i 1) ?_
  refine q_sld (X := i + 1) hx hb hX hbl hbA hS hy1 hLb dL_law_250 ?_
  refine q2_ci (k := cells + mc) (n := slots + ms) hP2 hD2 hP1 hsep.sy hS hA (q_rV (As := [.int (xs (i + 1))]) (rest := []) hf (R_length l D h0 q cB2 cI2 cZ (xs (i + 1)) hrS hdI _) k_1363 k_1360 k_1361 k_1362 k_98 (nA := 1) (by decide +kernel) ⟨by decide, by decide⟩ hK2 hP2 (ci := 11) (q0 := 0) rfl rfl rfl hP2 hK2 hD2 (fun _ _ _ _ h => h) (fun _ _ _ => trivial) rfl hl.1 rfl (Nat.le_of_ble_eq_true rfl) dL_law_251 ⟨hr5, hr6⟩) (Nat.le_refl _) (Nat.le_refl _) (fun r2 u H locs hw2 _ hP2 hD2 hP1 hsep hS => ?_)
  replace hsep := hsep.sy
  refine lv_pop hx hb dL_law_254 rfl ?_
  refine lv_goto (tgt := 702) hx hb dL_law_255 (by decide) ?_
  obtain ⟨m1, hc1, h1⟩ := hw1
  obtain ⟨m2, I2, F2, hr2, h2, rfl⟩ := hw2
  obtain ⟨hE, e1⟩ := ln_det h1 h2
  rw [e1] at hc1
  exact kk M2 (cells + mc) (slots + ms) H locs ls b1 b2 hq5 hq6 hS ⟨L, g, I2, F2, T, n, Es, sl, P, m2, lk, gs, hP1, hD1, hP2, hD2, hsep, hc1, hr2, (ln_dI hdI h2), hnm⟩ (lv_sub hl (l' := [(3, .int (nI i)), (2, .ref h0), (1, .ref dk), (0, .ref b)]) [0, 1, 2, 3] rfl)
set_option maxHeartbeats 2000000 in
set_option maxRecDepth 100000 in
theorem lc_element {p : Program} {l : Launch} {e : Env} {s : State} {m : MethodId} {below : List Frame} {meth : Method} {c : Code} {Q : State → Prop} {D : va_G} {A : Nat → Prop} {z : Nat → Nat} {cB cI_ cO cB2 cI2 cZ : ClassId} {dk h0 : Nat} {q : Nat → Nat} {b Ln i M rm cells slots : Nat} {xs : Nat → Int32} {H : Heap} {locs : List Loc} {ls : Array Slot} (hf : CallFix p m c cL_law 4 s #[Value.ref b] gT R_law) (hX : va_X b Ln xs s s.heap) (hbl : b < s.heap.size) (hbA : ¬ A b) (hA : ∀ q : Nat, s.heap.size ≤ q → A q) (hK1 : va_K D vcl (dT cB cI_ cO) s) (hK2 : va_K D vcl (mT cB2 cI2 cZ) s) (hZ : zA z A s s.heap) (hN : zB z s) (hi4 : i + 4 ≤ Ln) (hLn : Ln ≤ 2048) (hS : va_S A s.heap H locs) (hj : jS D A z cB cI_ cO dk h0 q cB2 cI2 cZ H M (rm + 1)) (hcc : cells + 1100 + 3 * (1000 - M) ≤ 600000) (hss : slots + 13800 + 6 * (1000 - M) ≤ 7302250) (hl : lv_has ls 4 [(3, .int (nI i)), (2, .ref h0), (1, .ref dk), (0, .ref b)])
    (kk : ∀ (M2 cells2 slots2 : Nat) (H : Heap) (locs : List Loc) (ls : Array Slot), M ≤ M2 → M2 ≤ 1000 → cells2 ≤ cells + 1100 + 3 * (M2 - M) → slots2 ≤ slots + 13800 + 6 * (M2 - M) → va_S A s.heap H locs → jS D A z cB cI_ cO dk h0 q cB2 cI2 cZ H M2 rm → lv_has ls 4 [(3, .int (nI i)), (2, .ref h0), (1, .ref dk), (0, .ref b)] → W p l e room_1 s m #[Value.ref b] below meth c H locs cells2 slots2 Q (F0 m 702 ls [])) : W p l e room_1 s m #[Value.ref b] below meth c H locs cells slots Q (F0 m 258 ls []) := by
  obtain ⟨hx, hb, hml, hown, hts⟩ := id hf
  have hy0 : i < Ln := by omega
  have hy1 : i + 1 < Ln := by omega
  have hy2 : i + 2 < Ln := by omega
  have hy3 : i + 3 < Ln := by omega
  have hLb : Ln < 2 ^ 31 := by omega
  obtain ⟨L, g, I, F, T, n, Es, sl, P, mo, lk, gs, hP1, hD1, hP2, hD2, hsep, hcS, hrS, hdI, hnm⟩ := hj
  refine lv_aload_n hx hb dL_law_258 rfl (lv_at hl 2 rfl) ?_
  refine lv_aload_n hx hb dL_law_259 rfl (lv_at hl 3 rfl) ?_
  refine lv_iload_n hx hb dL_law_260 rfl (lv_at hl 0 rfl) ?_
  refine lv_iconst (v := 1) hx hb dL_law_261 (by decide) ?_
  refine lv_iadd hx hb dL_law_262 ?_
  refine q_seti (y := nI (i + 1)) (nI_add i 1) ?_
  refine q_sld (X := i + 1) hx hb hX hbl hbA hS hy1 hLb dL_law_263 ?_
  refine lv_aload_n hx hb dL_law_264 rfl (lv_at hl 3 rfl) ?_
  refine lv_iload_n hx hb dL_law_265 rfl (lv_at hl 0 rfl) ?_
  refine lv_iconst (v := 2) hx hb dL_law_266 (by decide) ?_
  refine lv_iadd hx hb dL_law_267 ?_
  refine q_seti (y := nI (i + 2)) (nI_add i 2) ?_
  refine q_sld (X := i + 2) hx hb hX hbl hbA hS hy2 hLb dL_law_268 ?_
  obtain ⟨M2, fr, lo, mc, ms, hrb, hC⟩ := C_element l D (xs (i + 1)) (xs (i + 2)) hcS hdI
  obtain ⟨b1, b2, b3, b4, b5, b6⟩ := hrb
  obtain ⟨fs, h_dk⟩ := hcS.dk
  have hr5 := rm5 b1 b2 b5 hcc
  have hr6 := rm6 b1 b2 b6 hss
  have hq5 := rq5 (cells := cells) b5
  have hq6 := rq6 (slots := slots) b6
  refine q2_ci (k := cells + mc) (n := slots + ms) hP1 hD1 hP2 hsep hS hA (o_rV (As := [.int (xs (i + 1)), .int (xs (i + 2))]) (rest := []) hf (hC _) k_732 k_729 k_730 k_731 k_84 (nA := 2) (by decide +kernel) ⟨show fr + 1 ≤ 13 from Nat.succ_le_succ b3, show 8 + (4 + 11) + lo ≤ 470 from rl9 (by decide) b4⟩ hK1 hP1 hD1 hS hA hZ hN h_dk rfl rfl rfl hl.1 rfl (Nat.le_of_ble_eq_true rfl) dL_law_269 ⟨show cells + mc ≤ 600000 from hr5, show slots + ms ≤ 7302250 from hr6⟩) (Nat.le_refl _) (Nat.le_refl _) (fun r1 u H locs hw _ hP1 hD1 hP2 hsep hS => ?_)
  obtain ⟨L, g, hw1, rfl⟩ := hw
  clear hcS h_dk hC
  refine lv_pop hx hb dL_law_272 rfl ?_
  refine lv_aload_n hx hb dL_law_273 rfl (lv_at hl 1 rfl) ?_
  refine lv_aload_n hx hb dL_law_274 rfl (lv_at hl 3 rfl) ?_
  refine lv_iload_n hx hb dL_law_275 rfl (lv_at hl 0 rfl) ?_
  refine lv_iconst (v := 1) hx hb dL_law_276 (by decide) ?_
  refine lv_iadd hx hb dL_law_277 ?_
  refine q_seti (y := nI (i + 1)) (nI_add i 1) ?_
  refine q_sld (X := i + 1) hx hb hX hbl hbA hS hy1 hLb dL_law_278 ?_
  refine lv_aload_n hx hb dL_law_279 rfl (lv_at hl 3 rfl) ?_
  refine lv_iload_n hx hb dL_law_280 rfl (lv_at hl 0 rfl) ?_
  refine lv_iconst (v := 2) hx hb dL_law_281 (by decide) ?_
  refine lv_iadd hx hb dL_law_282 ?_
  refine q_seti (y := nI (i + 2)) (nI_add i 2) ?_
  refine q_sld (X := i + 2) hx hb hX hbl hbA hS hy2 hLb dL_law_283 ?_
  refine q2_ci (k := cells + mc) (n := slots + ms) hP2 hD2 hP1 hsep.sy hS hA (q_rV (As := [.int (xs (i + 1)), .int (xs (i + 2))]) (rest := []) hf (R_element l D h0 q cB2 cI2 cZ (xs (i + 1)) (xs (i + 2)) hrS hdI _) k_1367 k_1364 k_1365 k_1366 k_98 (nA := 2) (by decide +kernel) ⟨by decide, by decide⟩ hK2 hP2 (ci := 11) (q0 := 0) rfl rfl rfl hP2 hK2 hD2 (fun _ _ _ _ h => h) (fun _ _ _ => trivial) rfl hl.1 rfl (Nat.le_of_ble_eq_true rfl) dL_law_284 ⟨hr5, hr6⟩) (Nat.le_refl _) (Nat.le_refl _) (fun r2 u H locs hw2 _ hP2 hD2 hP1 hsep hS => ?_)
  replace hsep := hsep.sy
  refine lv_pop hx hb dL_law_287 rfl ?_
  refine lv_goto (tgt := 702) hx hb dL_law_288 (by decide) ?_
  obtain ⟨I2, F2, hr2, hv2, rfl⟩ := hw2
  obtain ⟨hw1, hv1⟩ := hw1
  exact kk M2 (cells + mc) (slots + ms) H locs ls b1 b2 hq5 hq6 hS ⟨L, g, I2, F2, T, n, Es, sl, P, mo, lk, gs, hP1, hD1, hP2, hD2, hsep, hw1, hr2, (hdI.dn (Nat.le_succ _)), hnm⟩ (lv_sub hl (l' := [(3, .int (nI i)), (2, .ref h0), (1, .ref dk), (0, .ref b)]) [0, 1, 2, 3] rfl)
set_option maxHeartbeats 2000000 in
set_option maxRecDepth 100000 in
theorem lc_rowByte {p : Program} {l : Launch} {e : Env} {s : State} {m : MethodId} {below : List Frame} {meth : Method} {c : Code} {Q : State → Prop} {D : va_G} {A : Nat → Prop} {z : Nat → Nat} {cB cI_ cO cB2 cI2 cZ : ClassId} {dk h0 : Nat} {q : Nat → Nat} {b Ln i M rm cells slots : Nat} {xs : Nat → Int32} {H : Heap} {locs : List Loc} {ls : Array Slot} (hf : CallFix p m c cL_law 4 s #[Value.ref b] gT R_law) (hX : va_X b Ln xs s s.heap) (hbl : b < s.heap.size) (hbA : ¬ A b) (hA : ∀ q : Nat, s.heap.size ≤ q → A q) (hK1 : va_K D vcl (dT cB cI_ cO) s) (hK2 : va_K D vcl (mT cB2 cI2 cZ) s) (hZ : zA z A s s.heap) (hN : zB z s) (hi4 : i + 4 ≤ Ln) (hLn : Ln ≤ 2048) (hS : va_S A s.heap H locs) (hj : jS D A z cB cI_ cO dk h0 q cB2 cI2 cZ H M (rm + 1)) (hcc : cells + 1100 + 3 * (1000 - M) ≤ 600000) (hss : slots + 13800 + 6 * (1000 - M) ≤ 7302250) (hl : lv_has ls 4 [(3, .int (nI i)), (2, .ref h0), (1, .ref dk), (0, .ref b)])
    (kk : ∀ (M2 cells2 slots2 : Nat) (H : Heap) (locs : List Loc) (ls : Array Slot), M ≤ M2 → M2 ≤ 1000 → cells2 ≤ cells + 1100 + 3 * (M2 - M) → slots2 ≤ slots + 13800 + 6 * (M2 - M) → va_S A s.heap H locs → jS D A z cB cI_ cO dk h0 q cB2 cI2 cZ H M2 rm → lv_has ls 4 [(3, .int (nI i)), (2, .ref h0), (1, .ref dk), (0, .ref b)] → W p l e room_1 s m #[Value.ref b] below meth c H locs cells2 slots2 Q (F0 m 702 ls [])) : W p l e room_1 s m #[Value.ref b] below meth c H locs cells slots Q (F0 m 291 ls []) := by
  obtain ⟨hx, hb, hml, hown, hts⟩ := id hf
  have hy0 : i < Ln := by omega
  have hy1 : i + 1 < Ln := by omega
  have hy2 : i + 2 < Ln := by omega
  have hy3 : i + 3 < Ln := by omega
  have hLb : Ln < 2 ^ 31 := by omega
  obtain ⟨L, g, I, F, T, n, Es, sl, P, mo, lk, gs, hP1, hD1, hP2, hD2, hsep, hcS, hrS, hdI, hnm⟩ := hj
  refine lv_aload_n hx hb dL_law_291 rfl (lv_at hl 2 rfl) ?_
  refine lv_aload_n hx hb dL_law_292 rfl (lv_at hl 3 rfl) ?_
  refine lv_iload_n hx hb dL_law_293 rfl (lv_at hl 0 rfl) ?_
  refine lv_iconst (v := 1) hx hb dL_law_294 (by decide) ?_
  refine lv_iadd hx hb dL_law_295 ?_
  refine q_seti (y := nI (i + 1)) (nI_add i 1) ?_
  refine q_sld (X := i + 1) hx hb hX hbl hbA hS hy1 hLb dL_law_296 ?_
  refine lv_aload_n hx hb dL_law_297 rfl (lv_at hl 3 rfl) ?_
  refine lv_iload_n hx hb dL_law_298 rfl (lv_at hl 0 rfl) ?_
  refine lv_iconst (v := 2) hx hb dL_law_299 (by decide) ?_
  refine lv_iadd hx hb dL_law_300 ?_
  refine q_seti (y := nI (i + 2)) (nI_add i 2) ?_
  refine q_sld (X := i + 2) hx hb hX hbl hbA hS hy2 hLb dL_law_301 ?_
  refine lv_aload_n hx hb dL_law_302 rfl (lv_at hl 3 rfl) ?_
  refine lv_iload_n hx hb dL_law_303 rfl (lv_at hl 0 rfl) ?_
  refine lv_iconst (v := 3) hx hb dL_law_304 (by decide) ?_
  refine lv_iadd hx hb dL_law_305 ?_
  refine q_seti (y := nI (i + 3)) (nI_add i 3) ?_
  refine q_sld (X := i + 3) hx hb hX hbl hbA hS hy3 hLb dL_law_306 ?_
  obtain ⟨M2, fr, lo, mc, ms, hrb, hC⟩ := C_rowByte l D (xs (i + 1)) (xs (i + 2)) (xs (i + 3)) hcS hdI
  obtain ⟨b1, b2, b3, b4, b5, b6⟩ := hrb
  obtain ⟨fs, h_dk⟩ := hcS.dk
  have hr5 := rm5 b1 b2 b5 hcc
  have hr6 := rm6 b1 b2 b6 hss
  have hq5 := rq5 (cells := cells) b5
  have hq6 := rq6 (slots := slots) b6
  refine q2_ci (k := cells + mc) (n := slots + ms) hP1 hD1 hP2 hsep hS hA (o_rV (As := [.int (xs (i + 1)), .int (xs (i + 2)), .int (xs (i + 3))]) (rest := []) hf (hC _) k_748 k_745 k_746 k_747 k_84 (nA := 3) (by decide +kernel) ⟨show fr + 1 ≤ 13 from Nat.succ_le_succ b3, show 8 + (5 + 11) + lo ≤ 470 from rl9 (by decide) b4⟩ hK1 hP1 hD1 hS hA hZ hN h_dk rfl rfl rfl hl.1 rfl (Nat.le_of_ble_eq_true rfl) dL_law_307 ⟨show cells + mc ≤ 600000 from hr5, show slots + ms ≤ 7302250 from hr6⟩) (Nat.le_refl _) (Nat.le_refl _) (fun r1 u H locs hw _ hP1 hD1 hP2 hsep hS => ?_)
  obtain ⟨L, g, hw1, rfl⟩ := hw
  clear hcS h_dk hC
  refine lv_pop hx hb dL_law_310 rfl ?_
  refine lv_aload_n hx hb dL_law_311 rfl (lv_at hl 1 rfl) ?_
  refine lv_aload_n hx hb dL_law_312 rfl (lv_at hl 3 rfl) ?_
  refine lv_iload_n hx hb dL_law_313 rfl (lv_at hl 0 rfl) ?_
  refine lv_iconst (v := 1) hx hb dL_law_314 (by decide) ?_
  refine lv_iadd hx hb dL_law_315 ?_
  refine q_seti (y := nI (i + 1)) (nI_add i 1) ?_
  refine q_sld (X := i + 1) hx hb hX hbl hbA hS hy1 hLb dL_law_316 ?_
  refine lv_aload_n hx hb dL_law_317 rfl (lv_at hl 3 rfl) ?_
  refine lv_iload_n hx hb dL_law_318 rfl (lv_at hl 0 rfl) ?_
  refine lv_iconst (v := 2) hx hb dL_law_319 (by decide) ?_
  refine lv_iadd hx hb dL_law_320 ?_
  refine q_seti (y := nI (i + 2)) (nI_add i 2) ?_
  refine q_sld (X := i + 2) hx hb hX hbl hbA hS hy2 hLb dL_law_321 ?_
  refine lv_aload_n hx hb dL_law_322 rfl (lv_at hl 3 rfl) ?_
  refine lv_iload_n hx hb dL_law_323 rfl (lv_at hl 0 rfl) ?_
  refine lv_iconst (v := 3) hx hb dL_law_324 (by decide) ?_
  refine lv_iadd hx hb dL_law_325 ?_
  refine q_seti (y := nI (i + 3)) (nI_add i 3) ?_
  refine q_sld (X := i + 3) hx hb hX hbl hbA hS hy3 hLb dL_law_326 ?_
  refine q2_ci (k := cells + mc) (n := slots + ms) hP2 hD2 hP1 hsep.sy hS hA (q_rV (As := [.int (xs (i + 1)), .int (xs (i + 2)), .int (xs (i + 3))]) (rest := []) hf (R_rowByte l D h0 q cB2 cI2 cZ (xs (i + 1)) (xs (i + 2)) (xs (i + 3)) hrS hdI _) k_1379 k_1376 k_1377 k_1378 k_98 (nA := 3) (by decide +kernel) ⟨by decide, by decide⟩ hK2 hP2 (ci := 11) (q0 := 0) rfl rfl rfl hP2 hK2 hD2 (fun _ _ _ _ h => h) (fun _ _ _ => trivial) rfl hl.1 rfl (Nat.le_of_ble_eq_true rfl) dL_law_327 ⟨hr5, hr6⟩) (Nat.le_refl _) (Nat.le_refl _) (fun r2 u H locs hw2 _ hP2 hD2 hP1 hsep hS => ?_)
  replace hsep := hsep.sy
  refine lv_pop hx hb dL_law_330 rfl ?_
  refine lv_goto (tgt := 702) hx hb dL_law_331 (by decide) ?_
  obtain ⟨I2, F2, hr2, rfl⟩ := hw2
  exact kk M2 (cells + mc) (slots + ms) H locs ls b1 b2 hq5 hq6 hS ⟨L, g, I2, F2, T, n, Es, sl, P, mo, lk, gs, hP1, hD1, hP2, hD2, hsep, hw1, hr2, (hdI.dn (Nat.le_succ _)), hnm⟩ (lv_sub hl (l' := [(3, .int (nI i)), (2, .ref h0), (1, .ref dk), (0, .ref b)]) [0, 1, 2, 3] rfl)
set_option maxHeartbeats 2000000 in
set_option maxRecDepth 100000 in
theorem lc_pages {p : Program} {l : Launch} {e : Env} {s : State} {m : MethodId} {below : List Frame} {meth : Method} {c : Code} {Q : State → Prop} {D : va_G} {A : Nat → Prop} {z : Nat → Nat} {cB cI_ cO cB2 cI2 cZ : ClassId} {dk h0 : Nat} {q : Nat → Nat} {b Ln i M rm cells slots : Nat} {xs : Nat → Int32} {H : Heap} {locs : List Loc} {ls : Array Slot} (hf : CallFix p m c cL_law 4 s #[Value.ref b] gT R_law) (hX : va_X b Ln xs s s.heap) (hbl : b < s.heap.size) (hbA : ¬ A b) (hA : ∀ q : Nat, s.heap.size ≤ q → A q) (hK1 : va_K D vcl (dT cB cI_ cO) s) (hK2 : va_K D vcl (mT cB2 cI2 cZ) s) (hZ : zA z A s s.heap) (hN : zB z s) (hi4 : i + 4 ≤ Ln) (hLn : Ln ≤ 2048) (hS : va_S A s.heap H locs) (hj : jS D A z cB cI_ cO dk h0 q cB2 cI2 cZ H M (rm + 1)) (hcc : cells + 1100 + 3 * (1000 - M) ≤ 600000) (hss : slots + 13800 + 6 * (1000 - M) ≤ 7302250) (hl : lv_has ls 4 [(3, .int (nI i)), (2, .ref h0), (1, .ref dk), (0, .ref b)])
    (kk : ∀ (M2 cells2 slots2 : Nat) (H : Heap) (locs : List Loc) (ls : Array Slot), M ≤ M2 → M2 ≤ 1000 → cells2 ≤ cells + 1100 + 3 * (M2 - M) → slots2 ≤ slots + 13800 + 6 * (M2 - M) → va_S A s.heap H locs → jS D A z cB cI_ cO dk h0 q cB2 cI2 cZ H M2 rm → lv_has ls 4 [(3, .int (nI i)), (2, .ref h0), (1, .ref dk), (0, .ref b)] → W p l e room_1 s m #[Value.ref b] below meth c H locs cells2 slots2 Q (F0 m 702 ls [])) : W p l e room_1 s m #[Value.ref b] below meth c H locs cells slots Q (F0 m 334 ls []) := by
  obtain ⟨hx, hb, hml, hown, hts⟩ := id hf
  have hy0 : i < Ln := by omega
  have hy1 : i + 1 < Ln := by omega
  have hy2 : i + 2 < Ln := by omega
  have hy3 : i + 3 < Ln := by omega
  have hLb : Ln < 2 ^ 31 := by omega
  obtain ⟨L, g, I, F, T, n, Es, sl, P, mo, lk, gs, hP1, hD1, hP2, hD2, hsep, hcS, hrS, hdI, hnm⟩ := hj
  refine lv_aload_n hx hb dL_law_334 rfl (lv_at hl 2 rfl) ?_
  obtain ⟨M2, fr, lo, mc, ms, hrb, hC⟩ := C_pages l D  hcS hdI
  obtain ⟨b1, b2, b3, b4, b5, b6⟩ := hrb
  obtain ⟨fs, h_dk⟩ := hcS.dk
  have hr5 := rm5 b1 b2 b5 hcc
  have hr6 := rm6 b1 b2 b6 hss
  have hq5 := rq5 (cells := cells) b5
  have hq6 := rq6 (slots := slots) b6
  refine q2_ci (k := cells + mc) (n := slots + ms) hP1 hD1 hP2 hsep hS hA (o_rV (As := []) (rest := []) hf (hC _) k_761 k_758 k_759 k_760 k_84 (nA := 0) (by decide +kernel) ⟨show fr + 1 ≤ 13 from Nat.succ_le_succ b3, show 8 + (1 + 11) + lo ≤ 470 from rl9 (by decide) b4⟩ hK1 hP1 hD1 hS hA hZ hN h_dk rfl rfl rfl hl.1 rfl (Nat.le_of_ble_eq_true rfl) dL_law_335 ⟨show cells + mc ≤ 600000 from hr5, show slots + ms ≤ 7302250 from hr6⟩) (Nat.le_refl _) (Nat.le_refl _) (fun r1 u H locs hw _ hP1 hD1 hP2 hsep hS => ?_)
  obtain ⟨L, g, hw1, rfl⟩ := hw
  clear hcS h_dk hC
  refine lv_pop hx hb dL_law_338 rfl ?_
  refine lv_aload_n hx hb dL_law_339 rfl (lv_at hl 1 rfl) ?_
  refine q2_ci (k := cells + mc) (n := slots + ms) hP2 hD2 hP1 hsep.sy hS hA (q_rV (As := []) (rest := []) hf (R_pages l D h0 q cB2 cI2 cZ  hrS hdI _) k_1383 k_1380 k_1381 k_1382 k_98 (nA := 0) (by decide +kernel) ⟨by decide, by decide⟩ hK2 hP2 (ci := 11) (q0 := 0) rfl rfl rfl hP2 hK2 hD2 (fun _ _ _ _ h => h) (fun _ _ _ => trivial) rfl hl.1 rfl (Nat.le_of_ble_eq_true rfl) dL_law_340 ⟨hr5, hr6⟩) (Nat.le_refl _) (Nat.le_refl _) (fun r2 u H locs hw2 _ hP2 hD2 hP1 hsep hS => ?_)
  replace hsep := hsep.sy
  refine lv_pop hx hb dL_law_343 rfl ?_
  refine lv_goto (tgt := 702) hx hb dL_law_344 (by decide) ?_
  obtain ⟨I2, F2, hr2, hv2, rfl⟩ := hw2
  obtain ⟨hw1, hv1⟩ := hw1
  exact kk M2 (cells + mc) (slots + ms) H locs ls b1 b2 hq5 hq6 hS ⟨L, g, I2, F2, T, n, Es, sl, P, mo, lk, gs, hP1, hD1, hP2, hD2, hsep, hw1, hr2, (hdI.dn (Nat.le_succ _)), hnm⟩ (lv_sub hl (l' := [(3, .int (nI i)), (2, .ref h0), (1, .ref dk), (0, .ref b)]) [0, 1, 2, 3] rfl)
set_option maxHeartbeats 2000000 in
set_option maxRecDepth 100000 in
theorem lc_cost {p : Program} {l : Launch} {e : Env} {s : State} {m : MethodId} {below : List Frame} {meth : Method} {c : Code} {Q : State → Prop} {D : va_G} {A : Nat → Prop} {z : Nat → Nat} {cB cI_ cO cB2 cI2 cZ : ClassId} {dk h0 : Nat} {q : Nat → Nat} {b Ln i M rm cells slots : Nat} {xs : Nat → Int32} {H : Heap} {locs : List Loc} {ls : Array Slot} (hf : CallFix p m c cL_law 4 s #[Value.ref b] gT R_law) (hX : va_X b Ln xs s s.heap) (hbl : b < s.heap.size) (hbA : ¬ A b) (hA : ∀ q : Nat, s.heap.size ≤ q → A q) (hK1 : va_K D vcl (dT cB cI_ cO) s) (hK2 : va_K D vcl (mT cB2 cI2 cZ) s) (hZ : zA z A s s.heap) (hN : zB z s) (hi4 : i + 4 ≤ Ln) (hLn : Ln ≤ 2048) (hS : va_S A s.heap H locs) (hj : jS D A z cB cI_ cO dk h0 q cB2 cI2 cZ H M (rm + 1)) (hcc : cells + 1100 + 3 * (1000 - M) ≤ 600000) (hss : slots + 13800 + 6 * (1000 - M) ≤ 7302250) (hl : lv_has ls 4 [(3, .int (nI i)), (2, .ref h0), (1, .ref dk), (0, .ref b)])
    (kk : ∀ (M2 cells2 slots2 : Nat) (H : Heap) (locs : List Loc) (ls : Array Slot), M ≤ M2 → M2 ≤ 1000 → cells2 ≤ cells + 1100 + 3 * (M2 - M) → slots2 ≤ slots + 13800 + 6 * (M2 - M) → va_S A s.heap H locs → jS D A z cB cI_ cO dk h0 q cB2 cI2 cZ H M2 rm → lv_has ls 4 [(3, .int (nI i)), (2, .ref h0), (1, .ref dk), (0, .ref b)] → W p l e room_1 s m #[Value.ref b] below meth c H locs cells2 slots2 Q (F0 m 702 ls [])) : W p l e room_1 s m #[Value.ref b] below meth c H locs cells slots Q (F0 m 347 ls []) := by
  obtain ⟨hx, hb, hml, hown, hts⟩ := id hf
  have hy0 : i < Ln := by omega
  have hy1 : i + 1 < Ln := by omega
  have hy2 : i + 2 < Ln := by omega
  have hy3 : i + 3 < Ln := by omega
  have hLb : Ln < 2 ^ 31 := by omega
  obtain ⟨L, g, I, F, T, n, Es, sl, P, mo, lk, gs, hP1, hD1, hP2, hD2, hsep, hcS, hrS, hdI, hnm⟩ := hj
  refine lv_aload_n hx hb dL_law_347 rfl (lv_at hl 2 rfl) ?_
  obtain ⟨M2, fr, lo, mc, ms, hrb, hC⟩ := C_cost l D  hcS hdI
  obtain ⟨b1, b2, b3, b4, b5, b6⟩ := hrb
  obtain ⟨fs, h_dk⟩ := hcS.dk
  have hr5 := rm5 b1 b2 b5 hcc
  have hr6 := rm6 b1 b2 b6 hss
  have hq5 := rq5 (cells := cells) b5
  have hq6 := rq6 (slots := slots) b6
  refine q2_ci (k := cells + mc) (n := slots + ms) hP1 hD1 hP2 hsep hS hA (o_rV (As := []) (rest := []) hf (hC _) k_866 k_863 k_864 k_865 k_84 (nA := 0) (by decide +kernel) ⟨show fr + 1 ≤ 13 from Nat.succ_le_succ b3, show 8 + (1 + 11) + lo ≤ 470 from rl9 (by decide) b4⟩ hK1 hP1 hD1 hS hA hZ hN h_dk rfl rfl rfl hl.1 rfl (Nat.le_of_ble_eq_true rfl) dL_law_348 ⟨show cells + mc ≤ 600000 from hr5, show slots + ms ≤ 7302250 from hr6⟩) (Nat.le_refl _) (Nat.le_refl _) (fun r1 u H locs hw _ hP1 hD1 hP2 hsep hS => ?_)
  obtain ⟨L, g, hw1, rfl⟩ := hw
  clear hcS h_dk hC
  refine lv_pop hx hb dL_law_351 rfl ?_
  refine lv_aload_n hx hb dL_law_352 rfl (lv_at hl 1 rfl) ?_
  refine q2_ci (k := cells + mc) (n := slots + ms) hP2 hD2 hP1 hsep.sy hS hA (q_rV (As := []) (rest := []) hf (R_cost l D h0 q cB2 cI2 cZ  hrS hdI _) k_1419 k_1416 k_1417 k_1418 k_98 (nA := 0) (by decide +kernel) ⟨by decide, by decide⟩ hK2 hP2 (ci := 11) (q0 := 0) rfl rfl rfl hP2 hK2 hD2 (fun _ _ _ _ h => h) (fun _ _ _ => trivial) rfl hl.1 rfl (Nat.le_of_ble_eq_true rfl) dL_law_353 ⟨hr5, hr6⟩) (Nat.le_refl _) (Nat.le_refl _) (fun r2 u H locs hw2 _ hP2 hD2 hP1 hsep hS => ?_)
  replace hsep := hsep.sy
  refine lv_pop hx hb dL_law_356 rfl ?_
  refine lv_goto (tgt := 702) hx hb dL_law_357 (by decide) ?_
  obtain ⟨I2, F2, hr2, hv2, rfl⟩ := hw2
  obtain ⟨hw1, hv1⟩ := hw1
  exact kk M2 (cells + mc) (slots + ms) H locs ls b1 b2 hq5 hq6 hS ⟨L, g, I2, F2, T, n, Es, sl, P, mo, lk, gs, hP1, hD1, hP2, hD2, hsep, hw1, hr2, (hdI.dn (Nat.le_succ _)), hnm⟩ (lv_sub hl (l' := [(3, .int (nI i)), (2, .ref h0), (1, .ref dk), (0, .ref b)]) [0, 1, 2, 3] rfl)
set_option maxHeartbeats 2000000 in
set_option maxRecDepth 100000 in
theorem lc_page {p : Program} {l : Launch} {e : Env} {s : State} {m : MethodId} {below : List Frame} {meth : Method} {c : Code} {Q : State → Prop} {D : va_G} {A : Nat → Prop} {z : Nat → Nat} {cB cI_ cO cB2 cI2 cZ : ClassId} {dk h0 : Nat} {q : Nat → Nat} {b Ln i M rm cells slots : Nat} {xs : Nat → Int32} {H : Heap} {locs : List Loc} {ls : Array Slot} (hf : CallFix p m c cL_law 4 s #[Value.ref b] gT R_law) (hX : va_X b Ln xs s s.heap) (hbl : b < s.heap.size) (hbA : ¬ A b) (hA : ∀ q : Nat, s.heap.size ≤ q → A q) (hK1 : va_K D vcl (dT cB cI_ cO) s) (hK2 : va_K D vcl (mT cB2 cI2 cZ) s) (hZ : zA z A s s.heap) (hN : zB z s) (hi4 : i + 4 ≤ Ln) (hLn : Ln ≤ 2048) (hS : va_S A s.heap H locs) (hj : jS D A z cB cI_ cO dk h0 q cB2 cI2 cZ H M (rm + 1)) (hcc : cells + 1100 + 3 * (1000 - M) ≤ 600000) (hss : slots + 13800 + 6 * (1000 - M) ≤ 7302250) (hl : lv_has ls 4 [(3, .int (nI i)), (2, .ref h0), (1, .ref dk), (0, .ref b)])
    (kk : ∀ (M2 cells2 slots2 : Nat) (H : Heap) (locs : List Loc) (ls : Array Slot), M ≤ M2 → M2 ≤ 1000 → cells2 ≤ cells + 1100 + 3 * (M2 - M) → slots2 ≤ slots + 13800 + 6 * (M2 - M) → va_S A s.heap H locs → jS D A z cB cI_ cO dk h0 q cB2 cI2 cZ H M2 rm → lv_has ls 4 [(3, .int (nI i)), (2, .ref h0), (1, .ref dk), (0, .ref b)] → W p l e room_1 s m #[Value.ref b] below meth c H locs cells2 slots2 Q (F0 m 702 ls [])) : W p l e room_1 s m #[Value.ref b] below meth c H locs cells slots Q (F0 m 360 ls []) := by
  obtain ⟨hx, hb, hml, hown, hts⟩ := id hf
  have hy0 : i < Ln := by omega
  have hy1 : i + 1 < Ln := by omega
  have hy2 : i + 2 < Ln := by omega
  have hy3 : i + 3 < Ln := by omega
  have hLb : Ln < 2 ^ 31 := by omega
  obtain ⟨L, g, I, F, T, n, Es, sl, P, mo, lk, gs, hP1, hD1, hP2, hD2, hsep, hcS, hrS, hdI, hnm⟩ := hj
  refine lv_aload_n hx hb dL_law_360 rfl (lv_at hl 2 rfl) ?_
  refine lv_aload_n hx hb dL_law_361 rfl (lv_at hl 3 rfl) ?_
  refine lv_iload_n hx hb dL_law_362 rfl (lv_at hl 0 rfl) ?_
  refine lv_iconst (v := 1) hx hb dL_law_363 (by decide) ?_
  refine lv_iadd hx hb dL_law_364 ?_
  refine q_seti (y := nI (i + 1)) (nI_add i 1) ?_
  refine q_sld (X := i + 1) hx hb hX hbl hbA hS hy1 hLb dL_law_365 ?_
  refine lv_aload_n hx hb dL_law_366 rfl (lv_at hl 3 rfl) ?_
  refine lv_iload_n hx hb dL_law_367 rfl (lv_at hl 0 rfl) ?_
  refine lv_iconst (v := 2) hx hb dL_law_368 (by decide) ?_
  refine lv_iadd hx hb dL_law_369 ?_
  refine q_seti (y := nI (i + 2)) (nI_add i 2) ?_
  refine q_sld (X := i + 2) hx hb hX hbl hbA hS hy2 hLb dL_law_370 ?_
  obtain ⟨M2, fr, lo, mc, ms, hrb, hC⟩ := C_page l D (xs (i + 1)) (xs (i + 2)) hcS hdI
  obtain ⟨b1, b2, b3, b4, b5, b6⟩ := hrb
  obtain ⟨fs, h_dk⟩ := hcS.dk
  have hr5 := rm5 b1 b2 b5 hcc
  have hr6 := rm6 b1 b2 b6 hss
  have hq5 := rq5 (cells := cells) b5
  have hq6 := rq6 (slots := slots) b6
  refine q2_ci (k := cells + mc) (n := slots + ms) hP1 hD1 hP2 hsep hS hA (o_rV (As := [.int (xs (i + 1)), .int (xs (i + 2))]) (rest := []) hf (hC _) k_874 k_871 k_872 k_873 k_84 (nA := 2) (by decide +kernel) ⟨show fr + 1 ≤ 13 from Nat.succ_le_succ b3, show 8 + (3 + 11) + lo ≤ 470 from rl9 (by decide) b4⟩ hK1 hP1 hD1 hS hA hZ hN h_dk rfl rfl rfl hl.1 rfl (Nat.le_of_ble_eq_true rfl) dL_law_371 ⟨show cells + mc ≤ 600000 from hr5, show slots + ms ≤ 7302250 from hr6⟩) (Nat.le_refl _) (Nat.le_refl _) (fun r1 u H locs hw _ hP1 hD1 hP2 hsep hS => ?_)
  obtain ⟨L, g, hw1, rfl⟩ := hw
  clear hcS h_dk hC
  refine lv_pop hx hb dL_law_374 rfl ?_
  refine lv_aload_n hx hb dL_law_375 rfl (lv_at hl 1 rfl) ?_
  refine lv_aload_n hx hb dL_law_376 rfl (lv_at hl 3 rfl) ?_
  refine lv_iload_n hx hb dL_law_377 rfl (lv_at hl 0 rfl) ?_
  refine lv_iconst (v := 1) hx hb dL_law_378 (by decide) ?_
  refine lv_iadd hx hb dL_law_379 ?_
  refine q_seti (y := nI (i + 1)) (nI_add i 1) ?_
  refine q_sld (X := i + 1) hx hb hX hbl hbA hS hy1 hLb dL_law_380 ?_
  refine lv_aload_n hx hb dL_law_381 rfl (lv_at hl 3 rfl) ?_
  refine lv_iload_n hx hb dL_law_382 rfl (lv_at hl 0 rfl) ?_
  refine lv_iconst (v := 2) hx hb dL_law_383 (by decide) ?_
  refine lv_iadd hx hb dL_law_384 ?_
  refine q_seti (y := nI (i + 2)) (nI_add i 2) ?_
  refine q_sld (X := i + 2) hx hb hX hbl hbA hS hy2 hLb dL_law_385 ?_
  refine q2_ci (k := cells + mc) (n := slots + ms) hP2 hD2 hP1 hsep.sy hS hA (q_rV (As := [.int (xs (i + 1)), .int (xs (i + 2))]) (rest := []) hf (R_page l D h0 q cB2 cI2 cZ (xs (i + 1)) (xs (i + 2)) hrS hdI _) k_1423 k_1420 k_1421 k_1422 k_98 (nA := 2) (by decide +kernel) ⟨by decide, by decide⟩ hK2 hP2 (ci := 11) (q0 := 0) rfl rfl rfl hP2 hK2 hD2 (fun _ _ _ _ h => h) (fun _ _ _ => trivial) rfl hl.1 rfl (Nat.le_of_ble_eq_true rfl) dL_law_386 ⟨hr5, hr6⟩) (Nat.le_refl _) (Nat.le_refl _) (fun r2 u H locs hw2 _ hP2 hD2 hP1 hsep hS => ?_)
  replace hsep := hsep.sy
  refine lv_pop hx hb dL_law_389 rfl ?_
  refine lv_goto (tgt := 702) hx hb dL_law_390 (by decide) ?_
  obtain ⟨I2, F2, hr2, hv2, rfl⟩ := hw2
  obtain ⟨hw1, hv1⟩ := hw1
  exact kk M2 (cells + mc) (slots + ms) H locs ls b1 b2 hq5 hq6 hS ⟨L, g, I2, F2, T, n, Es, sl, P, mo, lk, gs, hP1, hD1, hP2, hD2, hsep, hw1, hr2, (hdI.dn (Nat.le_succ _)), hnm⟩ (lv_sub hl (l' := [(3, .int (nI i)), (2, .ref h0), (1, .ref dk), (0, .ref b)]) [0, 1, 2, 3] rfl)
set_option maxHeartbeats 2000000 in
set_option maxRecDepth 100000 in
theorem lc_strike {p : Program} {l : Launch} {e : Env} {s : State} {m : MethodId} {below : List Frame} {meth : Method} {c : Code} {Q : State → Prop} {D : va_G} {A : Nat → Prop} {z : Nat → Nat} {cB cI_ cO cB2 cI2 cZ : ClassId} {dk h0 : Nat} {q : Nat → Nat} {b Ln i M rm cells slots : Nat} {xs : Nat → Int32} {H : Heap} {locs : List Loc} {ls : Array Slot} (hf : CallFix p m c cL_law 4 s #[Value.ref b] gT R_law) (hX : va_X b Ln xs s s.heap) (hbl : b < s.heap.size) (hbA : ¬ A b) (hA : ∀ q : Nat, s.heap.size ≤ q → A q) (hK1 : va_K D vcl (dT cB cI_ cO) s) (hK2 : va_K D vcl (mT cB2 cI2 cZ) s) (hZ : zA z A s s.heap) (hN : zB z s) (hi4 : i + 4 ≤ Ln) (hLn : Ln ≤ 2048) (hS : va_S A s.heap H locs) (hj : jS D A z cB cI_ cO dk h0 q cB2 cI2 cZ H M (rm + 1)) (hcc : cells + 1100 + 3 * (1000 - M) ≤ 600000) (hss : slots + 13800 + 6 * (1000 - M) ≤ 7302250) (hl : lv_has ls 4 [(3, .int (nI i)), (2, .ref h0), (1, .ref dk), (0, .ref b)])
    (kk : ∀ (M2 cells2 slots2 : Nat) (H : Heap) (locs : List Loc) (ls : Array Slot), M ≤ M2 → M2 ≤ 1000 → cells2 ≤ cells + 1100 + 3 * (M2 - M) → slots2 ≤ slots + 13800 + 6 * (M2 - M) → va_S A s.heap H locs → jS D A z cB cI_ cO dk h0 q cB2 cI2 cZ H M2 rm → lv_has ls 4 [(3, .int (nI i)), (2, .ref h0), (1, .ref dk), (0, .ref b)] → W p l e room_1 s m #[Value.ref b] below meth c H locs cells2 slots2 Q (F0 m 702 ls [])) : W p l e room_1 s m #[Value.ref b] below meth c H locs cells slots Q (F0 m 406 ls []) := by
  obtain ⟨hx, hb, hml, hown, hts⟩ := id hf
  have hy0 : i < Ln := by omega
  have hy1 : i + 1 < Ln := by omega
  have hy2 : i + 2 < Ln := by omega
  have hy3 : i + 3 < Ln := by omega
  have hLb : Ln < 2 ^ 31 := by omega
  obtain ⟨L, g, I, F, T, n, Es, sl, P, mo, lk, gs, hP1, hD1, hP2, hD2, hsep, hcS, hrS, hdI, hnm⟩ := hj
  refine lv_aload_n hx hb dL_law_406 rfl (lv_at hl 2 rfl) ?_
  refine lv_aload_n hx hb dL_law_407 rfl (lv_at hl 3 rfl) ?_
  refine lv_iload_n hx hb dL_law_408 rfl (lv_at hl 0 rfl) ?_
  refine lv_iconst (v := 1) hx hb dL_law_409 (by decide) ?_
  refine lv_iadd hx hb dL_law_410 ?_
  refine q_seti (y := nI (i + 1)) (nI_add i 1) ?_
  refine q_sld (X := i + 1) hx hb hX hbl hbA hS hy1 hLb dL_law_411 ?_
  obtain ⟨M2, fr, lo, mc, ms, hrb, hC⟩ := C_strike l D (xs (i + 1)) hcS hdI
  obtain ⟨b1, b2, b3, b4, b5, b6⟩ := hrb
  obtain ⟨fs, h_dk⟩ := hcS.dk
  have hr5 := rm5 b1 b2 b5 hcc
  have hr6 := rm6 b1 b2 b6 hss
  have hq5 := rq5 (cells := cells) b5
  have hq6 := rq6 (slots := slots) b6
  refine q2_ci (k := cells + mc) (n := slots + ms) hP1 hD1 hP2 hsep hS hA (o_rV (As := [.int (xs (i + 1))]) (rest := []) hf (hC _) k_927 k_924 k_925 k_926 k_84 (nA := 1) (by decide +kernel) ⟨show fr + 1 ≤ 13 from Nat.succ_le_succ b3, show 8 + (3 + 11) + lo ≤ 470 from rl9 (by decide) b4⟩ hK1 hP1 hD1 hS hA hZ hN h_dk rfl rfl rfl hl.1 rfl (Nat.le_of_ble_eq_true rfl) dL_law_412 ⟨show cells + mc ≤ 600000 from hr5, show slots + ms ≤ 7302250 from hr6⟩) (Nat.le_refl _) (Nat.le_refl _) (fun r1 u H locs hw _ hP1 hD1 hP2 hsep hS => ?_)
  obtain ⟨L, g, hw1, rfl⟩ := hw
  clear hcS h_dk hC
  refine lv_pop hx hb dL_law_415 rfl ?_
  refine lv_aload_n hx hb dL_law_416 rfl (lv_at hl 1 rfl) ?_
  refine lv_aload_n hx hb dL_law_417 rfl (lv_at hl 3 rfl) ?_
  refine lv_iload_n hx hb dL_law_418 rfl (lv_at hl 0 rfl) ?_
  refine lv_iconst (v := 1) hx hb dL_law_419 (by decide) ?_
  refine lv_iadd hx hb dL_law_420 ?_
  refine q_seti (y := nI (i + 1)) (nI_add i 1) ?_
  refine q_sld (X := i + 1) hx hb hX hbl hbA hS hy1 hLb dL_law_421 ?_
  refine q2_ci (k := cells + mc) (n := slots + ms) hP2 hD2 hP1 hsep.sy hS hA (q_rV (As := [.int (xs (i + 1))]) (rest := []) hf (R_strike l D h0 q cB2 cI2 cZ (xs (i + 1)) hrS hdI _) k_1431 k_1428 k_1429 k_1430 k_98 (nA := 1) (by decide +kernel) ⟨by decide, by decide⟩ hK2 hP2 (ci := 11) (q0 := 0) rfl rfl rfl hP2 hK2 hD2 (fun _ _ _ _ h => h) (fun _ _ _ => trivial) rfl hl.1 rfl (Nat.le_of_ble_eq_true rfl) dL_law_422 ⟨hr5, hr6⟩) (Nat.le_refl _) (Nat.le_refl _) (fun r2 u H locs hw2 _ hP2 hD2 hP1 hsep hS => ?_)
  replace hsep := hsep.sy
  refine lv_pop hx hb dL_law_425 rfl ?_
  refine lv_goto (tgt := 702) hx hb dL_law_426 (by decide) ?_
  obtain ⟨I2, F2, h2, rfl⟩ := hw2
  have hE := hdI.2.1.1
  rcases hw1 with ⟨⟨h1, hv1⟩ | ⟨j, a1, a2, a3, hv1⟩, hw1⟩ | ⟨j, a1, a2, a3, a4, hv1, hw1⟩
  · rcases h2 with ⟨_, hv2, hr2⟩ | ⟨j2, c1, c2, _, _, _⟩ | ⟨j2, c1, c2, _, _, _, _⟩
    · exact kk M2 (cells + mc) (slots + ms) H locs ls b1 b2 hq5 hq6 hS ⟨L, g, I2, F2, T, n, Es, sl, P, mo, lk, gs, hP1, hD1, hP2, hD2, hsep, hw1, hr2, (hdI.dn (Nat.le_succ _)), hnm⟩ (lv_sub hl (l' := [(3, .int (nI i)), (2, .ref h0), (1, .ref dk), (0, .ref b)]) [0, 1, 2, 3] rfl)
    · exact absurd ⟨j2, c1, c2⟩ h1
    · exact absurd ⟨j2, c1, c2⟩ h1
  · rcases h2 with ⟨h2, _, _⟩ | ⟨j2, c1, c2, _, hv2, hr2⟩ | ⟨j2, c1, c2, c3, c4, _, _⟩
    · exact absurd ⟨j, a1, a2⟩ h2
    · exact kk M2 (cells + mc) (slots + ms) H locs ls b1 b2 hq5 hq6 hS ⟨L, g, I2, F2, T, n, Es, sl, P, mo, lk, gs, hP1, hD1, hP2, hD2, hsep, hw1, hr2, (hdI.dn (Nat.le_succ _)), hnm⟩ (lv_sub hl (l' := [(3, .int (nI i)), (2, .ref h0), (1, .ref dk), (0, .ref b)]) [0, 1, 2, 3] rfl)
    · exfalso
      have e9 := q_eqn (a := j2) (b := j) (by omega) (by omega) (c2.symm.trans a2)
      rw [e9] at c4
      rcases a3 with a3 | a3
      · omega
      · exact a3 c4
  · rcases h2 with ⟨h2, _, _⟩ | ⟨j2, c1, c2, c3, _, _⟩ | ⟨j2, c1, c2, c3, c4, hv2, hr2⟩
    · exact absurd ⟨j, a1, a2⟩ h2
    · exfalso
      have e9 := q_eqn (a := j2) (b := j) (by omega) (by omega) (c2.symm.trans a2)
      rw [e9] at c3
      rcases c3 with c3 | c3
      · omega
      · exact c3 a4
    · obtain rfl := q_eqn (a := j) (b := j2) (by omega) (by omega) (a2.symm.trans c2)
      have hl1 : lk = 1 := by have := hdI.1.2.2.2.2; omega
      subst hl1
      exact kk M2 (cells + mc) (slots + ms) H locs ls b1 b2 hq5 hq6 hS ⟨L, g, I2, F2, T, n, (stE Es j), sl, (flI j P P.length), mo, 1, gs, hP1, hD1, hP2, hD2, hsep, hw1, hr2, (hdI.st a1 (Nat.le_succ _)), (nm_st hnm)⟩ (lv_sub hl (l' := [(3, .int (nI i)), (2, .ref h0), (1, .ref dk), (0, .ref b)]) [0, 1, 2, 3] rfl)
set_option maxHeartbeats 2000000 in
set_option maxRecDepth 100000 in
theorem lc_sheets {p : Program} {l : Launch} {e : Env} {s : State} {m : MethodId} {below : List Frame} {meth : Method} {c : Code} {Q : State → Prop} {D : va_G} {A : Nat → Prop} {z : Nat → Nat} {cB cI_ cO cB2 cI2 cZ : ClassId} {dk h0 : Nat} {q : Nat → Nat} {b Ln i M rm cells slots : Nat} {xs : Nat → Int32} {H : Heap} {locs : List Loc} {ls : Array Slot} (hf : CallFix p m c cL_law 4 s #[Value.ref b] gT R_law) (hX : va_X b Ln xs s s.heap) (hbl : b < s.heap.size) (hbA : ¬ A b) (hA : ∀ q : Nat, s.heap.size ≤ q → A q) (hK1 : va_K D vcl (dT cB cI_ cO) s) (hK2 : va_K D vcl (mT cB2 cI2 cZ) s) (hZ : zA z A s s.heap) (hN : zB z s) (hi4 : i + 4 ≤ Ln) (hLn : Ln ≤ 2048) (hS : va_S A s.heap H locs) (hj : jS D A z cB cI_ cO dk h0 q cB2 cI2 cZ H M (rm + 1)) (hcc : cells + 1100 + 3 * (1000 - M) ≤ 600000) (hss : slots + 13800 + 6 * (1000 - M) ≤ 7302250) (hl : lv_has ls 4 [(3, .int (nI i)), (2, .ref h0), (1, .ref dk), (0, .ref b)])
    (kk : ∀ (M2 cells2 slots2 : Nat) (H : Heap) (locs : List Loc) (ls : Array Slot), M ≤ M2 → M2 ≤ 1000 → cells2 ≤ cells + 1100 + 3 * (M2 - M) → slots2 ≤ slots + 13800 + 6 * (M2 - M) → va_S A s.heap H locs → jS D A z cB cI_ cO dk h0 q cB2 cI2 cZ H M2 rm → lv_has ls 4 [(3, .int (nI i)), (2, .ref h0), (1, .ref dk), (0, .ref b)] → W p l e room_1 s m #[Value.ref b] below meth c H locs cells2 slots2 Q (F0 m 702 ls [])) : W p l e room_1 s m #[Value.ref b] below meth c H locs cells slots Q (F0 m 462 ls []) := by
  obtain ⟨hx, hb, hml, hown, hts⟩ := id hf
  have hy0 : i < Ln := by omega
  have hy1 : i + 1 < Ln := by omega
  have hy2 : i + 2 < Ln := by omega
  have hy3 : i + 3 < Ln := by omega
  have hLb : Ln < 2 ^ 31 := by omega
  obtain ⟨L, g, I, F, T, n, Es, sl, P, mo, lk, gs, hP1, hD1, hP2, hD2, hsep, hcS, hrS, hdI, hnm⟩ := hj
  refine lv_aload_n hx hb dL_law_462 rfl (lv_at hl 2 rfl) ?_
  refine lv_aload_n hx hb dL_law_463 rfl (lv_at hl 3 rfl) ?_
  refine lv_iload_n hx hb dL_law_464 rfl (lv_at hl 0 rfl) ?_
  refine lv_iconst (v := 1) hx hb dL_law_465 (by decide) ?_
  refine lv_iadd hx hb dL_law_466 ?_
  refine q_seti (y := nI (i + 1)) (nI_add i 1) ?_
  refine q_sld (X := i + 1) hx hb hX hbl hbA hS hy1 hLb dL_law_467 ?_
  obtain ⟨M2, fr, lo, mc, ms, hrb, hC⟩ := C_sheets l D (xs (i + 1)) hcS hdI
  obtain ⟨b1, b2, b3, b4, b5, b6⟩ := hrb
  obtain ⟨fs, h_dk⟩ := hcS.dk
  have hr5 := rm5 b1 b2 b5 hcc
  have hr6 := rm6 b1 b2 b6 hss
  have hq5 := rq5 (cells := cells) b5
  have hq6 := rq6 (slots := slots) b6
  refine q2_ci (k := cells + mc) (n := slots + ms) hP1 hD1 hP2 hsep hS hA (o_rV (As := [.int (xs (i + 1))]) (rest := []) hf (hC _) k_996 k_993 k_994 k_995 k_84 (nA := 1) (by decide +kernel) ⟨show fr + 1 ≤ 13 from Nat.succ_le_succ b3, show 8 + (2 + 11) + lo ≤ 470 from rl9 (by decide) b4⟩ hK1 hP1 hD1 hS hA hZ hN h_dk rfl rfl rfl hl.1 rfl (Nat.le_of_ble_eq_true rfl) dL_law_468 ⟨show cells + mc ≤ 600000 from hr5, show slots + ms ≤ 7302250 from hr6⟩) (Nat.le_refl _) (Nat.le_refl _) (fun r1 u H locs hw _ hP1 hD1 hP2 hsep hS => ?_)
  obtain ⟨L, g, hw1, rfl⟩ := hw
  clear hcS h_dk hC
  refine lv_pop hx hb dL_law_471 rfl ?_
  refine lv_aload_n hx hb dL_law_472 rfl (lv_at hl 1 rfl) ?_
  refine lv_aload_n hx hb dL_law_473 rfl (lv_at hl 3 rfl) ?_
  refine lv_iload_n hx hb dL_law_474 rfl (lv_at hl 0 rfl) ?_
  refine lv_iconst (v := 1) hx hb dL_law_475 (by decide) ?_
  refine lv_iadd hx hb dL_law_476 ?_
  refine q_seti (y := nI (i + 1)) (nI_add i 1) ?_
  refine q_sld (X := i + 1) hx hb hX hbl hbA hS hy1 hLb dL_law_477 ?_
  refine q2_ci (k := cells + mc) (n := slots + ms) hP2 hD2 hP1 hsep.sy hS hA (q_rV (As := [.int (xs (i + 1))]) (rest := []) hf (R_sheets l D h0 q cB2 cI2 cZ (xs (i + 1)) hrS hdI _) k_1459 k_1456 k_1457 k_1458 k_98 (nA := 1) (by decide +kernel) ⟨by decide, by decide⟩ hK2 hP2 (ci := 11) (q0 := 0) rfl rfl rfl hP2 hK2 hD2 (fun _ _ _ _ h => h) (fun _ _ _ => trivial) rfl hl.1 rfl (Nat.le_of_ble_eq_true rfl) dL_law_478 ⟨hr5, hr6⟩) (Nat.le_refl _) (Nat.le_refl _) (fun r2 u H locs hw2 _ hP2 hD2 hP1 hsep hS => ?_)
  replace hsep := hsep.sy
  refine lv_pop hx hb dL_law_481 rfl ?_
  refine lv_goto (tgt := 702) hx hb dL_law_482 (by decide) ?_
  obtain ⟨I2, F2, hr2, hv2, rfl⟩ := hw2
  obtain ⟨hw1, hv1⟩ := hw1
  exact kk M2 (cells + mc) (slots + ms) H locs ls b1 b2 hq5 hq6 hS ⟨L, g, I2, F2, T, n, Es, sl, P, mo, lk, gs, hP1, hD1, hP2, hD2, hsep, hw1, hr2, (hdI.dn (Nat.le_succ _)), hnm⟩ (lv_sub hl (l' := [(3, .int (nI i)), (2, .ref h0), (1, .ref dk), (0, .ref b)]) [0, 1, 2, 3] rfl)
set_option maxHeartbeats 2000000 in
set_option maxRecDepth 100000 in
theorem lc_sheet {p : Program} {l : Launch} {e : Env} {s : State} {m : MethodId} {below : List Frame} {meth : Method} {c : Code} {Q : State → Prop} {D : va_G} {A : Nat → Prop} {z : Nat → Nat} {cB cI_ cO cB2 cI2 cZ : ClassId} {dk h0 : Nat} {q : Nat → Nat} {b Ln i M rm cells slots : Nat} {xs : Nat → Int32} {H : Heap} {locs : List Loc} {ls : Array Slot} (hf : CallFix p m c cL_law 4 s #[Value.ref b] gT R_law) (hX : va_X b Ln xs s s.heap) (hbl : b < s.heap.size) (hbA : ¬ A b) (hA : ∀ q : Nat, s.heap.size ≤ q → A q) (hK1 : va_K D vcl (dT cB cI_ cO) s) (hK2 : va_K D vcl (mT cB2 cI2 cZ) s) (hZ : zA z A s s.heap) (hN : zB z s) (hi4 : i + 4 ≤ Ln) (hLn : Ln ≤ 2048) (hS : va_S A s.heap H locs) (hj : jS D A z cB cI_ cO dk h0 q cB2 cI2 cZ H M (rm + 1)) (hcc : cells + 1100 + 3 * (1000 - M) ≤ 600000) (hss : slots + 13800 + 6 * (1000 - M) ≤ 7302250) (hl : lv_has ls 4 [(3, .int (nI i)), (2, .ref h0), (1, .ref dk), (0, .ref b)])
    (kk : ∀ (M2 cells2 slots2 : Nat) (H : Heap) (locs : List Loc) (ls : Array Slot), M ≤ M2 → M2 ≤ 1000 → cells2 ≤ cells + 1100 + 3 * (M2 - M) → slots2 ≤ slots + 13800 + 6 * (M2 - M) → va_S A s.heap H locs → jS D A z cB cI_ cO dk h0 q cB2 cI2 cZ H M2 rm → lv_has ls 4 [(3, .int (nI i)), (2, .ref h0), (1, .ref dk), (0, .ref b)] → W p l e room_1 s m #[Value.ref b] below meth c H locs cells2 slots2 Q (F0 m 702 ls [])) : W p l e room_1 s m #[Value.ref b] below meth c H locs cells slots Q (F0 m 485 ls []) := by
  obtain ⟨hx, hb, hml, hown, hts⟩ := id hf
  have hy0 : i < Ln := by omega
  have hy1 : i + 1 < Ln := by omega
  have hy2 : i + 2 < Ln := by omega
  have hy3 : i + 3 < Ln := by omega
  have hLb : Ln < 2 ^ 31 := by omega
  obtain ⟨L, g, I, F, T, n, Es, sl, P, mo, lk, gs, hP1, hD1, hP2, hD2, hsep, hcS, hrS, hdI, hnm⟩ := hj
  refine lv_aload_n hx hb dL_law_485 rfl (lv_at hl 2 rfl) ?_
  refine lv_aload_n hx hb dL_law_486 rfl (lv_at hl 3 rfl) ?_
  refine lv_iload_n hx hb dL_law_487 rfl (lv_at hl 0 rfl) ?_
  refine lv_iconst (v := 1) hx hb dL_law_488 (by decide) ?_
  refine lv_iadd hx hb dL_law_489 ?_
  refine q_seti (y := nI (i + 1)) (nI_add i 1) ?_
  refine q_sld (X := i + 1) hx hb hX hbl hbA hS hy1 hLb dL_law_490 ?_
  refine lv_aload_n hx hb dL_law_491 rfl (lv_at hl 3 rfl) ?_
  refine lv_iload_n hx hb dL_law_492 rfl (lv_at hl 0 rfl) ?_
  refine lv_iconst (v := 2) hx hb dL_law_493 (by decide) ?_
  refine lv_iadd hx hb dL_law_494 ?_
  refine q_seti (y := nI (i + 2)) (nI_add i 2) ?_
  refine q_sld (X := i + 2) hx hb hX hbl hbA hS hy2 hLb dL_law_495 ?_
  refine lv_aload_n hx hb dL_law_496 rfl (lv_at hl 3 rfl) ?_
  refine lv_iload_n hx hb dL_law_497 rfl (lv_at hl 0 rfl) ?_
  refine lv_iconst (v := 3) hx hb dL_law_498 (by decide) ?_
  refine lv_iadd hx hb dL_law_499 ?_
  refine q_seti (y := nI (i + 3)) (nI_add i 3) ?_
  refine q_sld (X := i + 3) hx hb hX hbl hbA hS hy3 hLb dL_law_500 ?_
  obtain ⟨M2, fr, lo, mc, ms, hrb, hC⟩ := C_sheet l D (xs (i + 1)) (xs (i + 2)) (xs (i + 3)) hcS hdI
  obtain ⟨b1, b2, b3, b4, b5, b6⟩ := hrb
  obtain ⟨fs, h_dk⟩ := hcS.dk
  have hr5 := rm5 b1 b2 b5 hcc
  have hr6 := rm6 b1 b2 b6 hss
  have hq5 := rq5 (cells := cells) b5
  have hq6 := rq6 (slots := slots) b6
  refine q2_ci (k := cells + mc) (n := slots + ms) hP1 hD1 hP2 hsep hS hA (o_rV (As := [.int (xs (i + 1)), .int (xs (i + 2)), .int (xs (i + 3))]) (rest := []) hf (hC _) k_1000 k_997 k_998 k_999 k_84 (nA := 3) (by decide +kernel) ⟨show fr + 1 ≤ 13 from Nat.succ_le_succ b3, show 8 + (4 + 11) + lo ≤ 470 from rl9 (by decide) b4⟩ hK1 hP1 hD1 hS hA hZ hN h_dk rfl rfl rfl hl.1 rfl (Nat.le_of_ble_eq_true rfl) dL_law_501 ⟨show cells + mc ≤ 600000 from hr5, show slots + ms ≤ 7302250 from hr6⟩) (Nat.le_refl _) (Nat.le_refl _) (fun r1 u H locs hw _ hP1 hD1 hP2 hsep hS => ?_)
  obtain ⟨L, g, hw1, rfl⟩ := hw
  clear hcS h_dk hC
  refine lv_pop hx hb dL_law_504 rfl ?_
  refine lv_aload_n hx hb dL_law_505 rfl (lv_at hl 1 rfl) ?_
  refine lv_aload_n hx hb dL_law_506 rfl (lv_at hl 3 rfl) ?_
  refine lv_iload_n hx hb dL_law_507 rfl (lv_at hl 0 rfl) ?_
  refine lv_iconst (v := 1) hx hb dL_law_508 (by decide) ?_
  refine lv_iadd hx hb dL_law_509 ?_
  refine q_seti (y := nI (i + 1)) (nI_add i 1) ?_
  refine q_sld (X := i + 1) hx hb hX hbl hbA hS hy1 hLb dL_law_510 ?_
  refine lv_aload_n hx hb dL_law_511 rfl (lv_at hl 3 rfl) ?_
  refine lv_iload_n hx hb dL_law_512 rfl (lv_at hl 0 rfl) ?_
  refine lv_iconst (v := 2) hx hb dL_law_513 (by decide) ?_
  refine lv_iadd hx hb dL_law_514 ?_
  refine q_seti (y := nI (i + 2)) (nI_add i 2) ?_
  refine q_sld (X := i + 2) hx hb hX hbl hbA hS hy2 hLb dL_law_515 ?_
  refine lv_aload_n hx hb dL_law_516 rfl (lv_at hl 3 rfl) ?_
  refine lv_iload_n hx hb dL_law_517 rfl (lv_at hl 0 rfl) ?_
  refine lv_iconst (v := 3) hx hb dL_law_518 (by decide) ?_
  refine lv_iadd hx hb dL_law_519 ?_
  refine q_seti (y := nI (i + 3)) (nI_add i 3) ?_
  refine q_sld (X := i + 3) hx hb hX hbl hbA hS hy3 hLb dL_law_520 ?_
  refine q2_ci (k := cells + mc) (n := slots + ms) hP2 hD2 hP1 hsep.sy hS hA (q_rV (As := [.int (xs (i + 1)), .int (xs (i + 2)), .int (xs (i + 3))]) (rest := []) hf (R_sheet l D h0 q cB2 cI2 cZ (xs (i + 1)) (xs (i + 2)) (xs (i + 3)) hrS hdI hnm _) k_1467 k_1464 k_1465 k_1466 k_98 (nA := 3) (by decide +kernel) ⟨by decide, by decide⟩ hK2 hP2 (ci := 11) (q0 := 0) rfl rfl rfl hP2 hK2 hD2 (fun _ _ _ _ h => h) (fun _ _ _ => trivial) rfl hl.1 rfl (Nat.le_of_ble_eq_true rfl) dL_law_521 ⟨hr5, hr6⟩) (Nat.le_refl _) (Nat.le_refl _) (fun r2 u H locs hw2 _ hP2 hD2 hP1 hsep hS => ?_)
  replace hsep := hsep.sy
  refine lv_pop hx hb dL_law_524 rfl ?_
  refine lv_goto (tgt := 702) hx hb dL_law_525 (by decide) ?_
  obtain ⟨I2, F2, hr2, hv2, rfl⟩ := hw2
  obtain ⟨hw1, hv1⟩ := hw1
  exact kk M2 (cells + mc) (slots + ms) H locs ls b1 b2 hq5 hq6 hS ⟨L, g, I2, F2, T, n, Es, sl, P, mo, lk, gs, hP1, hD1, hP2, hD2, hsep, hw1, hr2, (hdI.dn (Nat.le_succ _)), hnm⟩ (lv_sub hl (l' := [(3, .int (nI i)), (2, .ref h0), (1, .ref dk), (0, .ref b)]) [0, 1, 2, 3] rfl)
set_option maxHeartbeats 2000000 in
set_option maxRecDepth 100000 in
theorem lc_where {p : Program} {l : Launch} {e : Env} {s : State} {m : MethodId} {below : List Frame} {meth : Method} {c : Code} {Q : State → Prop} {D : va_G} {A : Nat → Prop} {z : Nat → Nat} {cB cI_ cO cB2 cI2 cZ : ClassId} {dk h0 : Nat} {q : Nat → Nat} {b Ln i M rm cells slots : Nat} {xs : Nat → Int32} {H : Heap} {locs : List Loc} {ls : Array Slot} (hf : CallFix p m c cL_law 4 s #[Value.ref b] gT R_law) (hX : va_X b Ln xs s s.heap) (hbl : b < s.heap.size) (hbA : ¬ A b) (hA : ∀ q : Nat, s.heap.size ≤ q → A q) (hK1 : va_K D vcl (dT cB cI_ cO) s) (hK2 : va_K D vcl (mT cB2 cI2 cZ) s) (hZ : zA z A s s.heap) (hN : zB z s) (hi4 : i + 4 ≤ Ln) (hLn : Ln ≤ 2048) (hS : va_S A s.heap H locs) (hj : jS D A z cB cI_ cO dk h0 q cB2 cI2 cZ H M (rm + 1)) (hcc : cells + 1100 + 3 * (1000 - M) ≤ 600000) (hss : slots + 13800 + 6 * (1000 - M) ≤ 7302250) (hl : lv_has ls 4 [(3, .int (nI i)), (2, .ref h0), (1, .ref dk), (0, .ref b)])
    (kk : ∀ (M2 cells2 slots2 : Nat) (H : Heap) (locs : List Loc) (ls : Array Slot), M ≤ M2 → M2 ≤ 1000 → cells2 ≤ cells + 1100 + 3 * (M2 - M) → slots2 ≤ slots + 13800 + 6 * (M2 - M) → va_S A s.heap H locs → jS D A z cB cI_ cO dk h0 q cB2 cI2 cZ H M2 rm → lv_has ls 4 [(3, .int (nI i)), (2, .ref h0), (1, .ref dk), (0, .ref b)] → W p l e room_1 s m #[Value.ref b] below meth c H locs cells2 slots2 Q (F0 m 702 ls [])) : W p l e room_1 s m #[Value.ref b] below meth c H locs cells slots Q (F0 m 528 ls []) := by
  obtain ⟨hx, hb, hml, hown, hts⟩ := id hf
  have hy0 : i < Ln := by omega
  have hy1 : i + 1 < Ln := by omega
  have hy2 : i + 2 < Ln := by omega
  have hy3 : i + 3 < Ln := by omega
  have hLb : Ln < 2 ^ 31 := by omega
  obtain ⟨L, g, I, F, T, n, Es, sl, P, mo, lk, gs, hP1, hD1, hP2, hD2, hsep, hcS, hrS, hdI, hnm⟩ := hj
  refine lv_aload_n hx hb dL_law_528 rfl (lv_at hl 2 rfl) ?_
  refine lv_aload_n hx hb dL_law_529 rfl (lv_at hl 3 rfl) ?_
  refine lv_iload_n hx hb dL_law_530 rfl (lv_at hl 0 rfl) ?_
  refine lv_iconst (v := 1) hx hb dL_law_531 (by decide) ?_
  refine lv_iadd hx hb dL_law_532 ?_
  refine q_seti (y := nI (i + 1)) (nI_add i 1) ?_
  refine q_sld (X := i + 1) hx hb hX hbl hbA hS hy1 hLb dL_law_533 ?_
  obtain ⟨M2, fr, lo, mc, ms, hrb, hC⟩ := C_where l D (xs (i + 1)) hcS hdI
  obtain ⟨b1, b2, b3, b4, b5, b6⟩ := hrb
  obtain ⟨fs, h_dk⟩ := hcS.dk
  have hr5 := rm5 b1 b2 b5 hcc
  have hr6 := rm6 b1 b2 b6 hss
  have hq5 := rq5 (cells := cells) b5
  have hq6 := rq6 (slots := slots) b6
  refine q2_ci (k := cells + mc) (n := slots + ms) hP1 hD1 hP2 hsep hS hA (o_rV (As := [.int (xs (i + 1))]) (rest := []) hf (hC _) k_1024 k_1021 k_1022 k_1023 k_84 (nA := 1) (by decide +kernel) ⟨show fr + 1 ≤ 13 from Nat.succ_le_succ b3, show 8 + (5 + 11) + lo ≤ 470 from rl9 (by decide) b4⟩ hK1 hP1 hD1 hS hA hZ hN h_dk rfl rfl rfl hl.1 rfl (Nat.le_of_ble_eq_true rfl) dL_law_534 ⟨show cells + mc ≤ 600000 from hr5, show slots + ms ≤ 7302250 from hr6⟩) (Nat.le_refl _) (Nat.le_refl _) (fun r1 u H locs hw _ hP1 hD1 hP2 hsep hS => ?_)
  obtain ⟨L, g, hw1, rfl⟩ := hw
  clear hcS h_dk hC
  refine lv_pop hx hb dL_law_537 rfl ?_
  refine lv_aload_n hx hb dL_law_538 rfl (lv_at hl 1 rfl) ?_
  refine lv_aload_n hx hb dL_law_539 rfl (lv_at hl 3 rfl) ?_
  refine lv_iload_n hx hb dL_law_540 rfl (lv_at hl 0 rfl) ?_
  refine lv_iconst (v := 1) hx hb dL_law_541 (by decide) ?_
  refine lv_iadd hx hb dL_law_542 ?_
  refine q_seti (y := nI (i + 1)) (nI_add i 1) ?_
  refine q_sld (X := i + 1) hx hb hX hbl hbA hS hy1 hLb dL_law_543 ?_
  refine q2_ci (k := cells + mc) (n := slots + ms) hP2 hD2 hP1 hsep.sy hS hA (q_rV (As := [.int (xs (i + 1))]) (rest := []) hf (R_where l D h0 q cB2 cI2 cZ (xs (i + 1)) hrS hdI _) k_1475 k_1472 k_1473 k_1474 k_98 (nA := 1) (by decide +kernel) ⟨by decide, by decide⟩ hK2 hP2 (ci := 11) (q0 := 0) rfl rfl rfl hP2 hK2 hD2 (fun _ _ _ _ h => h) (fun _ _ _ => trivial) rfl hl.1 rfl (Nat.le_of_ble_eq_true rfl) dL_law_544 ⟨hr5, hr6⟩) (Nat.le_refl _) (Nat.le_refl _) (fun r2 u H locs hw2 _ hP2 hD2 hP1 hsep hS => ?_)
  replace hsep := hsep.sy
  refine lv_pop hx hb dL_law_547 rfl ?_
  refine lv_goto (tgt := 702) hx hb dL_law_548 (by decide) ?_
  obtain ⟨I2, F2, hr2, hv2, rfl⟩ := hw2
  obtain ⟨hw1, hv1⟩ := hw1
  exact kk M2 (cells + mc) (slots + ms) H locs ls b1 b2 hq5 hq6 hS ⟨L, g, I2, F2, T, n, Es, sl, P, mo, lk, gs, hP1, hD1, hP2, hD2, hsep, hw1, hr2, (hdI.dn (Nat.le_succ _)), hnm⟩ (lv_sub hl (l' := [(3, .int (nI i)), (2, .ref h0), (1, .ref dk), (0, .ref b)]) [0, 1, 2, 3] rfl)
set_option maxHeartbeats 2000000 in
set_option maxRecDepth 100000 in
theorem lc_merge {p : Program} {l : Launch} {e : Env} {s : State} {m : MethodId} {below : List Frame} {meth : Method} {c : Code} {Q : State → Prop} {D : va_G} {A : Nat → Prop} {z : Nat → Nat} {cB cI_ cO cB2 cI2 cZ : ClassId} {dk h0 : Nat} {q : Nat → Nat} {b Ln i M rm cells slots : Nat} {xs : Nat → Int32} {H : Heap} {locs : List Loc} {ls : Array Slot} (hf : CallFix p m c cL_law 4 s #[Value.ref b] gT R_law) (hX : va_X b Ln xs s s.heap) (hbl : b < s.heap.size) (hbA : ¬ A b) (hA : ∀ q : Nat, s.heap.size ≤ q → A q) (hK1 : va_K D vcl (dT cB cI_ cO) s) (hK2 : va_K D vcl (mT cB2 cI2 cZ) s) (hZ : zA z A s s.heap) (hN : zB z s) (hi4 : i + 4 ≤ Ln) (hLn : Ln ≤ 2048) (hS : va_S A s.heap H locs) (hj : jS D A z cB cI_ cO dk h0 q cB2 cI2 cZ H M (rm + 1)) (hcc : cells + 1100 + 3 * (1000 - M) ≤ 600000) (hss : slots + 13800 + 6 * (1000 - M) ≤ 7302250) (hl : lv_has ls 4 [(3, .int (nI i)), (2, .ref h0), (1, .ref dk), (0, .ref b)])
    (kk : ∀ (M2 cells2 slots2 : Nat) (H : Heap) (locs : List Loc) (ls : Array Slot), M ≤ M2 → M2 ≤ 1000 → cells2 ≤ cells + 1100 + 3 * (M2 - M) → slots2 ≤ slots + 13800 + 6 * (M2 - M) → va_S A s.heap H locs → jS D A z cB cI_ cO dk h0 q cB2 cI2 cZ H M2 rm → lv_has ls 4 [(3, .int (nI i)), (2, .ref h0), (1, .ref dk), (0, .ref b)] → W p l e room_1 s m #[Value.ref b] below meth c H locs cells2 slots2 Q (F0 m 702 ls [])) : W p l e room_1 s m #[Value.ref b] below meth c H locs cells slots Q (F0 m 551 ls []) := by
  obtain ⟨hx, hb, hml, hown, hts⟩ := id hf
  have hy0 : i < Ln := by omega
  have hy1 : i + 1 < Ln := by omega
  have hy2 : i + 2 < Ln := by omega
  have hy3 : i + 3 < Ln := by omega
  have hLb : Ln < 2 ^ 31 := by omega
  obtain ⟨L, g, I, F, T, n, Es, sl, P, mo, lk, gs, hP1, hD1, hP2, hD2, hsep, hcS, hrS, hdI, hnm⟩ := hj
  refine lv_aload_n hx hb dL_law_551 rfl (lv_at hl 2 rfl) ?_
  obtain ⟨M2, fr, lo, mc, ms, hrb, hC⟩ := C_merge l D  hcS hdI
  obtain ⟨b1, b2, b3, b4, b5, b6⟩ := hrb
  obtain ⟨fs, h_dk⟩ := hcS.dk
  have hr5 := rm5 b1 b2 b5 hcc
  have hr6 := rm6 b1 b2 b6 hss
  have hq5 := rq5 (cells := cells) b5
  have hq6 := rq6 (slots := slots) b6
  refine q2_ci (k := cells + mc) (n := slots + ms) hP1 hD1 hP2 hsep hS hA (o_rV (As := []) (rest := []) hf (hC _) k_1036 k_1033 k_1034 k_1035 k_84 (nA := 0) (by decide +kernel) ⟨show fr + 1 ≤ 13 from Nat.succ_le_succ b3, show 8 + (3 + 11) + lo ≤ 470 from rl9 (by decide) b4⟩ hK1 hP1 hD1 hS hA hZ hN h_dk rfl rfl rfl hl.1 rfl (Nat.le_of_ble_eq_true rfl) dL_law_552 ⟨show cells + mc ≤ 600000 from hr5, show slots + ms ≤ 7302250 from hr6⟩) (Nat.le_refl _) (Nat.le_refl _) (fun r1 u H locs hw _ hP1 hD1 hP2 hsep hS => ?_)
  obtain ⟨L, g, hw1, rfl⟩ := hw
  clear hcS h_dk hC
  refine lv_pop hx hb dL_law_555 rfl ?_
  refine lv_aload_n hx hb dL_law_556 rfl (lv_at hl 1 rfl) ?_
  refine q2_ci (k := cells + mc) (n := slots + ms) hP2 hD2 hP1 hsep.sy hS hA (q_rV (As := []) (rest := []) hf (R_merge l D h0 q cB2 cI2 cZ  hrS hdI _) k_1479 k_1476 k_1477 k_1478 k_98 (nA := 0) (by decide +kernel) ⟨by decide, by decide⟩ hK2 hP2 (ci := 11) (q0 := 0) rfl rfl rfl hP2 hK2 hD2 (fun _ _ _ _ h => h) (fun _ _ _ => trivial) rfl hl.1 rfl (Nat.le_of_ble_eq_true rfl) dL_law_557 ⟨hr5, hr6⟩) (Nat.le_refl _) (Nat.le_refl _) (fun r2 u H locs hw2 _ hP2 hD2 hP1 hsep hS => ?_)
  replace hsep := hsep.sy
  refine lv_pop hx hb dL_law_560 rfl ?_
  refine lv_goto (tgt := 702) hx hb dL_law_561 (by decide) ?_
  obtain ⟨I2, F2, h2, rfl⟩ := hw2
  rcases h2 with ⟨h2, hv2, hr2⟩ | ⟨h2, hv2, hr2⟩
  · rcases hw1 with ⟨_, hv1, hw1⟩ | ⟨h1, _⟩
    · exact kk M2 (cells + mc) (slots + ms) H locs ls b1 b2 hq5 hq6 hS ⟨L, g, I2, F2, T, n, Es, sl, P, mo, lk, gs, hP1, hD1, hP2, hD2, hsep, hw1, hr2, (hdI.dn (Nat.le_succ _)), hnm⟩ (lv_sub hl (l' := [(3, .int (nI i)), (2, .ref h0), (1, .ref dk), (0, .ref b)]) [0, 1, 2, 3] rfl)
    · exact absurd h1 (by omega)
  · rcases hw1 with ⟨h1, _⟩ | ⟨_, hv1, hw1⟩
    · exact absurd h1 (by omega)
    · have hl1 : lk = 1 := by have := hdI.1.2.2.2.2; omega
      subst hl1
      exact kk M2 (cells + mc) (slots + ms) H locs ls b1 b2 hq5 hq6 hS ⟨L, g, I2, F2, T, n, (rnm ((mgN P P.length).map (fun e => Es.getD e dE)) (mgN P P.length).length), (fun i => sl ((mgN P P.length).getD i 0)), (upP (rnm ((mgN P P.length).map (fun e => Es.getD e dE)) (mgN P P.length).length) (rnm ((mgN P P.length).map (fun e => Es.getD e dE)) (mgN P P.length).length).length), mo, 0, gs, hP1, hD1, hP2, hD2, hsep, hw1, (hr2 gs), (hdI.mg (Nat.le_succ _) rfl), nm_mg⟩ (lv_sub hl (l' := [(3, .int (nI i)), (2, .ref h0), (1, .ref dk), (0, .ref b)]) [0, 1, 2, 3] rfl)
set_option maxHeartbeats 2000000 in
set_option maxRecDepth 100000 in
theorem lc_scenes {p : Program} {l : Launch} {e : Env} {s : State} {m : MethodId} {below : List Frame} {meth : Method} {c : Code} {Q : State → Prop} {D : va_G} {A : Nat → Prop} {z : Nat → Nat} {cB cI_ cO cB2 cI2 cZ : ClassId} {dk h0 : Nat} {q : Nat → Nat} {b Ln i M rm cells slots : Nat} {xs : Nat → Int32} {H : Heap} {locs : List Loc} {ls : Array Slot} (hf : CallFix p m c cL_law 4 s #[Value.ref b] gT R_law) (hX : va_X b Ln xs s s.heap) (hbl : b < s.heap.size) (hbA : ¬ A b) (hA : ∀ q : Nat, s.heap.size ≤ q → A q) (hK1 : va_K D vcl (dT cB cI_ cO) s) (hK2 : va_K D vcl (mT cB2 cI2 cZ) s) (hZ : zA z A s s.heap) (hN : zB z s) (hi4 : i + 4 ≤ Ln) (hLn : Ln ≤ 2048) (hS : va_S A s.heap H locs) (hj : jS D A z cB cI_ cO dk h0 q cB2 cI2 cZ H M (rm + 1)) (hcc : cells + 1100 + 3 * (1000 - M) ≤ 600000) (hss : slots + 13800 + 6 * (1000 - M) ≤ 7302250) (hl : lv_has ls 4 [(3, .int (nI i)), (2, .ref h0), (1, .ref dk), (0, .ref b)])
    (kk : ∀ (M2 cells2 slots2 : Nat) (H : Heap) (locs : List Loc) (ls : Array Slot), M ≤ M2 → M2 ≤ 1000 → cells2 ≤ cells + 1100 + 3 * (M2 - M) → slots2 ≤ slots + 13800 + 6 * (M2 - M) → va_S A s.heap H locs → jS D A z cB cI_ cO dk h0 q cB2 cI2 cZ H M2 rm → lv_has ls 4 [(3, .int (nI i)), (2, .ref h0), (1, .ref dk), (0, .ref b)] → W p l e room_1 s m #[Value.ref b] below meth c H locs cells2 slots2 Q (F0 m 702 ls [])) : W p l e room_1 s m #[Value.ref b] below meth c H locs cells slots Q (F0 m 564 ls []) := by
  obtain ⟨hx, hb, hml, hown, hts⟩ := id hf
  have hy0 : i < Ln := by omega
  have hy1 : i + 1 < Ln := by omega
  have hy2 : i + 2 < Ln := by omega
  have hy3 : i + 3 < Ln := by omega
  have hLb : Ln < 2 ^ 31 := by omega
  obtain ⟨L, g, I, F, T, n, Es, sl, P, mo, lk, gs, hP1, hD1, hP2, hD2, hsep, hcS, hrS, hdI, hnm⟩ := hj
  refine lv_aload_n hx hb dL_law_564 rfl (lv_at hl 2 rfl) ?_
  obtain ⟨M2, fr, lo, mc, ms, hrb, hC⟩ := C_scenes l D  hcS hdI
  obtain ⟨b1, b2, b3, b4, b5, b6⟩ := hrb
  obtain ⟨fs, h_dk⟩ := hcS.dk
  have hr5 := rm5 b1 b2 b5 hcc
  have hr6 := rm6 b1 b2 b6 hss
  have hq5 := rq5 (cells := cells) b5
  have hq6 := rq6 (slots := slots) b6
  refine q2_ci (k := cells + mc) (n := slots + ms) hP1 hD1 hP2 hsep hS hA (o_rV (As := []) (rest := []) hf (hC _) k_1041 k_1038 k_1039 k_1040 k_84 (nA := 0) (by decide +kernel) ⟨show fr + 1 ≤ 13 from Nat.succ_le_succ b3, show 8 + (1 + 11) + lo ≤ 470 from rl9 (by decide) b4⟩ hK1 hP1 hD1 hS hA hZ hN h_dk rfl rfl rfl hl.1 rfl (Nat.le_of_ble_eq_true rfl) dL_law_565 ⟨show cells + mc ≤ 600000 from hr5, show slots + ms ≤ 7302250 from hr6⟩) (Nat.le_refl _) (Nat.le_refl _) (fun r1 u H locs hw _ hP1 hD1 hP2 hsep hS => ?_)
  obtain ⟨L, g, hw1, rfl⟩ := hw
  clear hcS h_dk hC
  refine lv_pop hx hb dL_law_568 rfl ?_
  refine lv_aload_n hx hb dL_law_569 rfl (lv_at hl 1 rfl) ?_
  refine q2_ci (k := cells + mc) (n := slots + ms) hP2 hD2 hP1 hsep.sy hS hA (q_rV (As := []) (rest := []) hf (R_scenes l D h0 q cB2 cI2 cZ  hrS hdI _) k_1483 k_1480 k_1481 k_1482 k_98 (nA := 0) (by decide +kernel) ⟨by decide, by decide⟩ hK2 hP2 (ci := 11) (q0 := 0) rfl rfl rfl hP2 hK2 hD2 (fun _ _ _ _ h => h) (fun _ _ _ => trivial) rfl hl.1 rfl (Nat.le_of_ble_eq_true rfl) dL_law_570 ⟨hr5, hr6⟩) (Nat.le_refl _) (Nat.le_refl _) (fun r2 u H locs hw2 _ hP2 hD2 hP1 hsep hS => ?_)
  replace hsep := hsep.sy
  refine lv_pop hx hb dL_law_573 rfl ?_
  refine lv_goto (tgt := 702) hx hb dL_law_574 (by decide) ?_
  obtain ⟨I2, F2, hr2, hv2, rfl⟩ := hw2
  obtain ⟨hw1, hv1⟩ := hw1
  exact kk M2 (cells + mc) (slots + ms) H locs ls b1 b2 hq5 hq6 hS ⟨L, g, I2, F2, T, n, Es, sl, P, mo, lk, gs, hP1, hD1, hP2, hD2, hsep, hw1, hr2, (hdI.dn (Nat.le_succ _)), hnm⟩ (lv_sub hl (l' := [(3, .int (nI i)), (2, .ref h0), (1, .ref dk), (0, .ref b)]) [0, 1, 2, 3] rfl)
set_option maxHeartbeats 2000000 in
set_option maxRecDepth 100000 in
theorem lc_scene {p : Program} {l : Launch} {e : Env} {s : State} {m : MethodId} {below : List Frame} {meth : Method} {c : Code} {Q : State → Prop} {D : va_G} {A : Nat → Prop} {z : Nat → Nat} {cB cI_ cO cB2 cI2 cZ : ClassId} {dk h0 : Nat} {q : Nat → Nat} {b Ln i M rm cells slots : Nat} {xs : Nat → Int32} {H : Heap} {locs : List Loc} {ls : Array Slot} (hf : CallFix p m c cL_law 4 s #[Value.ref b] gT R_law) (hX : va_X b Ln xs s s.heap) (hbl : b < s.heap.size) (hbA : ¬ A b) (hA : ∀ q : Nat, s.heap.size ≤ q → A q) (hK1 : va_K D vcl (dT cB cI_ cO) s) (hK2 : va_K D vcl (mT cB2 cI2 cZ) s) (hZ : zA z A s s.heap) (hN : zB z s) (hi4 : i + 4 ≤ Ln) (hLn : Ln ≤ 2048) (hS : va_S A s.heap H locs) (hj : jS D A z cB cI_ cO dk h0 q cB2 cI2 cZ H M (rm + 1)) (hcc : cells + 1100 + 3 * (1000 - M) ≤ 600000) (hss : slots + 13800 + 6 * (1000 - M) ≤ 7302250) (hl : lv_has ls 4 [(3, .int (nI i)), (2, .ref h0), (1, .ref dk), (0, .ref b)])
    (kk : ∀ (M2 cells2 slots2 : Nat) (H : Heap) (locs : List Loc) (ls : Array Slot), M ≤ M2 → M2 ≤ 1000 → cells2 ≤ cells + 1100 + 3 * (M2 - M) → slots2 ≤ slots + 13800 + 6 * (M2 - M) → va_S A s.heap H locs → jS D A z cB cI_ cO dk h0 q cB2 cI2 cZ H M2 rm → lv_has ls 4 [(3, .int (nI i)), (2, .ref h0), (1, .ref dk), (0, .ref b)] → W p l e room_1 s m #[Value.ref b] below meth c H locs cells2 slots2 Q (F0 m 702 ls [])) : W p l e room_1 s m #[Value.ref b] below meth c H locs cells slots Q (F0 m 577 ls []) := by
  obtain ⟨hx, hb, hml, hown, hts⟩ := id hf
  have hy0 : i < Ln := by omega
  have hy1 : i + 1 < Ln := by omega
  have hy2 : i + 2 < Ln := by omega
  have hy3 : i + 3 < Ln := by omega
  have hLb : Ln < 2 ^ 31 := by omega
  obtain ⟨L, g, I, F, T, n, Es, sl, P, mo, lk, gs, hP1, hD1, hP2, hD2, hsep, hcS, hrS, hdI, hnm⟩ := hj
  refine lv_aload_n hx hb dL_law_577 rfl (lv_at hl 2 rfl) ?_
  refine lv_aload_n hx hb dL_law_578 rfl (lv_at hl 3 rfl) ?_
  refine lv_iload_n hx hb dL_law_579 rfl (lv_at hl 0 rfl) ?_
  refine lv_iconst (v := 1) hx hb dL_law_580 (by decide) ?_
  refine lv_iadd hx hb dL_law_581 ?_
  refine q_seti (y := nI (i + 1)) (nI_add i 1) ?_
  refine q_sld (X := i + 1) hx hb hX hbl hbA hS hy1 hLb dL_law_582 ?_
  refine lv_aload_n hx hb dL_law_583 rfl (lv_at hl 3 rfl) ?_
  refine lv_iload_n hx hb dL_law_584 rfl (lv_at hl 0 rfl) ?_
  refine lv_iconst (v := 2) hx hb dL_law_585 (by decide) ?_
  refine lv_iadd hx hb dL_law_586 ?_
  refine q_seti (y := nI (i + 2)) (nI_add i 2) ?_
  refine q_sld (X := i + 2) hx hb hX hbl hbA hS hy2 hLb dL_law_587 ?_
  obtain ⟨M2, fr, lo, mc, ms, hrb, hC⟩ := C_scene l D (xs (i + 1)) (xs (i + 2)) hcS hdI
  obtain ⟨b1, b2, b3, b4, b5, b6⟩ := hrb
  obtain ⟨fs, h_dk⟩ := hcS.dk
  have hr5 := rm5 b1 b2 b5 hcc
  have hr6 := rm6 b1 b2 b6 hss
  have hq5 := rq5 (cells := cells) b5
  have hq6 := rq6 (slots := slots) b6
  refine q2_ci (k := cells + mc) (n := slots + ms) hP1 hD1 hP2 hsep hS hA (o_rV (As := [.int (xs (i + 1)), .int (xs (i + 2))]) (rest := []) hf (hC _) k_1056 k_1053 k_1054 k_1055 k_84 (nA := 2) (by decide +kernel) ⟨show fr + 1 ≤ 13 from Nat.succ_le_succ b3, show 8 + (5 + 11) + lo ≤ 470 from rl9 (by decide) b4⟩ hK1 hP1 hD1 hS hA hZ hN h_dk rfl rfl rfl hl.1 rfl (Nat.le_of_ble_eq_true rfl) dL_law_588 ⟨show cells + mc ≤ 600000 from hr5, show slots + ms ≤ 7302250 from hr6⟩) (Nat.le_refl _) (Nat.le_refl _) (fun r1 u H locs hw _ hP1 hD1 hP2 hsep hS => ?_)
  obtain ⟨L, g, hw1, rfl⟩ := hw
  clear hcS h_dk hC
  refine lv_pop hx hb dL_law_591 rfl ?_
  refine lv_aload_n hx hb dL_law_592 rfl (lv_at hl 1 rfl) ?_
  refine lv_aload_n hx hb dL_law_593 rfl (lv_at hl 3 rfl) ?_
  refine lv_iload_n hx hb dL_law_594 rfl (lv_at hl 0 rfl) ?_
  refine lv_iconst (v := 1) hx hb dL_law_595 (by decide) ?_
  refine lv_iadd hx hb dL_law_596 ?_
  refine q_seti (y := nI (i + 1)) (nI_add i 1) ?_
  refine q_sld (X := i + 1) hx hb hX hbl hbA hS hy1 hLb dL_law_597 ?_
  refine lv_aload_n hx hb dL_law_598 rfl (lv_at hl 3 rfl) ?_
  refine lv_iload_n hx hb dL_law_599 rfl (lv_at hl 0 rfl) ?_
  refine lv_iconst (v := 2) hx hb dL_law_600 (by decide) ?_
  refine lv_iadd hx hb dL_law_601 ?_
  refine q_seti (y := nI (i + 2)) (nI_add i 2) ?_
  refine q_sld (X := i + 2) hx hb hX hbl hbA hS hy2 hLb dL_law_602 ?_
  refine q2_ci (k := cells + mc) (n := slots + ms) hP2 hD2 hP1 hsep.sy hS hA (q_rV (As := [.int (xs (i + 1)), .int (xs (i + 2))]) (rest := []) hf (R_scene l D h0 q cB2 cI2 cZ (xs (i + 1)) (xs (i + 2)) hrS hdI _) k_1495 k_1492 k_1493 k_1494 k_98 (nA := 2) (by decide +kernel) ⟨by decide, by decide⟩ hK2 hP2 (ci := 11) (q0 := 0) rfl rfl rfl hP2 hK2 hD2 (fun _ _ _ _ h => h) (fun _ _ _ => trivial) rfl hl.1 rfl (Nat.le_of_ble_eq_true rfl) dL_law_603 ⟨hr5, hr6⟩) (Nat.le_refl _) (Nat.le_refl _) (fun r2 u H locs hw2 _ hP2 hD2 hP1 hsep hS => ?_)
  replace hsep := hsep.sy
  refine lv_pop hx hb dL_law_606 rfl ?_
  refine lv_goto (tgt := 702) hx hb dL_law_607 (by decide) ?_
  obtain ⟨I2, F2, hr2, rfl⟩ := hw2
  exact kk M2 (cells + mc) (slots + ms) H locs ls b1 b2 hq5 hq6 hS ⟨L, g, I2, F2, T, n, Es, sl, P, mo, lk, gs, hP1, hD1, hP2, hD2, hsep, hw1, hr2, (hdI.dn (Nat.le_succ _)), hnm⟩ (lv_sub hl (l' := [(3, .int (nI i)), (2, .ref h0), (1, .ref dk), (0, .ref b)]) [0, 1, 2, 3] rfl)
set_option maxHeartbeats 2000000 in
set_option maxRecDepth 100000 in
theorem lc_who {p : Program} {l : Launch} {e : Env} {s : State} {m : MethodId} {below : List Frame} {meth : Method} {c : Code} {Q : State → Prop} {D : va_G} {A : Nat → Prop} {z : Nat → Nat} {cB cI_ cO cB2 cI2 cZ : ClassId} {dk h0 : Nat} {q : Nat → Nat} {b Ln i M rm cells slots : Nat} {xs : Nat → Int32} {H : Heap} {locs : List Loc} {ls : Array Slot} (hf : CallFix p m c cL_law 4 s #[Value.ref b] gT R_law) (hX : va_X b Ln xs s s.heap) (hbl : b < s.heap.size) (hbA : ¬ A b) (hA : ∀ q : Nat, s.heap.size ≤ q → A q) (hK1 : va_K D vcl (dT cB cI_ cO) s) (hK2 : va_K D vcl (mT cB2 cI2 cZ) s) (hZ : zA z A s s.heap) (hN : zB z s) (hi4 : i + 4 ≤ Ln) (hLn : Ln ≤ 2048) (hS : va_S A s.heap H locs) (hj : jS D A z cB cI_ cO dk h0 q cB2 cI2 cZ H M (rm + 1)) (hcc : cells + 1100 + 3 * (1000 - M) ≤ 600000) (hss : slots + 13800 + 6 * (1000 - M) ≤ 7302250) (hl : lv_has ls 4 [(3, .int (nI i)), (2, .ref h0), (1, .ref dk), (0, .ref b)])
    (kk : ∀ (M2 cells2 slots2 : Nat) (H : Heap) (locs : List Loc) (ls : Array Slot), M ≤ M2 → M2 ≤ 1000 → cells2 ≤ cells + 1100 + 3 * (M2 - M) → slots2 ≤ slots + 13800 + 6 * (M2 - M) → va_S A s.heap H locs → jS D A z cB cI_ cO dk h0 q cB2 cI2 cZ H M2 rm → lv_has ls 4 [(3, .int (nI i)), (2, .ref h0), (1, .ref dk), (0, .ref b)] → W p l e room_1 s m #[Value.ref b] below meth c H locs cells2 slots2 Q (F0 m 702 ls [])) : W p l e room_1 s m #[Value.ref b] below meth c H locs cells slots Q (F0 m 610 ls []) := by
  obtain ⟨hx, hb, hml, hown, hts⟩ := id hf
  have hy0 : i < Ln := by omega
  have hy1 : i + 1 < Ln := by omega
  have hy2 : i + 2 < Ln := by omega
  have hy3 : i + 3 < Ln := by omega
  have hLb : Ln < 2 ^ 31 := by omega
  obtain ⟨L, g, I, F, T, n, Es, sl, P, mo, lk, gs, hP1, hD1, hP2, hD2, hsep, hcS, hrS, hdI, hnm⟩ := hj
  refine lv_aload_n hx hb dL_law_610 rfl (lv_at hl 2 rfl) ?_
  refine lv_aload_n hx hb dL_law_611 rfl (lv_at hl 3 rfl) ?_
  refine lv_iload_n hx hb dL_law_612 rfl (lv_at hl 0 rfl) ?_
  refine lv_iconst (v := 1) hx hb dL_law_613 (by decide) ?_
  refine lv_iadd hx hb dL_law_614 ?_
  refine q_seti (y := nI (i + 1)) (nI_add i 1) ?_
  refine q_sld (X := i + 1) hx hb hX hbl hbA hS hy1 hLb dL_law_615 ?_
  refine lv_aload_n hx hb dL_law_616 rfl (lv_at hl 3 rfl) ?_
  refine lv_iload_n hx hb dL_law_617 rfl (lv_at hl 0 rfl) ?_
  refine lv_iconst (v := 2) hx hb dL_law_618 (by decide) ?_
  refine lv_iadd hx hb dL_law_619 ?_
  refine q_seti (y := nI (i + 2)) (nI_add i 2) ?_
  refine q_sld (X := i + 2) hx hb hX hbl hbA hS hy2 hLb dL_law_620 ?_
  obtain ⟨M2, fr, lo, mc, ms, hrb, hC⟩ := C_who l D (xs (i + 1)) (xs (i + 2)) hcS hdI
  obtain ⟨b1, b2, b3, b4, b5, b6⟩ := hrb
  obtain ⟨fs, h_dk⟩ := hcS.dk
  have hr5 := rm5 b1 b2 b5 hcc
  have hr6 := rm6 b1 b2 b6 hss
  have hq5 := rq5 (cells := cells) b5
  have hq6 := rq6 (slots := slots) b6
  refine q2_ci (k := cells + mc) (n := slots + ms) hP1 hD1 hP2 hsep hS hA (o_rV (As := [.int (xs (i + 1)), .int (xs (i + 2))]) (rest := []) hf (hC _) k_1097 k_1094 k_1095 k_1096 k_84 (nA := 2) (by decide +kernel) ⟨show fr + 1 ≤ 13 from Nat.succ_le_succ b3, show 8 + (3 + 11) + lo ≤ 470 from rl9 (by decide) b4⟩ hK1 hP1 hD1 hS hA hZ hN h_dk rfl rfl rfl hl.1 rfl (Nat.le_of_ble_eq_true rfl) dL_law_621 ⟨show cells + mc ≤ 600000 from hr5, show slots + ms ≤ 7302250 from hr6⟩) (Nat.le_refl _) (Nat.le_refl _) (fun r1 u H locs hw _ hP1 hD1 hP2 hsep hS => ?_)
  obtain ⟨L, g, hw1, rfl⟩ := hw
  clear hcS h_dk hC
  refine lv_pop hx hb dL_law_624 rfl ?_
  refine lv_aload_n hx hb dL_law_625 rfl (lv_at hl 1 rfl) ?_
  refine lv_aload_n hx hb dL_law_626 rfl (lv_at hl 3 rfl) ?_
  refine lv_iload_n hx hb dL_law_627 rfl (lv_at hl 0 rfl) ?_
  refine lv_iconst (v := 1) hx hb dL_law_628 (by decide) ?_
  refine lv_iadd hx hb dL_law_629 ?_
  refine q_seti (y := nI (i + 1)) (nI_add i 1) ?_
  refine q_sld (X := i + 1) hx hb hX hbl hbA hS hy1 hLb dL_law_630 ?_
  refine lv_aload_n hx hb dL_law_631 rfl (lv_at hl 3 rfl) ?_
  refine lv_iload_n hx hb dL_law_632 rfl (lv_at hl 0 rfl) ?_
  refine lv_iconst (v := 2) hx hb dL_law_633 (by decide) ?_
  refine lv_iadd hx hb dL_law_634 ?_
  refine q_seti (y := nI (i + 2)) (nI_add i 2) ?_
  refine q_sld (X := i + 2) hx hb hX hbl hbA hS hy2 hLb dL_law_635 ?_
  refine q2_ci (k := cells + mc) (n := slots + ms) hP2 hD2 hP1 hsep.sy hS hA (q_rV (As := [.int (xs (i + 1)), .int (xs (i + 2))]) (rest := []) hf (R_who l D h0 q cB2 cI2 cZ (xs (i + 1)) (xs (i + 2)) hrS hdI _) k_1520 k_1517 k_1518 k_1519 k_98 (nA := 2) (by decide +kernel) ⟨by decide, by decide⟩ hK2 hP2 (ci := 11) (q0 := 0) rfl rfl rfl hP2 hK2 hD2 (fun _ _ _ _ h => h) (fun _ _ _ => trivial) rfl hl.1 rfl (Nat.le_of_ble_eq_true rfl) dL_law_636 ⟨hr5, hr6⟩) (Nat.le_refl _) (Nat.le_refl _) (fun r2 u H locs hw2 _ hP2 hD2 hP1 hsep hS => ?_)
  replace hsep := hsep.sy
  refine lv_pop hx hb dL_law_639 rfl ?_
  refine lv_goto (tgt := 702) hx hb dL_law_640 (by decide) ?_
  obtain ⟨I2, F2, hr2, rfl⟩ := hw2
  exact kk M2 (cells + mc) (slots + ms) H locs ls b1 b2 hq5 hq6 hS ⟨L, g, I2, F2, T, n, Es, sl, P, mo, lk, gs, hP1, hD1, hP2, hD2, hsep, hw1, hr2, (hdI.dn (Nat.le_succ _)), hnm⟩ (lv_sub hl (l' := [(3, .int (nI i)), (2, .ref h0), (1, .ref dk), (0, .ref b)]) [0, 1, 2, 3] rfl)
set_option maxHeartbeats 2000000 in
set_option maxRecDepth 100000 in
theorem lc_parts {p : Program} {l : Launch} {e : Env} {s : State} {m : MethodId} {below : List Frame} {meth : Method} {c : Code} {Q : State → Prop} {D : va_G} {A : Nat → Prop} {z : Nat → Nat} {cB cI_ cO cB2 cI2 cZ : ClassId} {dk h0 : Nat} {q : Nat → Nat} {b Ln i M rm cells slots : Nat} {xs : Nat → Int32} {H : Heap} {locs : List Loc} {ls : Array Slot} (hf : CallFix p m c cL_law 4 s #[Value.ref b] gT R_law) (hX : va_X b Ln xs s s.heap) (hbl : b < s.heap.size) (hbA : ¬ A b) (hA : ∀ q : Nat, s.heap.size ≤ q → A q) (hK1 : va_K D vcl (dT cB cI_ cO) s) (hK2 : va_K D vcl (mT cB2 cI2 cZ) s) (hZ : zA z A s s.heap) (hN : zB z s) (hi4 : i + 4 ≤ Ln) (hLn : Ln ≤ 2048) (hS : va_S A s.heap H locs) (hj : jS D A z cB cI_ cO dk h0 q cB2 cI2 cZ H M (rm + 1)) (hcc : cells + 1100 + 3 * (1000 - M) ≤ 600000) (hss : slots + 13800 + 6 * (1000 - M) ≤ 7302250) (hl : lv_has ls 4 [(3, .int (nI i)), (2, .ref h0), (1, .ref dk), (0, .ref b)])
    (kk : ∀ (M2 cells2 slots2 : Nat) (H : Heap) (locs : List Loc) (ls : Array Slot), M ≤ M2 → M2 ≤ 1000 → cells2 ≤ cells + 1100 + 3 * (M2 - M) → slots2 ≤ slots + 13800 + 6 * (M2 - M) → va_S A s.heap H locs → jS D A z cB cI_ cO dk h0 q cB2 cI2 cZ H M2 rm → lv_has ls 4 [(3, .int (nI i)), (2, .ref h0), (1, .ref dk), (0, .ref b)] → W p l e room_1 s m #[Value.ref b] below meth c H locs cells2 slots2 Q (F0 m 702 ls [])) : W p l e room_1 s m #[Value.ref b] below meth c H locs cells slots Q (F0 m 643 ls []) := by
  obtain ⟨hx, hb, hml, hown, hts⟩ := id hf
  have hy0 : i < Ln := by omega
  have hy1 : i + 1 < Ln := by omega
  have hy2 : i + 2 < Ln := by omega
  have hy3 : i + 3 < Ln := by omega
  have hLb : Ln < 2 ^ 31 := by omega
  obtain ⟨L, g, I, F, T, n, Es, sl, P, mo, lk, gs, hP1, hD1, hP2, hD2, hsep, hcS, hrS, hdI, hnm⟩ := hj
  refine lv_aload_n hx hb dL_law_643 rfl (lv_at hl 2 rfl) ?_
  refine lv_aload_n hx hb dL_law_644 rfl (lv_at hl 3 rfl) ?_
  refine lv_iload_n hx hb dL_law_645 rfl (lv_at hl 0 rfl) ?_
  refine lv_iconst (v := 1) hx hb dL_law_646 (by decide) ?_
  refine lv_iadd hx hb dL_law_647 ?_
  refine q_seti (y := nI (i + 1)) (nI_add i 1) ?_
  refine q_sld (X := i + 1) hx hb hX hbl hbA hS hy1 hLb dL_law_648 ?_
  obtain ⟨M2, fr, lo, mc, ms, hrb, hC⟩ := C_parts l D (xs (i + 1)) hcS hdI
  obtain ⟨b1, b2, b3, b4, b5, b6⟩ := hrb
  obtain ⟨fs, h_dk⟩ := hcS.dk
  have hr5 := rm5 b1 b2 b5 hcc
  have hr6 := rm6 b1 b2 b6 hss
  have hq5 := rq5 (cells := cells) b5
  have hq6 := rq6 (slots := slots) b6
  refine q2_ci (k := cells + mc) (n := slots + ms) hP1 hD1 hP2 hsep hS hA (o_rV (As := [.int (xs (i + 1))]) (rest := []) hf (hC _) k_1105 k_1102 k_1103 k_1104 k_84 (nA := 1) (by decide +kernel) ⟨show fr + 1 ≤ 13 from Nat.succ_le_succ b3, show 8 + (6 + 11) + lo ≤ 470 from rl9 (by decide) b4⟩ hK1 hP1 hD1 hS hA hZ hN h_dk rfl rfl rfl hl.1 rfl (Nat.le_of_ble_eq_true rfl) dL_law_649 ⟨show cells + mc ≤ 600000 from hr5, show slots + ms ≤ 7302250 from hr6⟩) (Nat.le_refl _) (Nat.le_refl _) (fun r1 u H locs hw _ hP1 hD1 hP2 hsep hS => ?_)
  obtain ⟨L, g, hw1, rfl⟩ := hw
  clear hcS h_dk hC
  refine lv_pop hx hb dL_law_652 rfl ?_
  refine lv_aload_n hx hb dL_law_653 rfl (lv_at hl 1 rfl) ?_
  refine lv_aload_n hx hb dL_law_654 rfl (lv_at hl 3 rfl) ?_
  refine lv_iload_n hx hb dL_law_655 rfl (lv_at hl 0 rfl) ?_
  refine lv_iconst (v := 1) hx hb dL_law_656 (by decide) ?_
  refine lv_iadd hx hb dL_law_657 ?_
  refine q_seti (y := nI (i + 1)) (nI_add i 1) ?_
  refine q_sld (X := i + 1) hx hb hX hbl hbA hS hy1 hLb dL_law_658 ?_
  refine q2_ci (k := cells + mc) (n := slots + ms) hP2 hD2 hP1 hsep.sy hS hA (q_rV (As := [.int (xs (i + 1))]) (rest := []) hf (R_parts l D h0 q cB2 cI2 cZ (xs (i + 1)) hrS hdI _) k_1524 k_1521 k_1522 k_1523 k_98 (nA := 1) (by decide +kernel) ⟨by decide, by decide⟩ hK2 hP2 (ci := 11) (q0 := 0) rfl rfl rfl hP2 hK2 hD2 (fun _ _ _ _ h => h) (fun _ _ _ => trivial) rfl hl.1 rfl (Nat.le_of_ble_eq_true rfl) dL_law_659 ⟨hr5, hr6⟩) (Nat.le_refl _) (Nat.le_refl _) (fun r2 u H locs hw2 _ hP2 hD2 hP1 hsep hS => ?_)
  replace hsep := hsep.sy
  refine lv_pop hx hb dL_law_662 rfl ?_
  refine lv_goto (tgt := 702) hx hb dL_law_663 (by decide) ?_
  obtain ⟨I2, F2, hr2, hv2, rfl⟩ := hw2
  obtain ⟨hw1, hv1⟩ := hw1
  exact kk M2 (cells + mc) (slots + ms) H locs ls b1 b2 hq5 hq6 hS ⟨L, g, I2, F2, T, n, Es, sl, P, mo, lk, gs, hP1, hD1, hP2, hD2, hsep, hw1, hr2, (hdI.dn (Nat.le_succ _)), hnm⟩ (lv_sub hl (l' := [(3, .int (nI i)), (2, .ref h0), (1, .ref dk), (0, .ref b)]) [0, 1, 2, 3] rfl)
set_option maxHeartbeats 2000000 in
set_option maxRecDepth 100000 in
theorem lc_count {p : Program} {l : Launch} {e : Env} {s : State} {m : MethodId} {below : List Frame} {meth : Method} {c : Code} {Q : State → Prop} {D : va_G} {A : Nat → Prop} {z : Nat → Nat} {cB cI_ cO cB2 cI2 cZ : ClassId} {dk h0 : Nat} {q : Nat → Nat} {b Ln i M rm cells slots : Nat} {xs : Nat → Int32} {H : Heap} {locs : List Loc} {ls : Array Slot} (hf : CallFix p m c cL_law 4 s #[Value.ref b] gT R_law) (hX : va_X b Ln xs s s.heap) (hbl : b < s.heap.size) (hbA : ¬ A b) (hA : ∀ q : Nat, s.heap.size ≤ q → A q) (hK1 : va_K D vcl (dT cB cI_ cO) s) (hK2 : va_K D vcl (mT cB2 cI2 cZ) s) (hZ : zA z A s s.heap) (hN : zB z s) (hi4 : i + 4 ≤ Ln) (hLn : Ln ≤ 2048) (hS : va_S A s.heap H locs) (hj : jS D A z cB cI_ cO dk h0 q cB2 cI2 cZ H M (rm + 1)) (hcc : cells + 1100 + 3 * (1000 - M) ≤ 600000) (hss : slots + 13800 + 6 * (1000 - M) ≤ 7302250) (hl : lv_has ls 4 [(3, .int (nI i)), (2, .ref h0), (1, .ref dk), (0, .ref b)])
    (kk : ∀ (M2 cells2 slots2 : Nat) (H : Heap) (locs : List Loc) (ls : Array Slot), M ≤ M2 → M2 ≤ 1000 → cells2 ≤ cells + 1100 + 3 * (M2 - M) → slots2 ≤ slots + 13800 + 6 * (M2 - M) → va_S A s.heap H locs → jS D A z cB cI_ cO dk h0 q cB2 cI2 cZ H M2 rm → lv_has ls 4 [(3, .int (nI i)), (2, .ref h0), (1, .ref dk), (0, .ref b)] → W p l e room_1 s m #[Value.ref b] below meth c H locs cells2 slots2 Q (F0 m 702 ls [])) : W p l e room_1 s m #[Value.ref b] below meth c H locs cells slots Q (F0 m 666 ls []) := by
  obtain ⟨hx, hb, hml, hown, hts⟩ := id hf
  have hy0 : i < Ln := by omega
  have hy1 : i + 1 < Ln := by omega
  have hy2 : i + 2 < Ln := by omega
  have hy3 : i + 3 < Ln := by omega
  have hLb : Ln < 2 ^ 31 := by omega
  obtain ⟨L, g, I, F, T, n, Es, sl, P, mo, lk, gs, hP1, hD1, hP2, hD2, hsep, hcS, hrS, hdI, hnm⟩ := hj
  refine lv_aload_n hx hb dL_law_666 rfl (lv_at hl 2 rfl) ?_
  refine lv_aload_n hx hb dL_law_667 rfl (lv_at hl 3 rfl) ?_
  refine lv_iload_n hx hb dL_law_668 rfl (lv_at hl 0 rfl) ?_
  refine lv_iconst (v := 1) hx hb dL_law_669 (by decide) ?_
  refine lv_iadd hx hb dL_law_670 ?_
  refine q_seti (y := nI (i + 1)) (nI_add i 1) ?_
  refine q_sld (X := i + 1) hx hb hX hbl hbA hS hy1 hLb dL_law_671 ?_
  obtain ⟨M2, fr, lo, mc, ms, hrb, hC⟩ := C_count l D (xs (i + 1)) hcS hdI
  obtain ⟨b1, b2, b3, b4, b5, b6⟩ := hrb
  obtain ⟨fs, h_dk⟩ := hcS.dk
  have hr5 := rm5 b1 b2 b5 hcc
  have hr6 := rm6 b1 b2 b6 hss
  have hq5 := rq5 (cells := cells) b5
  have hq6 := rq6 (slots := slots) b6
  refine q2_ci (k := cells + mc) (n := slots + ms) hP1 hD1 hP2 hsep hS hA (o_rV (As := [.int (xs (i + 1))]) (rest := []) hf (hC _) k_1110 k_1107 k_1108 k_1109 k_84 (nA := 1) (by decide +kernel) ⟨show fr + 1 ≤ 13 from Nat.succ_le_succ b3, show 8 + (2 + 11) + lo ≤ 470 from rl9 (by decide) b4⟩ hK1 hP1 hD1 hS hA hZ hN h_dk rfl rfl rfl hl.1 rfl (Nat.le_of_ble_eq_true rfl) dL_law_672 ⟨show cells + mc ≤ 600000 from hr5, show slots + ms ≤ 7302250 from hr6⟩) (Nat.le_refl _) (Nat.le_refl _) (fun r1 u H locs hw _ hP1 hD1 hP2 hsep hS => ?_)
  obtain ⟨L, g, hw1, rfl⟩ := hw
  clear hcS h_dk hC
  refine lv_aload_n hx hb dL_law_675 rfl (lv_at hl 1 rfl) ?_
  refine lv_aload_n hx hb dL_law_676 rfl (lv_at hl 3 rfl) ?_
  refine lv_iload_n hx hb dL_law_677 rfl (lv_at hl 0 rfl) ?_
  refine lv_iconst (v := 1) hx hb dL_law_678 (by decide) ?_
  refine lv_iadd hx hb dL_law_679 ?_
  refine q_seti (y := nI (i + 1)) (nI_add i 1) ?_
  refine q_sld (X := i + 1) hx hb hX hbl hbA hS hy1 hLb dL_law_680 ?_
  refine q2_ci (k := cells + mc) (n := slots + ms) hP2 hD2 hP1 hsep.sy hS hA (q_rV (As := [.int (xs (i + 1))]) (rest := [.int r1]) hf (R_count l D h0 q cB2 cI2 cZ (xs (i + 1)) hrS hdI _) k_1528 k_1525 k_1526 k_1527 k_98 (nA := 1) (by decide +kernel) ⟨by decide, by decide⟩ hK2 hP2 (ci := 11) (q0 := 0) rfl rfl rfl hP2 hK2 hD2 (fun _ _ _ _ h => h) (fun _ _ _ => trivial) rfl hl.1 rfl (Nat.le_of_ble_eq_true rfl) dL_law_681 ⟨hr5, hr6⟩) (Nat.le_refl _) (Nat.le_refl _) (fun r2 u H locs hw2 _ hP2 hD2 hP1 hsep hS => ?_)
  replace hsep := hsep.sy
  obtain ⟨I2, F2, hr2, hv2, rfl⟩ := hw2
  obtain ⟨hw1, hv1⟩ := hw1
  exact lv_icmp_eq (tgt := 702) hx hb dL_law_684 (by decide) (fun _ => kk M2 (cells + mc) (slots + ms) H locs ls b1 b2 hq5 hq6 hS ⟨L, g, I2, F2, T, n, Es, sl, P, mo, lk, gs, hP1, hD1, hP2, hD2, hsep, hw1, hr2, (hdI.dn (Nat.le_succ _)), hnm⟩ (lv_sub hl (l' := [(3, .int (nI i)), (2, .ref h0), (1, .ref dk), (0, .ref b)]) [0, 1, 2, 3] rfl)) (fun hno => absurd (hv1.trans hv2.symm) hno)
set_option maxHeartbeats 2000000 in
set_option maxRecDepth 100000 in
theorem lc_digest {p : Program} {l : Launch} {e : Env} {s : State} {m : MethodId} {below : List Frame} {meth : Method} {c : Code} {Q : State → Prop} {D : va_G} {A : Nat → Prop} {z : Nat → Nat} {cB cI_ cO cB2 cI2 cZ : ClassId} {dk h0 : Nat} {q : Nat → Nat} {b Ln i M rm cells slots : Nat} {xs : Nat → Int32} {H : Heap} {locs : List Loc} {ls : Array Slot} (hf : CallFix p m c cL_law 4 s #[Value.ref b] gT R_law) (hX : va_X b Ln xs s s.heap) (hbl : b < s.heap.size) (hbA : ¬ A b) (hA : ∀ q : Nat, s.heap.size ≤ q → A q) (hK1 : va_K D vcl (dT cB cI_ cO) s) (hK2 : va_K D vcl (mT cB2 cI2 cZ) s) (hZ : zA z A s s.heap) (hN : zB z s) (hi4 : i + 4 ≤ Ln) (hLn : Ln ≤ 2048) (hS : va_S A s.heap H locs) (hj : jS D A z cB cI_ cO dk h0 q cB2 cI2 cZ H M (rm + 1)) (hcc : cells + 1100 + 3 * (1000 - M) ≤ 600000) (hss : slots + 13800 + 6 * (1000 - M) ≤ 7302250) (hl : lv_has ls 4 [(3, .int (nI i)), (2, .ref h0), (1, .ref dk), (0, .ref b)])
    (kk : ∀ (M2 cells2 slots2 : Nat) (H : Heap) (locs : List Loc) (ls : Array Slot), M ≤ M2 → M2 ≤ 1000 → cells2 ≤ cells + 1100 + 3 * (M2 - M) → slots2 ≤ slots + 13800 + 6 * (M2 - M) → va_S A s.heap H locs → jS D A z cB cI_ cO dk h0 q cB2 cI2 cZ H M2 rm → lv_has ls 4 [(3, .int (nI i)), (2, .ref h0), (1, .ref dk), (0, .ref b)] → W p l e room_1 s m #[Value.ref b] below meth c H locs cells2 slots2 Q (F0 m 702 ls [])) : W p l e room_1 s m #[Value.ref b] below meth c H locs cells slots Q (F0 m 689 ls []) := by
  obtain ⟨hx, hb, hml, hown, hts⟩ := id hf
  have hy0 : i < Ln := by omega
  have hy1 : i + 1 < Ln := by omega
  have hy2 : i + 2 < Ln := by omega
  have hy3 : i + 3 < Ln := by omega
  have hLb : Ln < 2 ^ 31 := by omega
  obtain ⟨L, g, I, F, T, n, Es, sl, P, mo, lk, gs, hP1, hD1, hP2, hD2, hsep, hcS, hrS, hdI, hnm⟩ := hj
  refine lv_aload_n hx hb dL_law_689 rfl (lv_at hl 2 rfl) ?_
  obtain ⟨M2, fr, lo, mc, ms, hrb, hC⟩ := C_digest l D  hcS hdI
  obtain ⟨b1, b2, b3, b4, b5, b6⟩ := hrb
  obtain ⟨fs, h_dk⟩ := hcS.dk
  have hr5 := rm5 b1 b2 b5 hcc
  have hr6 := rm6 b1 b2 b6 hss
  have hq5 := rq5 (cells := cells) b5
  have hq6 := rq6 (slots := slots) b6
  refine q2_cl (k := cells + mc) (n := slots + ms) hP1 hD1 hP2 hsep hS hA (o_rV (As := []) (rest := []) hf (hC _) k_1122 k_1119 k_1120 k_1121 k_84 (nA := 0) (by decide +kernel) ⟨show fr + 1 ≤ 13 from Nat.succ_le_succ b3, show 8 + (4 + 11) + lo ≤ 470 from rl9 (by decide) b4⟩ hK1 hP1 hD1 hS hA hZ hN h_dk rfl rfl rfl hl.1 rfl (Nat.le_of_ble_eq_true rfl) dL_law_690 ⟨show cells + mc ≤ 600000 from hr5, show slots + ms ≤ 7302250 from hr6⟩) (Nat.le_refl _) (Nat.le_refl _) (fun r1 u H locs hw _ hP1 hD1 hP2 hsep hS => ?_)
  obtain ⟨L, g, hw1, rfl⟩ := hw
  clear hcS h_dk hC
  refine lv_pop2_2 hx hb dL_law_693 rfl ?_
  refine lv_aload_n hx hb dL_law_694 rfl (lv_at hl 1 rfl) ?_
  refine q2_cl (k := cells + mc) (n := slots + ms) hP2 hD2 hP1 hsep.sy hS hA (q_rV (As := []) (rest := []) hf (R_digest l D h0 q cB2 cI2 cZ  hrS hdI _) k_1532 k_1529 k_1530 k_1531 k_98 (nA := 0) (by decide +kernel) ⟨by decide, by decide⟩ hK2 hP2 (ci := 11) (q0 := 0) rfl rfl rfl hP2 hK2 hD2 (fun _ _ _ _ h => h) (fun _ _ _ => trivial) rfl hl.1 rfl (Nat.le_of_ble_eq_true rfl) dL_law_695 ⟨hr5, hr6⟩) (Nat.le_refl _) (Nat.le_refl _) (fun r2 u H locs hw2 _ hP2 hD2 hP1 hsep hS => ?_)
  replace hsep := hsep.sy
  refine lv_pop2_2 hx hb dL_law_698 rfl ?_
  refine lv_goto (tgt := 702) hx hb dL_law_699 (by decide) ?_
  obtain ⟨I2, F2, hr2, rfl⟩ := hw2
  exact kk M2 (cells + mc) (slots + ms) H locs ls b1 b2 hq5 hq6 hS ⟨L, g, I2, F2, T, n, Es, sl, P, mo, lk, gs, hP1, hD1, hP2, hD2, hsep, hw1, hr2, (hdI.dn (Nat.le_succ _)), hnm⟩ (lv_sub hl (l' := [(3, .int (nI i)), (2, .ref h0), (1, .ref dk), (0, .ref b)]) [0, 1, 2, 3] rfl)
