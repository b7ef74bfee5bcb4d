def mO (q : Nat → Nat) (I : Nat → Int32) : List Value := [.ref (q 0), .int (I 1), .int (I 2), .int (I 3), .ref (q 4), .ref (q 5), .ref (q 6), .ref (q 7), .ref (q 8), .ref (q 9), .ref (q 10), .ref (q 11), .ref (q 12), .ref (q 13), .int (I 14), .ref (q 15), .ref (q 16), .ref (q 17), .ref (q 18), .int (I 19), .int (I 20), .int (I 21), .ref (q 22), .ref (q 23), .ref (q 24), .int (I 25), .int (I 26), .int (I 27), .int (I 28), .int (I 29), .ref (q 30), .ref (q 31), .ref (q 32), .ref (q 33), .ref (q 34), .ref (q 35), .ref (q 36), .ref (q 37), .ref (q 38), .ref (q 39), .ref (q 40), .ref (q 41), .ref (q 42), .ref (q 43), .int (I 44), .ref (q 45), .int (I 46), .ref (q 47)]
def mW (h0 : Nat) (q : Nat → Nat) (cB cI cZ : ClassId) (I : Nat → Int32) (F : Nat → Nat → Int32) : va_W := [(h0, .inr (11, mO q I)), (q 0, .inl (cB, 1200, .inl (F 0))), (q 4, .inl (cI, 60, .inl (F 4))), (q 5, .inl (cZ, 60, .inl (F 5))), (q 6, .inl (cI, 60, .inl (F 6))), (q 7, .inl (cZ, 60, .inl (F 7))), (q 8, .inl (cI, 60, .inl (F 8))), (q 9, .inl (cI, 60, .inl (F 9))), (q 10, .inl (cB, 72000, .inl (F 10))), (q 11, .inl (cI, 60, .inl (F 11))), (q 12, .inl (cI, 7860, .inl (F 12))), (q 13, .inl (cI, 7860, .inl (F 13))), (q 15, .inl (cI, 8000, .inl (F 15))), (q 16, .inl (cI, 8000, .inl (F 16))), (q 17, .inl (cI, 8000, .inl (F 17))), (q 18, .inl (cI, 8000, .inl (F 18))), (q 22, .inl (cI, 1201, .inl (F 22))), (q 23, .inl (cI, 1201, .inl (F 23))), (q 24, .inl (cI, 1201, .inl (F 24))), (q 30, .inl (cI, 8001, .inl (F 30))), (q 31, .inl (cI, 8000, .inl (F 31))), (q 32, .inl (cI, 8000, .inl (F 32))), (q 33, .inl (cI, 8000, .inl (F 33))), (q 34, .inl (cI, 8000, .inl (F 34))), (q 35, .inl (cI, 8001, .inl (F 35))), (q 36, .inl (cI, 8001, .inl (F 36))), (q 37, .inl (cI, 8000, .inl (F 37))), (q 38, .inl (cI, 8000, .inl (F 38))), (q 39, .inl (cI, 8000, .inl (F 39))), (q 40, .inl (cI, 8000, .inl (F 40))), (q 41, .inl (cI, 8000, .inl (F 41))), (q 42, .inl (cI, 60, .inl (F 42))), (q 43, .inl (cI, 60, .inl (F 43))), (q 45, .inl (cI, 60, .inl (F 45))), (q 47, .inl (cI, 60, .inl (F 47)))]
abbrev mT (cB cI cZ : ClassId) : List (ClassId × FieldType) := [(cB, .byte), (cI, .int), (cZ, .boolean)]
section QC
variable {p : Program} {l : Launch} {e : Env} {R : Room} {s : State} {m : MethodId} {args : Array Value} {below : List Frame} {meth : Method} {c : Code} {H : Heap} {locs : List Loc} {cells slots : Nat} {Q : State → Prop}
variable {cc : ByteArray} {pc nL : Nat} {ls : Array Slot} {rest st0 : List Value} {D : va_G} {A : Nat → Prop} {tys : List (ClassId × FieldType)} {ws : va_W} {own : String}
theorem q_all (hD : va_D A ws) (hS : va_S A s.heap H locs) (hA : ∀ q : Nat, s.heap.size ≤ q → A q) : ∀ q, va_A ws H.size q → A q := by
  intro q h
  rcases h with ⟨k, e, h⟩ | h
  · exact hD.2 k (q, e) h
  · exact hA q (Nat.le_trans hS.1 h)
theorem q_ci {post : Int32 → wU → Prop} {a : Array Value} {mc ms k n : Nat} (hK : va_K D vcl tys s) (hP : va_P D vcl ws H) (hD : va_D A ws) (hS : va_S A s.heap H locs) (hA : ∀ q : Nat, s.heap.size ≤ q → A q)
    (run : va_P D vcl ws H → va_K D vcl tys s → va_D A ws → va_Run p l e R s m args below meth c H locs cells slots mc ms (F0 m pc ls st0) rest (va_Qi post (wB D (va_A ws H.size)) (va_A ws H.size) a) (va_A ws H.size))
    (hk : cells + mc ≤ k) (hs : slots + ms ≤ n)
    (kk : ∀ (r : Int32) (u : wU) (H1 : Heap) (locs1 : List Loc), post r u → va_K D vcl u.2 s → va_P D vcl u.1 H1 → va_D A u.1 → va_S A s.heap H1 locs1 → W p l e R s m args below meth c H1 locs1 k n Q (F0 m (pc + 3) ls (.int r :: rest))) :
    W p l e R s m args below meth c H locs cells slots Q (F0 m pc ls st0) := by
  have hFc := q_all hD hS hA
  refine va_calli (run hP hK hD) hS (fun q _ h => hFc q h) hFc (fun r u t H1 locs1 ht hvm hw hB hz1 hk1 hS1 => ?_)
  obtain ⟨hP1, hK1, hD1⟩ := hB
  rw [ht] at hP1
  exact W.widen hk hs (kk r u H1 locs1 hw (va_K.moved hvm.symm hK1) hP1 (hD1.weaken (fun _ _ _ h => hFc _ h)) hS1)
theorem q_cv {post : wU → Prop} {a : Array Value} {mc ms k n : Nat} (hK : va_K D vcl tys s) (hP : va_P D vcl ws H) (hD : va_D A ws) (hS : va_S A s.heap H locs) (hA : ∀ q : Nat, s.heap.size ≤ q → A q)
    (run : va_P D vcl ws H → va_K D vcl tys s → va_D A ws → va_Run p l e R s m args below meth c H locs cells slots mc ms (F0 m pc ls st0) rest (va_Qv post (wB D (va_A ws H.size)) (va_A ws H.size) a) (va_A ws H.size))
    (hk : cells + mc ≤ k) (hs : slots + ms ≤ n)
    (kk : ∀ (u : wU) (H1 : Heap) (locs1 : List Loc), post u → va_K D vcl u.2 s → va_P D vcl u.1 H1 → va_D A u.1 → va_S A s.heap H1 locs1 → W p l e R s m args below meth c H1 locs1 k n Q (F0 m (pc + 3) ls rest)) :
    W p l e R s m args below meth c H locs cells slots Q (F0 m pc ls st0) := by
  have hFc := q_all hD hS hA
  refine va_callv (run hP hK hD) hS (fun q _ h => hFc q h) hFc (fun u t H1 locs1 ht hvm hw hB hz1 hk1 hS1 => ?_)
  obtain ⟨hP1, hK1, hD1⟩ := hB
  rw [ht] at hP1
  exact W.widen hk hs (kk u H1 locs1 hw (va_K.moved hvm.symm hK1) hP1 (hD1.weaken (fun _ _ _ h => hFc _ h)) hS1)
theorem q_zi {v : Int32} {ty : FieldType} {post : Int32 → wU → Prop} {mc ms : Nat} (F : CallFix p m c cc nL s args gT own) (hr : meth.sig.returnType = some ty) (hnar : narrow ty (.int v) = .int v) (hlocks : meth.locks = false) (hK : va_K D vcl tys s) (hP : va_P D vcl ws H) (hD : va_D A ws) (hS : va_S A s.heap H locs)
    (hc : cells ≤ mc) (hs : slots ≤ ms) (hp : post v (ws, tys)) (hdg : decode cc pc = .ok (.ireturn, 1)) :
    W p l e R s m args below meth c H locs cells slots (MQ below (va_Qi post (wB D A) A) args s mc ms A) (F0 m pc ls [.int v]) := by
  refine W.widen (k := mc) (n := ms) hc hs ?_
  exact W.zret F.1 F.2.1 hr hnar (fun t ht hW => ⟨⟨v, (ws, tys), rfl, hp, by rw [ht]; exact hP, va_K.moved hW.alike hK, hD⟩, hS.F ht⟩) hS.2.2 hdg hlocks
theorem q_zv {post : wU → Prop} {mc ms : Nat} (F : CallFix p m c cc nL s args gT own) (hr : meth.sig.returnType = none) (hlocks : meth.locks = false) (hK : va_K D vcl tys s) (hP : va_P D vcl ws H) (hD : va_D A ws) (hS : va_S A s.heap H locs)
    (hc : cells ≤ mc) (hs : slots ≤ ms) (hp : post (ws, tys)) (hdg : decode cc pc = .ok (.return_, 1)) :
    W p l e R s m args below meth c H locs cells slots (MQ below (va_Qv post (wB D A) A) args s mc ms A) (F0 m pc ls []) := by
  refine W.widen (k := mc) (n := ms) hc hs ?_
  exact W.vret F.1 F.2.1 hr (fun t ht hW => ⟨⟨(ws, tys), rfl, hp, by rw [ht]; exact hP, va_K.moved hW.alike hK, hD⟩, hS.F ht⟩) hS.2.2 hdg hlocks
end QC
section QN
variable {p : Program} {l : Launch} {e : Env} {R : Room} {s : State} {m : MethodId} {args : Array Value} {below : List Frame} {meth : Method} {c : Code} {H : Heap} {locs : List Loc} {cells slots : Nat} {Q : State → Prop}
variable {cc : ByteArray} {pc : Nat} {ls : Array Slot} {rest : List Value} {D : va_G} {A : Nat → Prop} {a : Nat} {tys : List (ClassId × FieldType)} {ws : va_W} {H0 : Heap}
theorem q_ild (hexec : p.tables.exec = Jvm.exec) (hb : c.code = cc) (hK : va_K D vcl tys s) (hP : va_P D vcl ws H) (q0 t0 : Nat) {cA : ClassId} {n : Nat} {f : Nat → Int32} (ha : ws[q0]? = some (a, .inl (cA, n, .inl f))) (ht : tys[t0]? = some (cA, .int)) {X : Nat} (hX : X < n) (hn : n < 2 ^ 31) (hdg : decode cc pc = .ok (.iaload, 1))
    (kk : W p l e R s m args below meth c H locs cells slots Q (F0 m (pc + 1) ls (.int (f X) :: rest))) : W p l e R s m args below meth c H locs cells slots Q (F0 m pc ls (.int (nI X) :: .ref a :: rest)) := by
  refine va_iald hexec hb hK hP q0 t0 ha ht (vp_in_nI hX hn) hdg ?_
  rw [nI_clamp (by omega)]
  exact kk
theorem q_bld (hexec : p.tables.exec = Jvm.exec) (hb : c.code = cc) (hK : va_K D vcl tys s) (hP : va_P D vcl ws H) (q0 t0 : Nat) {cA : ClassId} {n : Nat} {f : Nat → Int32} (ha : ws[q0]? = some (a, .inl (cA, n, .inl f))) (ht : tys[t0]? = some (cA, .byte)) {X : Nat} (hX : X < n) (hn : n < 2 ^ 31) (hdg : decode cc pc = .ok (.baload, 1))
    (kk : W p l e R s m args below meth c H locs cells slots Q (F0 m (pc + 1) ls (.int (f X) :: rest))) : W p l e R s m args below meth c H locs cells slots Q (F0 m pc ls (.int (nI X) :: .ref a :: rest)) := by
  refine va_bald hexec hb hK hP q0 t0 ha ht (vp_in_nI hX hn) hdg ?_
  rw [nI_clamp (by omega)]
  exact kk
theorem q_zld (hexec : p.tables.exec = Jvm.exec) (hb : c.code = cc) (hK : va_K D vcl tys s) (hP : va_P D vcl ws H) (q0 t0 : Nat) {cA : ClassId} {n : Nat} {f : Nat → Int32} (ha : ws[q0]? = some (a, .inl (cA, n, .inl f))) (ht : tys[t0]? = some (cA, .boolean)) {X : Nat} (hX : X < n) (hn : n < 2 ^ 31) (hdg : decode cc pc = .ok (.baload, 1))
    (kk : W p l e R s m args below meth c H locs cells slots Q (F0 m (pc + 1) ls (.int (f X) :: rest))) : W p l e R s m args below meth c H locs cells slots Q (F0 m pc ls (.int (nI X) :: .ref a :: rest)) := by
  refine va_zald hexec hb hK hP q0 t0 ha ht (vp_in_nI hX hn) hdg ?_
  rw [nI_clamp (by omega)]
  exact kk
theorem q_ist (hexec : p.tables.exec = Jvm.exec) (hb : c.code = cc) (hK : va_K D vcl tys s) (hP : va_P D vcl ws H) (hD : va_D A ws) (hS : va_S A H0 H locs) (q0 t0 : Nat) {cA : ClassId} {n : Nat} {f : Nat → Int32} (ha : ws[q0]? = some (a, .inl (cA, n, .inl f))) (ht : tys[t0]? = some (cA, .int)) {X : Nat} {x : Int32} (hX : X < n) (hn : n < 2 ^ 31) (hdg : decode cc pc = .ok (.iastore, 1))
    (kk : ∀ (H1 : Heap) (locs1 : List Loc), va_P D vcl (ws.set q0 (a, .inl (cA, n, .inl (upd f X x)))) H1 → va_D A (ws.set q0 (a, .inl (cA, n, .inl (upd f X x)))) → va_S A H0 H1 locs1 → W p l e R s m args below meth c H1 locs1 cells slots Q (F0 m (pc + 1) ls rest)) : W p l e R s m args below meth c H locs cells slots Q (F0 m pc ls (.int x :: .int (nI X) :: .ref a :: rest)) := by
  refine va_iast hexec hb hK hP hD hS q0 t0 ha ht (vp_in_nI hX hn) hdg ?_
  rw [nI_clamp (by omega)]
  exact kk
theorem q_bst (hexec : p.tables.exec = Jvm.exec) (hb : c.code = cc) (hK : va_K D vcl tys s) (hP : va_P D vcl ws H) (hD : va_D A ws) (hS : va_S A H0 H locs) (q0 t0 : Nat) {cA : ClassId} {n : Nat} {f : Nat → Int32} (ha : ws[q0]? = some (a, .inl (cA, n, .inl f))) (ht : tys[t0]? = some (cA, .byte)) {X : Nat} {x : Int32} (hX : X < n) (hn : n < 2 ^ 31) (hdg : decode cc pc = .ok (.bastore, 1))
    (kk : ∀ (H1 : Heap) (locs1 : List Loc), va_P D vcl (ws.set q0 (a, .inl (cA, n, .inl (upd f X (vp_nar .byte x))))) H1 → va_D A (ws.set q0 (a, .inl (cA, n, .inl (upd f X (vp_nar .byte x))))) → va_S A H0 H1 locs1 → W p l e R s m args below meth c H1 locs1 cells slots Q (F0 m (pc + 1) ls rest)) : W p l e R s m args below meth c H locs cells slots Q (F0 m pc ls (.int x :: .int (nI X) :: .ref a :: rest)) := by
  refine va_bast hexec hb hK hP hD hS q0 t0 ha ht (vp_in_nI hX hn) hdg ?_
  rw [nI_clamp (by omega)]
  exact kk
theorem q_zst (hexec : p.tables.exec = Jvm.exec) (hb : c.code = cc) (hK : va_K D vcl tys s) (hP : va_P D vcl ws H) (hD : va_D A ws) (hS : va_S A H0 H locs) (q0 t0 : Nat) {cA : ClassId} {n : Nat} {f : Nat → Int32} (ha : ws[q0]? = some (a, .inl (cA, n, .inl f))) (ht : tys[t0]? = some (cA, .boolean)) {X : Nat} {x : Int32} (hX : X < n) (hn : n < 2 ^ 31) (hdg : decode cc pc = .ok (.bastore, 1))
    (kk : ∀ (H1 : Heap) (locs1 : List Loc), va_P D vcl (ws.set q0 (a, .inl (cA, n, .inl (upd f X (vp_nar .boolean x))))) H1 → va_D A (ws.set q0 (a, .inl (cA, n, .inl (upd f X (vp_nar .boolean x))))) → va_S A H0 H1 locs1 → W p l e R s m args below meth c H1 locs1 cells slots Q (F0 m (pc + 1) ls rest)) : W p l e R s m args below meth c H locs cells slots Q (F0 m pc ls (.int x :: .int (nI X) :: .ref a :: rest)) := by
  refine va_zast hexec hb hK hP hD hS q0 t0 ha ht (vp_in_nI hX hn) hdg ?_
  rw [nI_clamp (by omega)]
  exact kk
end QN
theorem q_lt {a b : Nat} (ha : a < 2 ^ 31) (hb : b < 2 ^ 31) (h : nI a < nI b) : a < b := (nI_ltI ha hb).mp h
theorem q_nlt {a b : Nat} (ha : a < 2 ^ 31) (hb : b < 2 ^ 31) (h : ¬ nI a < nI b) : b ≤ a := Nat.le_of_not_lt fun z => h ((nI_ltI ha hb).mpr z)
theorem q_le {a b : Nat} (ha : a < 2 ^ 31) (hb : b < 2 ^ 31) (h : nI a ≤ nI b) : a ≤ b := (nI_leI ha hb).mp h
theorem q_nle {a b : Nat} (ha : a < 2 ^ 31) (hb : b < 2 ^ 31) (h : ¬ nI a ≤ nI b) : b < a := Nat.lt_of_not_le fun z => h ((nI_leI ha hb).mpr z)
theorem q_eqn {a b : Nat} (ha : a < 2 ^ 31) (hb : b < 2 ^ 31) (h : nI a = nI b) : a = b := (nI_eq ha hb).mp h
theorem q_nen {a b : Nat} (ha : a < 2 ^ 31) (hb : b < 2 ^ 31) (h : ¬ nI a = nI b) : ¬ a = b := fun z => h ((nI_eq ha hb).mpr z)
/-- the end of a line that goes on at i, with k bytes left -/
def tx_eol (T : Nat → Int32) : Nat → Nat → Nat
  | 0, i => i
  | k + 1, i => if T i = 10 then i else tx_eol T k (i + 1)
/-- the first place from a on, with k places left, that is no blank -/
def tx_sk (T : Nat → Int32) : Nat → Nat → Nat
  | 0, a => a
  | k + 1, a => if T a = 32 then tx_sk T k (a + 1) else a
/-- the place behind the last one that is no blank, k places above the first -/
def tx_bk (T : Nat → Int32) : Nat → Nat → Nat
  | 0, b => b
  | k + 1, b => if T (b - 1) = 32 then tx_bk T k (b - 1) else b
theorem tx_eol_le (T : Nat → Int32) : ∀ k i, i ≤ tx_eol T k i ∧ tx_eol T k i ≤ i + k := by
  intro k
  induction k with
  | zero => intro i; exact ⟨Nat.le_refl _, Nat.le_refl _⟩
  | succ k ih =>
    intro i
    unfold tx_eol
    by_cases h : T i = 10
    · rw [if_pos h]; omega
    · rw [if_neg h]; have := ih (i + 1); omega
theorem tx_sk_le (T : Nat → Int32) : ∀ k a, a ≤ tx_sk T k a ∧ tx_sk T k a ≤ a + k := by
  intro k
  induction k with
  | zero => intro i; exact ⟨Nat.le_refl _, Nat.le_refl _⟩
  | succ k ih =>
    intro i
    unfold tx_sk
    by_cases h : T i = 32
    · rw [if_pos h]; have := ih (i + 1); omega
    · rw [if_neg h]; omega
theorem tx_bk_le (T : Nat → Int32) : ∀ k b, k ≤ b → b - k ≤ tx_bk T k b ∧ tx_bk T k b ≤ b := by
  intro k
  induction k with
  | zero => intro b _; unfold tx_bk; omega
  | succ k ih =>
    intro b hb
    unfold tx_bk
    by_cases h : T (b - 1) = 32
    · rw [if_pos h]; have := ih (b - 1) (by omega); omega
    · rw [if_neg h]; omega
/-- the lines: where the first byte stands that is no blank, and what stands behind the last one -/
def tx_ln (T : Nat → Int32) (n : Nat) : Nat → Nat → List (Nat × Nat)
  | 0, _ => []
  | k + 1, i => if i < n then
      (tx_sk T (tx_eol T (n - i) i - i) i, tx_bk T (tx_eol T (n - i) i - tx_sk T (tx_eol T (n - i) i - i) i) (tx_eol T (n - i) i)) :: tx_ln T n k (tx_eol T (n - i) i + 1)
    else []
