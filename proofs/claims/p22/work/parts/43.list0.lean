section OL
variable {p : Program} {l : Launch} {e : Env} {R : Room} {s : State} {m : MethodId} {args : Array Value} {below : List Frame} {meth : Method} {c : Code} {H : Heap} {locs : List Loc} {cells slots : Nat} {Q : State → Prop}
variable {cc : ByteArray} {pc : Nat} {ls : Array Slot} {rest : List Value} {D : va_G} {A : Nat → Prop} {a : Nat} {cB cI_ cO : ClassId} {L : List Nat} {g : hG} {H0 : Heap}
theorem o_any {y t ci : Nat} {fs : List Value} {r : vw_C} (hK : va_K D vcl (dT cB cI_ cO) s) (hP : va_P D vcl (dW L g) H) (he : ho L g y t (.inr (ci, fs))) (hc : vcl[ci]? = some r) (hca : va_Nw (.castable r.1 "java/lang/Object") s) : va_Any "java/lang/Object" s H y := by
  obtain ⟨q0, h0⟩ := he.at
  refine va_rAny hK hP h0 hc (fun comp c0 h1 h2 => ?_)
  obtain ⟨c1, t1, f1, f2, f3⟩ := Cond.castable_spec (va_Nw.use (A := #[]) rfl hca)
  have e1 : c1 = c0 := Option.some.inj (f1.symm.trans h2)
  have e2 : t1 = comp := Option.some.inj (f2.symm.trans h1)
  rw [← e1, ← e2]
  exact f3
theorem o_cpyq (hexec : p.tables.exec = Jvm.exec) (hb : c.code = cc) (hml : c.maxLocals = ls.size) {own : String} {index : Nat} (hown : s.vm.findClass own = some m.cls) (hlink : (Cond.methodLink own index arraycopyName).before args s = true) (hnat : (Cond.native arraycopyName).before args s = true) (hstat : (Cond.static arraycopyName).before args s = true) (hini : (Cond.initialized "java/lang/System").before args s = true)
    (hK : va_K D vcl (dT cB cI_ cO) s) (hP : va_P D vcl (dW L g) H) (hD : va_D A (dW L g)) (hS : va_S A H0 H locs) {a0 t0 t1 n0 n1 : Nat} {f f1 : Nat → Option Nat} (he0 : ho L g a0 t0 (.inl (cO, n0, .inr (.inr (.inr (.inr f)))))) (he1 : ho L g a t1 (.inl (cO, n1, .inr (.inr (.inr (.inr f1))))))
    {sp dp n : Nat} (h4 : sp + n ≤ n0) (h5 : dp + n ≤ n1) (hn0 : n0 < 2 ^ 31) (hn1 : n1 < 2 ^ 31) (hel : ∀ i : Nat, i < n → ∀ y : Nat, f (sp + i) = some y → va_Any "java/lang/Object" s H y)
    (hframes : 1 ≤ R.frames) (hlocals : (rest.map fun v => v.category).sum + (nativeFrameWords "java/lang/System" "arraycopy" 5 + 11) ≤ R.locals) (hdg : decode cc pc = .ok (.invokestatic index, 3))
    (kk : ∀ (g1 : hG) (H1 : Heap) (locs1 : List Loc), ho L g1 a t1 (.inl (cO, n1, .inr (.inr (.inr (.inr (va_cpy f f1 sp dp n)))))) → up1 g a t1 g1 → va_P D vcl (dW L g1) H1 → va_D A (dW L g1) → va_S A H0 H1 locs1 → W p l e R s m args below meth c H1 locs1 cells slots Q (F0 m (pc + 3) ls rest)) : W p l e R s m args below meth c H locs cells slots Q (F0 m pc ls (.int (nI n) :: .int (nI dp) :: .ref a :: .int (nI sp) :: .ref a0 :: rest)) := by
  obtain ⟨q0, h0⟩ := he0.at
  obtain ⟨q1, h1⟩ := he1.at
  have e1 : (nI sp).toNatClampNeg = sp := nI_clamp (by omega)
  have e2 : (nI dp).toNatClampNeg = dp := nI_clamp (by omega)
  have e3 : (nI n).toNatClampNeg = n := nI_clamp (by omega)
  refine va_copyM hexec hb hml hown hlink hnat hstat hini hK hP hD hS q0 q1 2 2 h0 h1 rfl rfl (nI_pos (by omega)) (nI_pos (by omega)) (nI_pos (by omega)) (by rw [e1, e3]; exact h4) (by rw [e2, e3]; exact h5) (by rw [e1, e3]; exact hel) hframes hlocals hdg (fun H1 locs1 hP1 hD1 hS1 => ?_)
  rw [e1, e2, e3, ho_set hD he1 h1] at hP1 hD1
  exact kk _ H1 locs1 (ho_up he1) (up1_up he1) hP1 hD1 hS1
theorem o_cpyi (hexec : p.tables.exec = Jvm.exec) (hb : c.code = cc) (hml : c.maxLocals = ls.size) {own : String} {index : Nat} (hown : s.vm.findClass own = some m.cls) (hlink : (Cond.methodLink own index arraycopyName).before args s = true) (hnat : (Cond.native arraycopyName).before args s = true) (hstat : (Cond.static arraycopyName).before args s = true) (hini : (Cond.initialized "java/lang/System").before args s = true)
    (hK : va_K D vcl (dT cB cI_ cO) s) (hP : va_P D vcl (dW L g) H) (hD : va_D A (dW L g)) (hS : va_S A H0 H locs) {a0 t0 t1 n0 n1 : Nat} {f f1 : Nat → Int32} (he0 : ho L g a0 t0 (.inl (cI_, n0, .inl f))) (he1 : ho L g a t1 (.inl (cI_, n1, .inl f1)))
    {sp dp n : Nat} (h4 : sp + n ≤ n0) (h5 : dp + n ≤ n1) (hn0 : n0 < 2 ^ 31) (hn1 : n1 < 2 ^ 31)
    (hframes : 1 ≤ R.frames) (hlocals : (rest.map fun v => v.category).sum + (nativeFrameWords "java/lang/System" "arraycopy" 5 + 11) ≤ R.locals) (hdg : decode cc pc = .ok (.invokestatic index, 3))
    (kk : ∀ (g1 : hG) (H1 : Heap) (locs1 : List Loc), ho L g1 a t1 (.inl (cI_, n1, .inl (va_cpy f f1 sp dp n))) → up1 g a t1 g1 → va_P D vcl (dW L g1) H1 → va_D A (dW L g1) → va_S A H0 H1 locs1 → W p l e R s m args below meth c H1 locs1 cells slots Q (F0 m (pc + 3) ls rest)) : W p l e R s m args below meth c H locs cells slots Q (F0 m pc ls (.int (nI n) :: .int (nI dp) :: .ref a :: .int (nI sp) :: .ref a0 :: rest)) := by
  obtain ⟨q0, h0⟩ := he0.at
  obtain ⟨q1, h1⟩ := he1.at
  have e1 : (nI sp).toNatClampNeg = sp := nI_clamp (by omega)
  have e2 : (nI dp).toNatClampNeg = dp := nI_clamp (by omega)
  have e3 : (nI n).toNatClampNeg = n := nI_clamp (by omega)
  refine va_copyi hexec hb hml hown hlink hnat hstat hini hK hP hD hS q0 q1 1 1 h0 h1 rfl rfl rfl (nI_pos (by omega)) (nI_pos (by omega)) (nI_pos (by omega)) (by rw [e1, e3]; exact h4) (by rw [e2, e3]; exact h5) (fun _ _ => rfl) hframes hlocals hdg (fun H1 locs1 hP1 hD1 hS1 => ?_)
  rw [e1, e2, e3, ho_set hD he1 h1] at hP1 hD1
  exact kk _ H1 locs1 (ho_up he1) (up1_up he1) hP1 hD1 hS1
theorem o_arrcls {t n : Nat} {f : Nat → Option Nat} (hK : va_K D vcl (dT cB cI_ cO) s) (hP : va_P D vcl (dW L g) H) (he : ho L g a t (.inl (cO, n, .inr (.inr (.inr (.inr f)))))) : ∃ cell : Cell, H[a]? = some cell ∧ cell.vm.isStatics = false ∧ s.vm.findClass "[Ljava/lang/Object;" = some cell.cls := by
  obtain ⟨q0, h0⟩ := he.at
  exact ⟨_, hP q0 _ h0, rfl, va_nmO (hK.2 2 _ rfl).2 (by decide)⟩
end OL
theorem q_maxE {a b r : Nat} (ha : a < 2 ^ 31) (hb : b < 2 ^ 31) (h : max a b = r) : (if nI a < nI b then nI b else nI a) = nI r := by
  refine q_max ha hb ?_
  by_cases c : a < b
  · rw [if_pos c]; omega
  · rw [if_neg c]; omega
theorem q_minE {a b r : Nat} (ha : a < 2 ^ 31) (hb : b < 2 ^ 31) (h : min a b = r) : (if nI b < nI a then nI b else nI a) = nI r := by
  refine q_min ha hb ?_
  by_cases c : b < a
  · rw [if_pos c]; omega
  · rw [if_neg c]; omega
/-- the capacity behind one more element -/
def ncap (n cap : Nat) : Nat := if n = cap then (if cap = 0 then 10 else cap + cap / 2) else cap
def gcel (n cap : Nat) : Nat := if n = cap then 1 else 0
def gslo (n cap : Nat) : Nat := if n = cap then (if cap = 0 then 10 else cap + cap / 2) else 0
theorem ncap_b {n cap : Nat} (h1 : n ≤ cap) (h2 : cap = 0 ∨ 10 ≤ cap) : n + 1 ≤ ncap n cap ∧ cap ≤ ncap n cap ∧ 10 ≤ ncap n cap ∧ 5 * gcel n cap ≤ ncap n cap - cap ∧ gslo n cap ≤ 4 * (ncap n cap - cap) ∧ (n = cap ∧ (ncap n cap = 10 ∨ 2 * ncap n cap ≤ 3 * n) ∨ ncap n cap = cap) := by
  unfold ncap gcel gslo
  by_cases c : n = cap
  · rw [if_pos c, if_pos c, if_pos c]
    by_cases c2 : cap = 0
    · rw [if_pos c2]; omega
    · rw [if_neg c2]; omega
  · rw [if_neg c, if_neg c, if_neg c]; omega
theorem fra.fr {ts L L1 : List Nat} {g g1 : hG} (h : fra [] L g L1 g1) : fr ts L g L1 g1 := fun a ha => by
  obtain ⟨h1, h2⟩ := h a ha
  have h3 := h2 List.not_mem_nil
  exact ⟨h1, by rw [h3], fun _ => h3⟩
abbrev cJ7_copyOf_1904c : ByteArray := prog_24_method_119_code
def yJ7_copyOf_1904c : MethodName := ⟨RJ7, "copyOf", "([Ljava/lang/Object;I)[Ljava/lang/Object;"⟩
abbrev cJ7_copyOf_6403c : ByteArray := prog_24_method_120_code
def yJ7_copyOf_6403c : MethodName := ⟨RJ7, "copyOf", "([Ljava/lang/Object;ILjava/lang/Class;)[Ljava/lang/Object;"⟩
abbrev cJ8_newLength_cabcc : ByteArray := prog_30_method_27_code
def yJ8_newLength_cabcc : MethodName := ⟨RJ8, "newLength", "(III)I"⟩
theorem k_104 : (Cond.initialized RJ7) ∈ gT := gT_i 104 (by decide +kernel) rfl
theorem k_105 : (Cond.initialized "java/lang/System") ∈ gT := gT_i 105 (by decide +kernel) rfl
theorem k_627 : (Cond.methodLink RJ8 194 Lib.Math.max.name) ∈ gT := gT_i 627 (by decide +kernel) rfl
theorem k_628 : (Cond.constant RJ8 200 (2147483639)) ∈ gT := gT_i 628 (by decide +kernel) rfl
theorem k_635 : (Cond.methodLink RJ7 86 ⟨"java/lang/Object", "getClass", "()Ljava/lang/Class;"⟩) ∈ gT := gT_i 635 (by decide +kernel) rfl
theorem k_636 : (Cond.instanceMethod ⟨"java/lang/Object", "getClass", "()Ljava/lang/Class;"⟩) ∈ gT := gT_i 636 (by decide +kernel) rfl
theorem k_650 : (Cond.native ⟨"java/lang/Object", "getClass", "()Ljava/lang/Class;"⟩) ∈ gT := gT_i 650 (by decide +kernel) rfl
theorem k_651 : (Cond.methodLink RJ7 300 yJ7_copyOf_6403c) ∈ gT := gT_i 651 (by decide +kernel) rfl
theorem k_652 : (Cond.static yJ7_copyOf_6403c) ∈ gT := gT_i 652 (by decide +kernel) rfl
theorem k_653 : (Cond.code yJ7_copyOf_6403c cJ7_copyOf_6403c 4 (some (.array (.object "java/lang/Object")))) ∈ gT := gT_i 653 (by decide +kernel) rfl
theorem k_654 : (Cond.classLink RJ7 110 "[Ljava/lang/Object;") ∈ gT := gT_i 654 (by decide +kernel) rfl
theorem k_656 : (Cond.classLink RJ7 2 "java/lang/Object") ∈ gT := gT_i 656 (by decide +kernel) rfl
theorem k_657 : (Cond.methodLink RJ7 304 Lib.Math.min.name) ∈ gT := gT_i 657 (by decide +kernel) rfl
theorem k_658 : (Cond.methodLink RJ7 150 arraycopyName) ∈ gT := gT_i 658 (by decide +kernel) rfl
theorem k_659 : (Cond.static arraycopyName) ∈ gT := gT_i 659 (by decide +kernel) rfl
theorem k_660 : (Cond.native arraycopyName) ∈ gT := gT_i 660 (by decide +kernel) rfl
theorem k_1552 : (Cond.selects "[Ljava/lang/Object;" ⟨"java/lang/Object", "getClass", "()Ljava/lang/Class;"⟩ ⟨"java/lang/Object", "getClass", "()Ljava/lang/Class;"⟩) ∈ gT := gT_i 1552 (by decide +kernel) rfl
theorem dJ8_newLength_cabcc_0 : decode cJ8_newLength_cabcc 0 = .ok (.iload_n 0, 1) := by decide +kernel
theorem dJ8_newLength_cabcc_1 : decode cJ8_newLength_cabcc 1 = .ok (.iload_n 1, 1) := by decide +kernel
theorem dJ8_newLength_cabcc_2 : decode cJ8_newLength_cabcc 2 = .ok (.iload_n 2, 1) := by decide +kernel
theorem dJ8_newLength_cabcc_3 : decode cJ8_newLength_cabcc 3 = .ok (.invokestatic 194, 3) := by decide +kernel
theorem dJ8_newLength_cabcc_6 : decode cJ8_newLength_cabcc 6 = .ok (.iadd, 1) := by decide +kernel
theorem dJ8_newLength_cabcc_7 : decode cJ8_newLength_cabcc 7 = .ok (.istore_n 3, 1) := by decide +kernel
theorem dJ8_newLength_cabcc_8 : decode cJ8_newLength_cabcc 8 = .ok (.iconst 0, 1) := by decide +kernel
theorem dJ8_newLength_cabcc_9 : decode cJ8_newLength_cabcc 9 = .ok (.iload_n 3, 1) := by decide +kernel
theorem dJ8_newLength_cabcc_10 : decode cJ8_newLength_cabcc 10 = .ok (.if_icmp .ge 11, 3) := by decide +kernel
theorem dJ8_newLength_cabcc_13 : decode cJ8_newLength_cabcc 13 = .ok (.iload_n 3, 1) := by decide +kernel
theorem dJ8_newLength_cabcc_14 : decode cJ8_newLength_cabcc 14 = .ok (.ldc 200, 2) := by decide +kernel
theorem dJ8_newLength_cabcc_16 : decode cJ8_newLength_cabcc 16 = .ok (.if_icmp .gt 5, 3) := by decide +kernel
theorem dJ8_newLength_cabcc_19 : decode cJ8_newLength_cabcc 19 = .ok (.iload_n 3, 1) := by decide +kernel
theorem dJ8_newLength_cabcc_20 : decode cJ8_newLength_cabcc 20 = .ok (.ireturn, 1) := by decide +kernel
theorem dJ7_copyOf_6403c_0 : decode cJ7_copyOf_6403c 0 = .ok (.aload_n 2, 1) := by decide +kernel
theorem dJ7_copyOf_6403c_1 : decode cJ7_copyOf_6403c 1 = .ok (.ldc 110, 2) := by decide +kernel
theorem dJ7_copyOf_6403c_3 : decode cJ7_copyOf_6403c 3 = .ok (.if_acmp .ne 10, 3) := by decide +kernel
theorem dJ7_copyOf_6403c_6 : decode cJ7_copyOf_6403c 6 = .ok (.iload_n 1, 1) := by decide +kernel
theorem dJ7_copyOf_6403c_7 : decode cJ7_copyOf_6403c 7 = .ok (.anewarray 2, 3) := by decide +kernel
theorem dJ7_copyOf_6403c_10 : decode cJ7_copyOf_6403c 10 = .ok (.goto 14, 3) := by decide +kernel
theorem dJ7_copyOf_6403c_24 : decode cJ7_copyOf_6403c 24 = .ok (.astore_n 3, 1) := by decide +kernel
theorem dJ7_copyOf_6403c_25 : decode cJ7_copyOf_6403c 25 = .ok (.aload_n 0, 1) := by decide +kernel
theorem dJ7_copyOf_6403c_26 : decode cJ7_copyOf_6403c 26 = .ok (.iconst 0, 1) := by decide +kernel
theorem dJ7_copyOf_6403c_27 : decode cJ7_copyOf_6403c 27 = .ok (.aload_n 3, 1) := by decide +kernel
theorem dJ7_copyOf_6403c_28 : decode cJ7_copyOf_6403c 28 = .ok (.iconst 0, 1) := by decide +kernel
theorem dJ7_copyOf_6403c_29 : decode cJ7_copyOf_6403c 29 = .ok (.aload_n 0, 1) := by decide +kernel
theorem dJ7_copyOf_6403c_30 : decode cJ7_copyOf_6403c 30 = .ok (.arraylength, 1) := by decide +kernel
theorem dJ7_copyOf_6403c_31 : decode cJ7_copyOf_6403c 31 = .ok (.iload_n 1, 1) := by decide +kernel
theorem dJ7_copyOf_6403c_32 : decode cJ7_copyOf_6403c 32 = .ok (.invokestatic 304, 3) := by decide +kernel
theorem dJ7_copyOf_6403c_35 : decode cJ7_copyOf_6403c 35 = .ok (.invokestatic 150, 3) := by decide +kernel
theorem dJ7_copyOf_6403c_38 : decode cJ7_copyOf_6403c 38 = .ok (.aload_n 3, 1) := by decide +kernel
theorem dJ7_copyOf_6403c_39 : decode cJ7_copyOf_6403c 39 = .ok (.areturn, 1) := by decide +kernel
theorem dJ7_copyOf_1904c_0 : decode cJ7_copyOf_1904c 0 = .ok (.aload_n 0, 1) := by decide +kernel
theorem dJ7_copyOf_1904c_1 : decode cJ7_copyOf_1904c 1 = .ok (.iload_n 1, 1) := by decide +kernel
theorem dJ7_copyOf_1904c_2 : decode cJ7_copyOf_1904c 2 = .ok (.aload_n 0, 1) := by decide +kernel
theorem dJ7_copyOf_1904c_3 : decode cJ7_copyOf_1904c 3 = .ok (.invokevirtual 86, 3) := by decide +kernel
theorem dJ7_copyOf_1904c_6 : decode cJ7_copyOf_1904c 6 = .ok (.invokestatic 300, 3) := by decide +kernel
theorem dJ7_copyOf_1904c_9 : decode cJ7_copyOf_1904c 9 = .ok (.areturn, 1) := by decide +kernel
set_option maxHeartbeats 1000000 in
set_option maxRecDepth 100000 in
theorem a_newLen (l : Launch) (D : va_G) (z : Nat → Nat) (cB cI_ cO : ClassId) (L0 : List Nat) (g0 : hG) (a b d : Nat)  (ha : 0 < a + max b d) (hb_ : a + max b d < 2 ^ 20) : eIs l D yJ8_newLength_cabcc cJ8_newLength_cabcc 4 (some .int) 1 14 0 0 [.int (nI a), .int (nI b), .int (nI d)] z cB cI_ cO L0 g0 (fun r => r = nI (a + max b d)) := by
  refine o_si (by decide) (Nat.le_of_ble_eq_true rfl) ?_
  intro p e s m below meth c A ls hf hr hlocks hin hK hP hD hS hA hZ hN hl
  obtain ⟨hx, hb, hml, hown, hts⟩ := id hf
  have hl : lv_has ls 4 [(0, .int (nI a)), (1, .int (nI b)), (2, .int (nI d))] := hl
  refine lv_iload_n hx hb dJ8_newLength_cabcc_0 rfl (lv_at hl 0 rfl) ?_
  refine lv_iload_n hx hb dJ8_newLength_cabcc_1 rfl (lv_at hl 1 rfl) ?_
  refine lv_iload_n hx hb dJ8_newLength_cabcc_2 rfl (lv_at hl 2 rfl) ?_
  refine va_mmax hx hb (by rw [hml]; exact hl.1.symm) hown (hts _ k_627) (hts _ k_187) (hts _ k_91) (hts _ k_188) (Nat.le_of_ble_eq_true rfl) (Nat.le_of_ble_eq_true rfl) (show 0 ≤ 0 by omega) (show 0 ≤ 0 by omega) dJ8_newLength_cabcc_3 ?_
  refine q_seti (y := nI (max b d)) (q_maxE (by omega) (by omega) rfl) ?_
  refine lv_iadd hx hb dJ8_newLength_cabcc_6 ?_
  refine q_seti (y := nI (a + max b d)) (nI_addE (a := a) (b := max b d) (by omega)) ?_
  refine lv_istore_n (lv' := [(3, .int (nI (a + max b d))), (0, .int (nI a)), (1, .int (nI b)), (2, .int (nI d))]) hx hb dJ8_newLength_cabcc_7 rfl hl (by decide) rfl (fun ls hl => ?_)
  refine lv_iconst (v := 0) hx hb dJ8_newLength_cabcc_8 (by decide) ?_
  refine lv_iload_n hx hb dJ8_newLength_cabcc_9 rfl (lv_at hl 0 rfl) ?_
  refine lv_icmp_ge (tgt := 21) hx hb dJ8_newLength_cabcc_10 (by decide) (fun c_1 => ?_) (fun c_1 => ?_)
  · have c_1 := q_le (a := a + max b d) (b := 0) (by omega) (by omega) c_1
    exact False.elim (by omega)
  · have c_1 := q_nle (a := a + max b d) (b := 0) (by omega) (by omega) c_1
    refine lv_iload_n hx hb dJ8_newLength_cabcc_13 rfl (lv_at hl 0 rfl) ?_
    refine lv_ldc (v := 2147483639) hx hb hown (hts _ k_628) dJ8_newLength_cabcc_14 ?_
    refine lv_icmp_gt (tgt := 21) hx hb dJ8_newLength_cabcc_16 (by decide) (fun c_2 => ?_) (fun c_2 => ?_)
    · have c_2 := q_lt (a := 2147483639) (b := a + max b d) (by omega) (by omega) c_2
      exact False.elim (by omega)
    · have c_2 := q_nlt (a := 2147483639) (b := a + max b d) (by omega) (by omega) c_2
      refine lv_iload_n hx hb dJ8_newLength_cabcc_19 rfl (lv_at hl 0 rfl) ?_
      exact o_ri hf hr rfl hlocks hK hP hD hS (show 0 ≤ 0 by omega) (show 0 ≤ 0 by omega) ⟨rfl, rfl, rfl⟩ dJ8_newLength_cabcc_20
set_option maxHeartbeats 1000000 in
set_option maxRecDepth 100000 in
theorem a_copy3 (l : Launch) (D : va_G) (z : Nat → Nat) (cB cI_ cO : ClassId) (L0 : List Nat) (g0 : hG) (d cap nc tD : Nat) (f : Nat → Option Nat) (cx : Nat) (rx : vw_C) (tx : Nat) (h_d : ho L0 g0 d tD (.inl (cO, cap, .inr (.inr (.inr (.inr f)))))) (hc : cap ≤ nc) (hnc : nc ≤ 100000) (hcx : vcl[cx]? = some rx) (hca : ∀ s : State, zB z s → va_Nw (.castable rx.1 "java/lang/Object") s) (hel : ∀ i, i < cap → ∀ y, f i = some y → ∃ fs, ho L0 g0 y tx (.inr (cx, fs))) : eR l D yJ7_copyOf_6403c cJ7_copyOf_6403c 4 (some (.array (.object "java/lang/Object"))) 1 20 1 nc [.ref d, .int (nI nc), .ref (z 6)] z cB cI_ cO L0 g0 (fun r L g => fra [] L0 g0 L g ∧ ho L g r tD (.inl (cO, nc, .inr (.inr (.inr (.inr (va_cpy f (fun _ => none) 0 0 cap))))))) := by
  refine o_sr (by decide) (Nat.le_of_ble_eq_true rfl) ?_
  intro p e s m below meth c A ls hf hr hlocks hin hK hP hD hS hA hZ hN hl
  obtain ⟨hx, hb, hml, hown, hts⟩ := id hf
  have hl : lv_has ls 4 [(0, .ref d), (1, .int (nI nc)), (2, .ref (z 6))] := hl
  have h_d0 := h_d
  have hfa : fra [] L0 g0 L0 g0 := fra.rf
  refine lv_aload_n hx hb dJ7_copyOf_6403c_0 rfl (lv_at hl 2 rfl) ?_
  refine va_ldcM hx hb hown (hts _ k_654) hN.2.2.2.1 dJ7_copyOf_6403c_1 ?_
  refine lv_acmp_ne (rx := (some (z 6))) (ry := (some (z 6))) (tgt := 13) hx hb dJ7_copyOf_6403c_3 (by decide) (fun hno => absurd rfl hno) (fun _ => ?_)
  refine lv_iload_n hx hb dJ7_copyOf_6403c_6 rfl (lv_at hl 1 rfl) ?_
  refine o_newq (n := nc) hx hb tD hown (hts _ k_656) hN.2.2.1 hK hP hD hS hA (by omega) (show 0 + 1 ≤ 1 by omega) (show 0 + nc ≤ nc by omega) dJ7_copyOf_6403c_7 (fun q_nd L g H h_nd hnw hP hD hS => ?_)
  have h_d := h_d.nw hnw
  have hq_q_nd := hfa.nin hnw
  have hfa := hfa.nw hnw
  refine lv_goto (tgt := 24) hx hb dJ7_copyOf_6403c_10 (by decide) ?_
  refine lv_astore_n (lv' := [(3, .ref q_nd), (0, .ref d), (1, .int (nI nc)), (2, .ref (z 6))]) hx hb dJ7_copyOf_6403c_24 rfl hl (by decide) rfl (fun ls hl => ?_)
  refine lv_aload_n hx hb dJ7_copyOf_6403c_25 rfl (lv_at hl 1 rfl) ?_
  refine lv_iconst (v := 0) hx hb dJ7_copyOf_6403c_26 (by decide) ?_
  refine lv_aload_n hx hb dJ7_copyOf_6403c_27 rfl (lv_at hl 0 rfl) ?_
  refine lv_iconst (v := 0) hx hb dJ7_copyOf_6403c_28 (by decide) ?_
  refine lv_aload_n hx hb dJ7_copyOf_6403c_29 rfl (lv_at hl 1 rfl) ?_
  refine o_lenq hx hb hK hP h_d dJ7_copyOf_6403c_30 ?_
  refine lv_iload_n hx hb dJ7_copyOf_6403c_31 rfl (lv_at hl 2 rfl) ?_
  refine va_mmin hx hb (by rw [hml]; exact hl.1.symm) hown (hts _ k_657) (hts _ k_221) (hts _ k_91) (hts _ k_222) (Nat.le_of_ble_eq_true rfl) (Nat.le_of_ble_eq_true rfl) (show 0 + 1 ≤ 1 by omega) (show 0 + nc ≤ nc by omega) dJ7_copyOf_6403c_32 ?_
  refine q_seti (y := nI cap) (q_minE (by omega) (by omega) (by omega)) ?_
  refine q_eq (pc := 35) (st := (.int (nI cap) :: .int (nI 0) :: .ref q_nd :: .int (nI 0) :: .ref d :: [])) rfl ?_
  refine o_cpyq (sp := 0) (dp := 0) (n := cap) hx hb (by rw [hml]; exact hl.1.symm) hown (hts _ k_658) (hts _ k_660) (hts _ k_659) (hts _ k_105) hK hP hD hS h_d h_nd (by omega) (by omega) (by omega) (by omega) (fun i hi y hy => by rw [Nat.zero_add] at hy; obtain ⟨fs, hfs⟩ := hel i hi y hy; exact o_any hK hP (hfs.fa hfa List.not_mem_nil) hcx (hca _ hN)) (Nat.le_of_ble_eq_true rfl) (Nat.le_of_ble_eq_true rfl) dJ7_copyOf_6403c_35 (fun g H locs h_nd hu hP hD hS => ?_)
  have h_d := h_d.un hu (fun z9 => hq_q_nd (z9 ▸ h_d0.1))
  have hfa := hfa.up hu (Or.inr hq_q_nd)
  refine lv_aload_n hx hb dJ7_copyOf_6403c_38 rfl (lv_at hl 0 rfl) ?_
  exact o_rr hf hr (Or.inr ⟨_, rfl⟩) hlocks hK hP hD hS (show 0 + 1 ≤ 1 by omega) (show 0 + nc ≤ nc by omega) ⟨hfa, h_nd⟩ dJ7_copyOf_6403c_39
set_option maxHeartbeats 1000000 in
set_option maxRecDepth 100000 in
theorem a_copy2 (l : Launch) (D : va_G) (z : Nat → Nat) (cB cI_ cO : ClassId) (L0 : List Nat) (g0 : hG) (d cap nc tD : Nat) (f : Nat → Option Nat) (cx : Nat) (rx : vw_C) (tx : Nat) (h_d : ho L0 g0 d tD (.inl (cO, cap, .inr (.inr (.inr (.inr f)))))) (hc : cap ≤ nc) (hnc : nc ≤ 100000) (hcx : vcl[cx]? = some rx) (hca : ∀ s : State, zB z s → va_Nw (.castable rx.1 "java/lang/Object") s) (hel : ∀ i, i < cap → ∀ y, f i = some y → ∃ fs, ho L0 g0 y tx (.inr (cx, fs))) : eR l D yJ7_copyOf_1904c cJ7_copyOf_1904c 2 (some (.array (.object "java/lang/Object"))) 2 43 1 nc [.ref d, .int (nI nc)] z cB cI_ cO L0 g0 (fun r L g => fra [] L0 g0 L g ∧ ho L g r tD (.inl (cO, nc, .inr (.inr (.inr (.inr (va_cpy f (fun _ => none) 0 0 cap))))))) := by
  refine o_sr (by decide) (Nat.le_of_ble_eq_true rfl) ?_
  intro p e s m below meth c A ls hf hr hlocks hin hK hP hD hS hA hZ hN hl
  obtain ⟨hx, hb, hml, hown, hts⟩ := id hf
  have hl : lv_has ls 2 [(0, .ref d), (1, .int (nI nc))] := hl
  have hfa : fra [] L0 g0 L0 g0 := fra.rf
  refine lv_aload_n hx hb dJ7_copyOf_1904c_0 rfl (lv_at hl 0 rfl) ?_
  refine lv_iload_n hx hb dJ7_copyOf_1904c_1 rfl (lv_at hl 1 rfl) ?_
  refine lv_aload_n hx hb dJ7_copyOf_1904c_2 rfl (lv_at hl 0 rfl) ?_
  refine va_getC (C := "[Ljava/lang/Object;") hx hb (by rw [hml]; exact hl.1.symm) hown (hts _ k_635) hN.2.2.2.2.1.use (hts _ k_1552) (hts _ k_636) (hts _ k_650) hN.2.2.2.1 (o_arrcls hK hP h_d) (Nat.le_of_ble_eq_true rfl) (Nat.le_of_ble_eq_true rfl) dJ7_copyOf_1904c_3 ?_
  refine o_cr (k := 0 + 1) (n := 0 + nc) hK hP hD hS hA (o_rS (As := [.ref d, .int (nI nc), .ref (z 6)]) (rest := []) hf (a_copy3 _ _ _ _ _ _ _ _ d cap nc tD f cx rx tx h_d (by omega) (by omega) hcx hca hel _) k_653 k_651 k_652 k_104 (nA := 3) (by decide +kernel) ⟨Nat.le_of_ble_eq_true rfl, Nat.le_of_ble_eq_true rfl⟩ hK hP hD hS hA hZ hN rfl hl.1 rfl (Nat.le_of_ble_eq_true rfl) dJ7_copyOf_1904c_6 ⟨(show 0 + 1 ≤ 1 by omega), (show 0 + nc ≤ nc by omega)⟩) (by omega) (by omega) (fun r L g H locs hw hP hD hS => ?_)
  obtain ⟨hfa9, h_nd⟩ := hw
  have hf9 := hfa9.fr (ts := [])
  have h_d := h_d.fr hf9 List.not_mem_nil
  have hfa := hfa.tm hfa9 fal_0
  exact o_rr hf hr (Or.inr ⟨_, rfl⟩) hlocks hK hP hD hS (show 0 + 1 ≤ 1 by omega) (show 0 + nc ≤ nc by omega) ⟨hfa, h_nd⟩ dJ7_copyOf_1904c_9
