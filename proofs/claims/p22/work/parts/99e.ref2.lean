theorem cp_s {g1 g2 g3 g4 f1 f2 f3 f4 : Nat → Int32} {i j : Nat} (h : j < i → g1 j = f1 j ∧ g2 j = f2 j ∧ g3 j = f3 j ∧ g4 j = f4 j) (hj : j < i + 1) : upd g1 i (f1 i) j = f1 j ∧ upd g2 i (f2 i) j = f2 j ∧ upd g3 i (f3 i) j = f3 j ∧ upd g4 i (f4 i) j = f4 j := by
  by_cases c : j = i
  · subst c
    exact ⟨va_up_self _ _ _, va_up_self _ _ _, va_up_self _ _ _, va_up_self _ _ _⟩
  · have h1 := h (by omega)
    rw [pk_un c, pk_un c, pk_un c, pk_un c]
    exact h1
theorem dX10_lock_28 : decode cX10_lock 28 = .ok (.iload_n 2, 1) := by decide +kernel
theorem dX10_lock_29 : decode cX10_lock 29 = .ok (.aload_n 0, 1) := by decide +kernel
theorem dX10_lock_30 : decode cX10_lock 30 = .ok (.getfield 228, 3) := by decide +kernel
theorem dX10_lock_33 : decode cX10_lock 33 = .ok (.if_icmp .ge 141, 3) := by decide +kernel
theorem dX10_lock_36 : decode cX10_lock 36 = .ok (.aload_n 0, 1) := by decide +kernel
theorem dX10_lock_37 : decode cX10_lock 37 = .ok (.getfield 86, 3) := by decide +kernel
theorem dX10_lock_40 : decode cX10_lock 40 = .ok (.iload_n 2, 1) := by decide +kernel
theorem dX10_lock_41 : decode cX10_lock 41 = .ok (.iconst 1, 1) := by decide +kernel
theorem dX10_lock_42 : decode cX10_lock 42 = .ok (.iadd, 1) := by decide +kernel
theorem dX10_lock_43 : decode cX10_lock 43 = .ok (.iaload, 1) := by decide +kernel
theorem dX10_lock_44 : decode cX10_lock 44 = .ok (.istore_n 3, 1) := by decide +kernel
theorem dX10_lock_45 : decode cX10_lock 45 = .ok (.aload_n 0, 1) := by decide +kernel
theorem dX10_lock_46 : decode cX10_lock 46 = .ok (.getfield 89, 3) := by decide +kernel
theorem dX10_lock_49 : decode cX10_lock 49 = .ok (.iload_n 2, 1) := by decide +kernel
theorem dX10_lock_50 : decode cX10_lock 50 = .ok (.iconst 1, 1) := by decide +kernel
theorem dX10_lock_51 : decode cX10_lock 51 = .ok (.iadd, 1) := by decide +kernel
theorem dX10_lock_52 : decode cX10_lock 52 = .ok (.iaload, 1) := by decide +kernel
theorem dX10_lock_53 : decode cX10_lock 53 = .ok (.istore 4, 2) := by decide +kernel
theorem dX10_lock_55 : decode cX10_lock 55 = .ok (.aload_n 0, 1) := by decide +kernel
theorem dX10_lock_56 : decode cX10_lock 56 = .ok (.getfield 86, 3) := by decide +kernel
theorem dX10_lock_59 : decode cX10_lock 59 = .ok (.iload_n 2, 1) := by decide +kernel
theorem dX10_lock_60 : decode cX10_lock 60 = .ok (.iaload, 1) := by decide +kernel
theorem dX10_lock_61 : decode cX10_lock 61 = .ok (.istore 5, 2) := by decide +kernel
theorem dX10_lock_168 : decode cX10_lock 168 = .ok (.iinc 2 1, 3) := by decide +kernel
theorem dX10_lock_171 : decode cX10_lock 171 = .ok (.goto (-143), 3) := by decide +kernel
theorem dX10_lock_181 : decode cX10_lock 181 = .ok (.iload_n 2, 1) := by decide +kernel
theorem dX10_lock_182 : decode cX10_lock 182 = .ok (.iload_n 1, 1) := by decide +kernel
theorem dX10_lock_183 : decode cX10_lock 183 = .ok (.if_icmp .ge 57, 3) := by decide +kernel
theorem dX10_lock_186 : decode cX10_lock 186 = .ok (.aload_n 0, 1) := by decide +kernel
theorem dX10_lock_187 : decode cX10_lock 187 = .ok (.getfield 50, 3) := by decide +kernel
theorem dX10_lock_190 : decode cX10_lock 190 = .ok (.iload_n 2, 1) := by decide +kernel
theorem dX10_lock_191 : decode cX10_lock 191 = .ok (.aload_n 0, 1) := by decide +kernel
theorem dX10_lock_192 : decode cX10_lock 192 = .ok (.getfield 95, 3) := by decide +kernel
theorem dX10_lock_195 : decode cX10_lock 195 = .ok (.iload_n 2, 1) := by decide +kernel
theorem dX10_lock_196 : decode cX10_lock 196 = .ok (.iaload, 1) := by decide +kernel
theorem dX10_lock_197 : decode cX10_lock 197 = .ok (.iastore, 1) := by decide +kernel
theorem dX10_lock_198 : decode cX10_lock 198 = .ok (.aload_n 0, 1) := by decide +kernel
theorem dX10_lock_199 : decode cX10_lock 199 = .ok (.getfield 53, 3) := by decide +kernel
theorem dX10_lock_202 : decode cX10_lock 202 = .ok (.iload_n 2, 1) := by decide +kernel
theorem dX10_lock_203 : decode cX10_lock 203 = .ok (.aload_n 0, 1) := by decide +kernel
theorem dX10_lock_204 : decode cX10_lock 204 = .ok (.getfield 98, 3) := by decide +kernel
theorem dX10_lock_207 : decode cX10_lock 207 = .ok (.iload_n 2, 1) := by decide +kernel
theorem dX10_lock_208 : decode cX10_lock 208 = .ok (.iaload, 1) := by decide +kernel
theorem dX10_lock_209 : decode cX10_lock 209 = .ok (.iastore, 1) := by decide +kernel
theorem dX10_lock_210 : decode cX10_lock 210 = .ok (.aload_n 0, 1) := by decide +kernel
theorem dX10_lock_211 : decode cX10_lock 211 = .ok (.getfield 56, 3) := by decide +kernel
theorem dX10_lock_214 : decode cX10_lock 214 = .ok (.iload_n 2, 1) := by decide +kernel
theorem dX10_lock_215 : decode cX10_lock 215 = .ok (.aload_n 0, 1) := by decide +kernel
theorem dX10_lock_216 : decode cX10_lock 216 = .ok (.getfield 101, 3) := by decide +kernel
theorem dX10_lock_219 : decode cX10_lock 219 = .ok (.iload_n 2, 1) := by decide +kernel
theorem dX10_lock_220 : decode cX10_lock 220 = .ok (.iaload, 1) := by decide +kernel
theorem dX10_lock_221 : decode cX10_lock 221 = .ok (.iastore, 1) := by decide +kernel
theorem dX10_lock_222 : decode cX10_lock 222 = .ok (.aload_n 0, 1) := by decide +kernel
theorem dX10_lock_223 : decode cX10_lock 223 = .ok (.getfield 59, 3) := by decide +kernel
theorem dX10_lock_226 : decode cX10_lock 226 = .ok (.iload_n 2, 1) := by decide +kernel
theorem dX10_lock_227 : decode cX10_lock 227 = .ok (.aload_n 0, 1) := by decide +kernel
theorem dX10_lock_228 : decode cX10_lock 228 = .ok (.getfield 104, 3) := by decide +kernel
theorem dX10_lock_231 : decode cX10_lock 231 = .ok (.iload_n 2, 1) := by decide +kernel
theorem dX10_lock_232 : decode cX10_lock 232 = .ok (.iaload, 1) := by decide +kernel
theorem dX10_lock_233 : decode cX10_lock 233 = .ok (.iastore, 1) := by decide +kernel
theorem dX10_lock_234 : decode cX10_lock 234 = .ok (.iinc 2 1, 3) := by decide +kernel
theorem dX10_lock_237 : decode cX10_lock 237 = .ok (.goto (-56), 3) := by decide +kernel
set_option maxHeartbeats 1000000 in
set_option maxRecDepth 100000 in
theorem lo_out {p : Program} {l : Launch} {e : Env} {R : Room} {s : State} {m : MethodId} {args : Array Value} {below : List Frame} {meth : Method} {c : Code} {cells slots : Nat} {Q : State → Prop} {D : va_G} {A : Nat → Prop} {h0 : Nat} {q : Nat → Nat} {cB cI cZ : ClassId} {I : Nat → Int32} {F : Nat → Nat → Int32} {pn : Nat} {pe sl : Nat → Nat} {K : Nat → Int32} {Fm To Rr : Nat → Nat} (hpv : rp_ok F pn pe sl K Fm To Rr) (hSS : rs_S Fm To pn ≤ 8000) {gn : Nat} {Bp Br : Nat → Nat} (hI28 : I 28 = nI gn) (hgn : gn ≤ 8000) (hrd : ∀ g, g ≤ gn → F 35 g = nI (Bp g) ∧ F 36 g = nI (Br g)) (hgood : pg_good Fm To pn gn Bp Br) (hRf : 1 ≤ R.frames) (hRl : 25 ≤ R.locals) (hRc : cells ≤ R.cells) (hRs : slots ≤ R.slots) (hA : ∀ q : Nat, s.heap.size ≤ q → A q) (hf : CallFix p m c cX10_lock 6 s args gT yX10_lock.cls) (hK : va_K D vcl (mT cB cI cZ) s) :
    ∀ (k : Nat) (gi : Nat) (n : Nat) (P : List Q4) (f38 : Nat → Int32) (f39 : Nat → Int32) (f40 : Nat → Int32) (f41 : Nat → Int32) (H : Heap) (locs : List Loc) (ls : Array Slot), gi + k = gn → P = lk_pcs Fm To Bp Br gi → n = P.length → pc_is P f38 f39 f40 f41 → (gi < gn → n ≤ rs_S Fm To (Bp gi) + Br gi) → n ≤ rs_S Fm To pn →  va_P D vcl (mW h0 q cB cI cZ I (va_up (va_up (va_up (va_up F 38 f38) 39 f39) 40 f40) 41 f41)) H → va_D A (mW h0 q cB cI cZ I (va_up (va_up (va_up (va_up F 38 f38) 39 f39) 40 f40) 41 f41)) → va_S A s.heap H locs → lv_has ls 6 [(2, .int (nI gi)), (1, .int (nI n)), (0, .ref h0)] →
    (∀ (n : Nat) (P : List Q4) (f38 : Nat → Int32) (f39 : Nat → Int32) (f40 : Nat → Int32) (f41 : Nat → Int32) (H : Heap) (locs : List Loc) (ls : Array Slot), P = lk_pcs Fm To Bp Br gn → n = P.length → pc_is P f38 f39 f40 f41 → n ≤ rs_S Fm To pn → va_P D vcl (mW h0 q cB cI cZ I (va_up (va_up (va_up (va_up F 38 f38) 39 f39) 40 f40) 41 f41)) H → va_D A (mW h0 q cB cI cZ I (va_up (va_up (va_up (va_up F 38 f38) 39 f39) 40 f40) 41 f41)) → va_S A s.heap H locs → lv_has ls 6 [(1, .int (nI n)), (0, .ref h0)] → W p l e R s m args below meth c H locs cells slots Q (F0 m 174 ls [])) →
    W p l e R s m args below meth c H locs cells slots Q (F0 m 28 ls []) := by
  obtain ⟨hx, hb, hml, hown, hts⟩ := id hf
  intro k
  induction k with
  | zero =>
    intro gi n P f38 f39 f40 f41 H locs ls hik hPe hn hpc hle hnb hP hD hS hl kk
    refine lv_iload_n hx hb dX10_lock_28 rfl (lv_at hl 0 rfl) ?_
    refine lv_aload_n hx hb dX10_lock_29 rfl (lv_at hl 2 rfl) ?_
    refine va_get (D := D) (ci := 11) (v := .int (I 28)) (C := RX10) (T := TX10) (N := 48) hx hb hts inX10 hown hK hP 0 rfl rfl 28 (by decide) (hts _ k_1172) (fun _ h9 => h9) rfl dX10_lock_30 ?_
    refine q_seti (y := (nI gn)) hI28 ?_
    refine lv_icmp_ge (tgt := 174) hx hb dX10_lock_33 (by decide) (fun c_1 => ?_) (fun c_1 => ?_)
    · have c_1 := q_le (a := gn) (b := gi) (by omega) (by omega) c_1
      obtain rfl : gi = gn := by omega
      exact kk n P f38 f39 f40 f41 H locs ls hPe hn hpc hnb hP hD hS (lv_sub hl (l' := [(1, .int (nI n)), (0, .ref h0)]) [1, 2] rfl)
    · have c_1 := q_nle (a := gn) (b := gi) (by omega) (by omega) c_1
      exact absurd hik (by omega)
  | succ k ih =>
    intro gi n P f38 f39 f40 f41 H locs ls hik hPe hn hpc hle hnb hP hD hS hl kk
    refine lv_iload_n hx hb dX10_lock_28 rfl (lv_at hl 0 rfl) ?_
    refine lv_aload_n hx hb dX10_lock_29 rfl (lv_at hl 2 rfl) ?_
    refine va_get (D := D) (ci := 11) (v := .int (I 28)) (C := RX10) (T := TX10) (N := 48) hx hb hts inX10 hown hK hP 0 rfl rfl 28 (by decide) (hts _ k_1172) (fun _ h9 => h9) rfl dX10_lock_30 ?_
    refine q_seti (y := (nI gn)) hI28 ?_
    refine lv_icmp_ge (tgt := 174) hx hb dX10_lock_33 (by decide) (fun c_1 => ?_) (fun c_1 => ?_)
    · have c_1 := q_le (a := gn) (b := gi) (by omega) (by omega) c_1
      exact absurd hik (by omega)
    · have c_1 := q_nle (a := gn) (b := gi) (by omega) (by omega) c_1
      have hpn8 := hpv.1
      have hgd := hgood gi (by omega)
      have hord := rs_ord hgd.1 hgd.2.1 hgd.2.2.1 hgd.2.2.2.1 hgd.2.2.2.2.1 hgd.2.2.2.2.2
      have hse := rs_S_end (Fm := Fm) (To := To) hgd.2.2.1 hgd.2.2.2.1 hgd.2.2.2.2.1
      have hle9 := hle (by omega)
      have hsz := rs_S_le (Fm := Fm) (To := To) hgd.1
      refine lv_aload_n hx hb dX10_lock_36 rfl (lv_at hl 2 rfl) ?_
      refine va_get (D := D) (ci := 11) (v := .ref (q 35)) (C := RX10) (T := TX10) (N := 48) hx hb hts inX10 hown hK hP 0 rfl rfl 35 (by decide) (hts _ k_1179) (fun _ h9 => h9) rfl dX10_lock_37 ?_
      refine lv_iload_n hx hb dX10_lock_40 rfl (lv_at hl 0 rfl) ?_
      refine lv_iconst (v := 1) hx hb dX10_lock_41 (by decide) ?_
      refine lv_iadd hx hb dX10_lock_42 ?_
      refine q_seti (y := nI (gi + 1)) (nI_add gi 1) ?_
      refine q_ild (X := gi + 1) (f := (F 35)) hx hb hK hP 24 1 rfl rfl (by omega) (by decide) dX10_lock_43 ?_
      refine q_seti (y := (nI ((Bp (gi + 1))))) (hrd (gi + 1) (by omega)).1 ?_
      refine lv_istore_n (lv' := [(3, .int (nI ((Bp (gi + 1))))), (2, .int (nI gi)), (1, .int (nI n)), (0, .ref h0)]) hx hb dX10_lock_44 rfl hl (by decide) rfl (fun ls hl => ?_)
      refine lv_aload_n hx hb dX10_lock_45 rfl (lv_at hl 3 rfl) ?_
      refine va_get (D := D) (ci := 11) (v := .ref (q 36)) (C := RX10) (T := TX10) (N := 48) hx hb hts inX10 hown hK hP 0 rfl rfl 36 (by decide) (hts _ k_1180) (fun _ h9 => h9) rfl dX10_lock_46 ?_
      refine lv_iload_n hx hb dX10_lock_49 rfl (lv_at hl 1 rfl) ?_
      refine lv_iconst (v := 1) hx hb dX10_lock_50 (by decide) ?_
      refine lv_iadd hx hb dX10_lock_51 ?_
      refine q_seti (y := nI (gi + 1)) (nI_add gi 1) ?_
      refine q_ild (X := gi + 1) (f := (F 36)) hx hb hK hP 25 1 rfl rfl (by omega) (by decide) dX10_lock_52 ?_
      refine q_seti (y := (nI ((Br (gi + 1))))) (hrd (gi + 1) (by omega)).2 ?_
      refine lv_istore (lv' := [(4, .int (nI ((Br (gi + 1))))), (3, .int (nI ((Bp (gi + 1))))), (2, .int (nI gi)), (1, .int (nI n)), (0, .ref h0)]) hx hb dX10_lock_53 hl (by decide) rfl (fun ls hl => ?_)
      refine lv_aload_n hx hb dX10_lock_55 rfl (lv_at hl 4 rfl) ?_
      refine va_get (D := D) (ci := 11) (v := .ref (q 35)) (C := RX10) (T := TX10) (N := 48) hx hb hts inX10 hown hK hP 0 rfl rfl 35 (by decide) (hts _ k_1179) (fun _ h9 => h9) rfl dX10_lock_56 ?_
      refine lv_iload_n hx hb dX10_lock_59 rfl (lv_at hl 2 rfl) ?_
      refine q_ild (X := gi) (f := (F 35)) hx hb hK hP 24 1 rfl rfl (by omega) (by decide) dX10_lock_60 ?_
      refine q_seti (y := (nI ((Bp gi)))) (hrd gi (by omega)).1 ?_
      refine lv_istore (lv' := [(5, .int (nI ((Bp gi)))), (4, .int (nI ((Br (gi + 1))))), (3, .int (nI ((Bp (gi + 1))))), (2, .int (nI gi)), (1, .int (nI n)), (0, .ref h0)]) hx hb dX10_lock_61 hl (by decide) rfl (fun ls hl => ?_)
      refine lo_in (I := I) (F := F) hpv hSS hI28 hgn hrd hgood (show gi < gn by omega) hRf hRl hRc hRs hA hf hK 8001 (Bp gi) (Br (gi + 1)) n P f38 f39 f40 f41 H locs ls (by omega) ⟨Nat.le_refl _, by omega⟩ (fun _ => rfl) hn hpc (fun _ => by rw [if_pos rfl]; exact hle9) (fun h9 => by have h8 := hord.1; omega) hP hD hS (lv_sub hl (l' := [(5, .int (nI ((Bp gi)))), (4, .int (nI ((Br (gi + 1))))), (3, .int (nI ((Bp (gi + 1))))), (2, .int (nI gi)), (1, .int (nI n)), (0, .ref h0)]) [0, 1, 2, 3, 4, 5] rfl) (fun n2 P2 g38 g39 g40 g41 H locs ls a1 a2 a3 a4 hP hD hS hl => ?_)
      have hP2 : P2 = lk_pcs Fm To Bp Br (gi + 1) := by rw [a1, hPe]; rfl
      refine lv_iinc (v := (nI (gi + 1))) (lv' := [(2, .int (nI (gi + 1))), (1, .int (nI n2)), (0, .ref h0)]) hx hb dX10_lock_168 hl (k := 0) rfl (nI_add gi 1) (by decide) rfl (fun ls hl => ?_)
      refine lv_goto (tgt := 28) hx hb dX10_lock_171 (by decide) ?_
      exact ih (gi + 1) n2 P2 g38 g39 g40 g41 H locs ls (by omega) hP2 a2 a3 (fun _ => a4) (by omega) hP hD hS (lv_sub hl (l' := [(2, .int (nI (gi + 1))), (1, .int (nI n2)), (0, .ref h0)]) [0, 1, 2] rfl) kk
set_option maxHeartbeats 1000000 in
set_option maxRecDepth 100000 in
theorem lo_cp {p : Program} {l : Launch} {e : Env} {R : Room} {s : State} {m : MethodId} {args : Array Value} {below : List Frame} {meth : Method} {c : Code} {cells slots : Nat} {Q : State → Prop} {D : va_G} {A : Nat → Prop} {h0 : Nat} {q : Nat → Nat} {cB cI cZ : ClassId} {I : Nat → Int32} {F : Nat → Nat → Int32} {n : Nat} (hn8 : n ≤ 8000) (hRf : 0 ≤ R.frames) (hRl : 0 ≤ R.locals) (hRc : cells ≤ R.cells) (hRs : slots ≤ R.slots) (hA : ∀ q : Nat, s.heap.size ≤ q → A q) (hf : CallFix p m c cX10_lock 6 s args gT yX10_lock.cls) (hK : va_K D vcl (mT cB cI cZ) s) :
    ∀ (k : Nat) (i : Nat) (g15 : Nat → Int32) (g16 : Nat → Int32) (g17 : Nat → Int32) (g18 : Nat → Int32) (H : Heap) (locs : List Loc) (ls : Array Slot), i + k = n → (∀ j, j < i → g15 j = F 38 j ∧ g16 j = F 39 j ∧ g17 j = F 40 j ∧ g18 j = F 41 j) →  va_P D vcl (mW h0 q cB cI cZ I (va_up (va_up (va_up (va_up F 15 g15) 16 g16) 17 g17) 18 g18)) H → va_D A (mW h0 q cB cI cZ I (va_up (va_up (va_up (va_up F 15 g15) 16 g16) 17 g17) 18 g18)) → va_S A s.heap H locs → lv_has ls 6 [(2, .int (nI i)), (1, .int (nI n)), (0, .ref h0)] →
    (∀ (g15 : Nat → Int32) (g16 : Nat → Int32) (g17 : Nat → Int32) (g18 : Nat → Int32) (H : Heap) (locs : List Loc) (ls : Array Slot), (∀ j, j < n → g15 j = F 38 j ∧ g16 j = F 39 j ∧ g17 j = F 40 j ∧ g18 j = F 41 j) → va_P D vcl (mW h0 q cB cI cZ I (va_up (va_up (va_up (va_up F 15 g15) 16 g16) 17 g17) 18 g18)) H → va_D A (mW h0 q cB cI cZ I (va_up (va_up (va_up (va_up F 15 g15) 16 g16) 17 g17) 18 g18)) → va_S A s.heap H locs → lv_has ls 6 [(0, .ref h0)] → W p l e R s m args below meth c H locs cells slots Q (F0 m 240 ls [])) →
    W p l e R s m args below meth c H locs cells slots Q (F0 m 181 ls []) := by
  obtain ⟨hx, hb, hml, hown, hts⟩ := id hf
  intro k
  induction k with
  | zero =>
    intro i g15 g16 g17 g18 H locs ls hik hcp hP hD hS hl kk
    refine lv_iload_n hx hb dX10_lock_181 rfl (lv_at hl 0 rfl) ?_
    refine lv_iload_n hx hb dX10_lock_182 rfl (lv_at hl 1 rfl) ?_
    refine lv_icmp_ge (tgt := 240) hx hb dX10_lock_183 (by decide) (fun c_1 => ?_) (fun c_1 => ?_)
    · have c_1 := q_le (a := n) (b := i) (by omega) (by omega) c_1
      exact kk g15 g16 g17 g18 H locs ls (fun j hj => hcp j (by omega)) hP hD hS (lv_sub hl (l' := [(0, .ref h0)]) [2] rfl)
    · have c_1 := q_nle (a := n) (b := i) (by omega) (by omega) c_1
      exact absurd hik (by omega)
  | succ k ih =>
    intro i g15 g16 g17 g18 H locs ls hik hcp hP hD hS hl kk
    refine lv_iload_n hx hb dX10_lock_181 rfl (lv_at hl 0 rfl) ?_
    refine lv_iload_n hx hb dX10_lock_182 rfl (lv_at hl 1 rfl) ?_
    refine lv_icmp_ge (tgt := 240) hx hb dX10_lock_183 (by decide) (fun c_1 => ?_) (fun c_1 => ?_)
    · have c_1 := q_le (a := n) (b := i) (by omega) (by omega) c_1
      exact absurd hik (by omega)
    · have c_1 := q_nle (a := n) (b := i) (by omega) (by omega) c_1
      refine lv_aload_n hx hb dX10_lock_186 rfl (lv_at hl 2 rfl) ?_
      refine va_get (D := D) (ci := 11) (v := .ref (q 15)) (C := RX10) (T := TX10) (N := 48) hx hb hts inX10 hown hK hP 0 rfl rfl 15 (by decide) (hts _ k_1159) (fun _ h9 => h9) rfl dX10_lock_187 ?_
      refine lv_iload_n hx hb dX10_lock_190 rfl (lv_at hl 0 rfl) ?_
      refine lv_aload_n hx hb dX10_lock_191 rfl (lv_at hl 2 rfl) ?_
      refine va_get (D := D) (ci := 11) (v := .ref (q 38)) (C := RX10) (T := TX10) (N := 48) hx hb hts inX10 hown hK hP 0 rfl rfl 38 (by decide) (hts _ k_1182) (fun _ h9 => h9) rfl dX10_lock_192 ?_
      refine lv_iload_n hx hb dX10_lock_195 rfl (lv_at hl 0 rfl) ?_
      refine q_ild (X := i) (f := (F 38)) hx hb hK hP 27 1 rfl rfl (by omega) (by decide) dX10_lock_196 ?_
      refine q_ist (X := i) (f := g15) (x := ((F 38) i)) hx hb hK hP hD hS 12 1 rfl rfl (by omega) (by decide) dX10_lock_197 (fun H locs hP hD hS => ?_)
      have hP : va_P D vcl (mW h0 q cB cI cZ I (va_up (va_up (va_up (va_up F 15 (upd g15 i ((F 38) i))) 16 g16) 17 g17) 18 g18)) H := hP
      have hD : va_D A (mW h0 q cB cI cZ I (va_up (va_up (va_up (va_up F 15 (upd g15 i ((F 38) i))) 16 g16) 17 g17) 18 g18)) := hD
      refine lv_aload_n hx hb dX10_lock_198 rfl (lv_at hl 2 rfl) ?_
      refine va_get (D := D) (ci := 11) (v := .ref (q 16)) (C := RX10) (T := TX10) (N := 48) hx hb hts inX10 hown hK hP 0 rfl rfl 16 (by decide) (hts _ k_1160) (fun _ h9 => h9) rfl dX10_lock_199 ?_
      refine lv_iload_n hx hb dX10_lock_202 rfl (lv_at hl 0 rfl) ?_
      refine lv_aload_n hx hb dX10_lock_203 rfl (lv_at hl 2 rfl) ?_
      refine va_get (D := D) (ci := 11) (v := .ref (q 39)) (C := RX10) (T := TX10) (N := 48) hx hb hts inX10 hown hK hP 0 rfl rfl 39 (by decide) (hts _ k_1183) (fun _ h9 => h9) rfl dX10_lock_204 ?_
      refine lv_iload_n hx hb dX10_lock_207 rfl (lv_at hl 0 rfl) ?_
      refine q_ild (X := i) (f := (F 39)) hx hb hK hP 28 1 rfl rfl (by omega) (by decide) dX10_lock_208 ?_
      refine q_ist (X := i) (f := g16) (x := ((F 39) i)) hx hb hK hP hD hS 13 1 rfl rfl (by omega) (by decide) dX10_lock_209 (fun H locs hP hD hS => ?_)
      have hP : va_P D vcl (mW h0 q cB cI cZ I (va_up (va_up (va_up (va_up F 15 (upd g15 i ((F 38) i))) 16 (upd g16 i ((F 39) i))) 17 g17) 18 g18)) H := hP
      have hD : va_D A (mW h0 q cB cI cZ I (va_up (va_up (va_up (va_up F 15 (upd g15 i ((F 38) i))) 16 (upd g16 i ((F 39) i))) 17 g17) 18 g18)) := hD
      refine lv_aload_n hx hb dX10_lock_210 rfl (lv_at hl 2 rfl) ?_
      refine va_get (D := D) (ci := 11) (v := .ref (q 17)) (C := RX10) (T := TX10) (N := 48) hx hb hts inX10 hown hK hP 0 rfl rfl 17 (by decide) (hts _ k_1161) (fun _ h9 => h9) rfl dX10_lock_211 ?_
      refine lv_iload_n hx hb dX10_lock_214 rfl (lv_at hl 0 rfl) ?_
      refine lv_aload_n hx hb dX10_lock_215 rfl (lv_at hl 2 rfl) ?_
      refine va_get (D := D) (ci := 11) (v := .ref (q 40)) (C := RX10) (T := TX10) (N := 48) hx hb hts inX10 hown hK hP 0 rfl rfl 40 (by decide) (hts _ k_1184) (fun _ h9 => h9) rfl dX10_lock_216 ?_
      refine lv_iload_n hx hb dX10_lock_219 rfl (lv_at hl 0 rfl) ?_
      refine q_ild (X := i) (f := (F 40)) hx hb hK hP 29 1 rfl rfl (by omega) (by decide) dX10_lock_220 ?_
      refine q_ist (X := i) (f := g17) (x := ((F 40) i)) hx hb hK hP hD hS 14 1 rfl rfl (by omega) (by decide) dX10_lock_221 (fun H locs hP hD hS => ?_)
      have hP : va_P D vcl (mW h0 q cB cI cZ I (va_up (va_up (va_up (va_up F 15 (upd g15 i ((F 38) i))) 16 (upd g16 i ((F 39) i))) 17 (upd g17 i ((F 40) i))) 18 g18)) H := hP
      have hD : va_D A (mW h0 q cB cI cZ I (va_up (va_up (va_up (va_up F 15 (upd g15 i ((F 38) i))) 16 (upd g16 i ((F 39) i))) 17 (upd g17 i ((F 40) i))) 18 g18)) := hD
      refine lv_aload_n hx hb dX10_lock_222 rfl (lv_at hl 2 rfl) ?_
      refine va_get (D := D) (ci := 11) (v := .ref (q 18)) (C := RX10) (T := TX10) (N := 48) hx hb hts inX10 hown hK hP 0 rfl rfl 18 (by decide) (hts _ k_1162) (fun _ h9 => h9) rfl dX10_lock_223 ?_
      refine lv_iload_n hx hb dX10_lock_226 rfl (lv_at hl 0 rfl) ?_
      refine lv_aload_n hx hb dX10_lock_227 rfl (lv_at hl 2 rfl) ?_
      refine va_get (D := D) (ci := 11) (v := .ref (q 41)) (C := RX10) (T := TX10) (N := 48) hx hb hts inX10 hown hK hP 0 rfl rfl 41 (by decide) (hts _ k_1185) (fun _ h9 => h9) rfl dX10_lock_228 ?_
      refine lv_iload_n hx hb dX10_lock_231 rfl (lv_at hl 0 rfl) ?_
      refine q_ild (X := i) (f := (F 41)) hx hb hK hP 30 1 rfl rfl (by omega) (by decide) dX10_lock_232 ?_
      refine q_ist (X := i) (f := g18) (x := ((F 41) i)) hx hb hK hP hD hS 15 1 rfl rfl (by omega) (by decide) dX10_lock_233 (fun H locs hP hD hS => ?_)
      have hP : va_P D vcl (mW h0 q cB cI cZ I (va_up (va_up (va_up (va_up F 15 (upd g15 i ((F 38) i))) 16 (upd g16 i ((F 39) i))) 17 (upd g17 i ((F 40) i))) 18 (upd g18 i ((F 41) i)))) H := hP
      have hD : va_D A (mW h0 q cB cI cZ I (va_up (va_up (va_up (va_up F 15 (upd g15 i ((F 38) i))) 16 (upd g16 i ((F 39) i))) 17 (upd g17 i ((F 40) i))) 18 (upd g18 i ((F 41) i)))) := hD
      refine lv_iinc (v := (nI (i + 1))) (lv' := [(2, .int (nI (i + 1))), (1, .int (nI n)), (0, .ref h0)]) hx hb dX10_lock_234 hl (k := 0) rfl (nI_add i 1) (by decide) rfl (fun ls hl => ?_)
      refine lv_goto (tgt := 181) hx hb dX10_lock_237 (by decide) ?_
      exact ih (i + 1) _ _ _ _ H locs ls (by omega) (fun j hj => cp_s (hcp j) hj) hP hD hS (lv_sub hl (l' := [(2, .int (nI (i + 1))), (1, .int (nI n)), (0, .ref h0)]) [0, 1, 2] rfl) kk
