/-- the byte at i of a tape of n; behind it a line's end -/
def tx_ta (T : Nat → Int32) (n i : Nat) : Int32 := if i < n then T i else 10
theorem tx_ta_in {T : Nat → Int32} {n i : Nat} (h : i < n) : tx_ta T n i = T i := if_pos h
theorem tx_ta_out {T : Nat → Int32} {n i : Nat} (h : ¬ i < n) : tx_ta T n i = 10 := if_neg h
def tx_tk (b : Int32) : Prop := b = 10 ∨ (¬ b < 32 ∧ ¬ 126 < b)
noncomputable def tx_put (T : Nat → Int32) (n : Nat) (b : Int32) : Nat × (Nat → Int32) := pif (tx_tk b ∧ n < 1200) (n + 1, upd T n (vp_nar .byte b.toInt8.toInt32)) (n, T)
/-- a word is there from i on, k bytes -/
def tx_wd (T : Nat → Int32) (n : Nat) : Nat → Nat → Prop
  | 0, _ => False
  | k + 1, i => ¬ tx_gap (tx_ta T n i) ∨ tx_wd T n k (i + 1)
def eIs (l : Launch) (D : va_G) (y : MethodName) (b : ByteArray) (n : Nat) (r : Option FieldType) (fr lo mc ms : Nat) (As : List Value) (z : Nat → Nat) (cB cI_ cO : ClassId) (L : List Nat) (g : hG) (P : Int32 → Prop) : Prop := eI l D y b n r fr lo mc ms As z cB cI_ cO L g (fun v L1 g1 => P v ∧ L1 = L ∧ g1 = g)
def eRs (l : Launch) (D : va_G) (y : MethodName) (b : ByteArray) (n : Nat) (r : Option FieldType) (fr lo mc ms : Nat) (As : List Value) (z : Nat → Nat) (cB cI_ cO : ClassId) (L : List Nat) (g : hG) (P : Nat → Prop) : Prop := eR l D y b n r fr lo mc ms As z cB cI_ cO L g (fun v L1 g1 => P v ∧ L1 = L ∧ g1 = g)
def eLs (l : Launch) (D : va_G) (y : MethodName) (b : ByteArray) (n : Nat) (r : Option FieldType) (fr lo mc ms : Nat) (As : List Value) (z : Nat → Nat) (cB cI_ cO : ClassId) (L : List Nat) (g : hG) (P : Int64 → Prop) : Prop := eL l D y b n r fr lo mc ms As z cB cI_ cO L g (fun v L1 g1 => P v ∧ L1 = L ∧ g1 = g)
def eVs (l : Launch) (D : va_G) (y : MethodName) (b : ByteArray) (n : Nat) (r : Option FieldType) (fr lo mc ms : Nat) (As : List Value) (z : Nat → Nat) (cB cI_ cO : ClassId) (L : List Nat) (g : hG) (P : Prop) : Prop := eV l D y b n r fr lo mc ms As z cB cI_ cO L g (fun L1 g1 => P ∧ L1 = L ∧ g1 = g)
section OCS
variable {p : Program} {l : Launch} {e : Env} {R : Room} {s : State} {m : MethodId} {args : Array Value} {below : List Frame} {meth : Method} {c : Code} {H : Heap} {locs : List Loc} {cells slots : Nat} {Q : State → Prop}
variable {pc : Nat} {ls : Array Slot} {rest st0 : List Value} {D : va_G} {A : Nat → Prop} {cB cI_ cO : ClassId} {L : List Nat} {g : hG}
theorem o_cis {P : Int32 → Prop} {a : Array Value} {mc ms k n : Nat} (hK : va_K D vcl (dT cB cI_ cO) s) (hP : va_P D vcl (dW L g) H) (hD : va_D A (dW L g)) (hS : va_S A s.heap H locs) (hA : ∀ q : Nat, s.heap.size ≤ q → A q)
    (run : va_Run p l e R s m args below meth c H locs cells slots mc ms (F0 m pc ls st0) rest (va_Qi (fun v u => ∃ (L1 : List Nat) (g1 : hG), (P v ∧ L1 = L ∧ g1 = g) ∧ u = (dW L1 g1, dT cB cI_ cO)) (wB D (va_A (dW L g) H.size)) (va_A (dW L g) H.size) a) (va_A (dW L g) H.size))
    (hk : cells + mc ≤ k) (hs : slots + ms ≤ n)
    (kk : ∀ (r : Int32) (H1 : Heap) (locs1 : List Loc), P r → va_P D vcl (dW L g) H1 → va_D A (dW L g) → va_S A s.heap H1 locs1 → W p l e R s m args below meth c H1 locs1 k n Q (F0 m (pc + 3) ls (.int r :: rest))) :
    W p l e R s m args below meth c H locs cells slots Q (F0 m pc ls st0) := by
  refine o_ci (post := fun v L1 g1 => P v ∧ L1 = L ∧ g1 = g) hK hP hD hS hA run hk hs (fun r L1 g1 H1 locs1 hw hP1 hD1 hS1 => ?_)
  obtain ⟨h1, rfl, rfl⟩ := hw
  exact kk r H1 locs1 h1 hP1 hD1 hS1
theorem o_crs {P : Nat → Prop} {a : Array Value} {mc ms k n : Nat} (hK : va_K D vcl (dT cB cI_ cO) s) (hP : va_P D vcl (dW L g) H) (hD : va_D A (dW L g)) (hS : va_S A s.heap H locs) (hA : ∀ q : Nat, s.heap.size ≤ q → A q)
    (run : va_Run p l e R s m args below meth c H locs cells slots mc ms (F0 m pc ls st0) rest (va_Qq (fun r u => ∃ b : Nat, r = some b ∧ ∃ (L1 : List Nat) (g1 : hG), (P b ∧ L1 = L ∧ g1 = g) ∧ u = (dW L1 g1, dT cB cI_ cO)) (wB D (va_A (dW L g) H.size)) (va_A (dW L g) H.size) a) (va_A (dW L g) H.size))
    (hk : cells + mc ≤ k) (hs : slots + ms ≤ n)
    (kk : ∀ (r : Nat) (H1 : Heap) (locs1 : List Loc), P r → va_P D vcl (dW L g) H1 → va_D A (dW L g) → va_S A s.heap H1 locs1 → W p l e R s m args below meth c H1 locs1 k n Q (F0 m (pc + 3) ls (.ref r :: rest))) :
    W p l e R s m args below meth c H locs cells slots Q (F0 m pc ls st0) := by
  refine o_cr (post := fun v L1 g1 => P v ∧ L1 = L ∧ g1 = g) hK hP hD hS hA run hk hs (fun r L1 g1 H1 locs1 hw hP1 hD1 hS1 => ?_)
  obtain ⟨h1, rfl, rfl⟩ := hw
  exact kk r H1 locs1 h1 hP1 hD1 hS1
theorem o_cls {P : Int64 → Prop} {a : Array Value} {mc ms k n : Nat} (hK : va_K D vcl (dT cB cI_ cO) s) (hP : va_P D vcl (dW L g) H) (hD : va_D A (dW L g)) (hS : va_S A s.heap H locs) (hA : ∀ q : Nat, s.heap.size ≤ q → A q)
    (run : va_Run p l e R s m args below meth c H locs cells slots mc ms (F0 m pc ls st0) rest (va_Ql (fun v u => ∃ (L1 : List Nat) (g1 : hG), (P v ∧ L1 = L ∧ g1 = g) ∧ u = (dW L1 g1, dT cB cI_ cO)) (wB D (va_A (dW L g) H.size)) (va_A (dW L g) H.size) a) (va_A (dW L g) H.size))
    (hk : cells + mc ≤ k) (hs : slots + ms ≤ n)
    (kk : ∀ (r : Int64) (H1 : Heap) (locs1 : List Loc), P r → va_P D vcl (dW L g) H1 → va_D A (dW L g) → va_S A s.heap H1 locs1 → W p l e R s m args below meth c H1 locs1 k n Q (F0 m (pc + 3) ls (.long r :: rest))) :
    W p l e R s m args below meth c H locs cells slots Q (F0 m pc ls st0) := by
  refine o_cl (post := fun v L1 g1 => P v ∧ L1 = L ∧ g1 = g) hK hP hD hS hA run hk hs (fun r L1 g1 H1 locs1 hw hP1 hD1 hS1 => ?_)
  obtain ⟨h1, rfl, rfl⟩ := hw
  exact kk r H1 locs1 h1 hP1 hD1 hS1
theorem o_cvs {P : Prop} {a : Array Value} {mc ms k n : Nat} (hK : va_K D vcl (dT cB cI_ cO) s) (hP : va_P D vcl (dW L g) H) (hD : va_D A (dW L g)) (hS : va_S A s.heap H locs) (hA : ∀ q : Nat, s.heap.size ≤ q → A q)
    (run : va_Run p l e R s m args below meth c H locs cells slots mc ms (F0 m pc ls st0) rest (va_Qv (fun u => ∃ (L1 : List Nat) (g1 : hG), (P ∧ L1 = L ∧ g1 = g) ∧ u = (dW L1 g1, dT cB cI_ cO)) (wB D (va_A (dW L g) H.size)) (va_A (dW L g) H.size) a) (va_A (dW L g) H.size))
    (hk : cells + mc ≤ k) (hs : slots + ms ≤ n)
    (kk : ∀ (H1 : Heap) (locs1 : List Loc), P → va_P D vcl (dW L g) H1 → va_D A (dW L g) → va_S A s.heap H1 locs1 → W p l e R s m args below meth c H1 locs1 k n Q (F0 m (pc + 3) ls rest)) :
    W p l e R s m args below meth c H locs cells slots Q (F0 m pc ls st0) := by
  refine o_cv (post := fun L1 g1 => P ∧ L1 = L ∧ g1 = g) hK hP hD hS hA run hk hs (fun L1 g1 H1 locs1 hw hP1 hD1 hS1 => ?_)
  obtain ⟨h1, rfl, rfl⟩ := hw
  exact kk H1 locs1 h1 hP1 hD1 hS1
end OCS
theorem nI_addE {a b c : Nat} (h : a + b = c) : nI a + nI b = nI c := by rw [nI_add, h]
theorem nI_subE {a b c : Nat} (h : b ≤ a) (h2 : a - b = c) : nI a - nI b = nI c := by rw [pk_sub h, h2]
theorem nI_mulE {a b c : Nat} (h : a * b = c) : nI a * nI b = nI c := by rw [pk_mul, h]
theorem nI_divE {a b c : Nat} (ha : a < 2 ^ 31) (h0 : 0 < b) (hb : b < 2 ^ 31) (h2 : a / b = c) : nI a / nI b = nI c := by rw [pk_div ha h0 hb, h2]
theorem nI_decE {a c : Nat} (h : a = c + 1) : nI a + (-1) = nI c := by rw [h]; exact pk_m1 c
abbrev cX8_at : ByteArray := prog_10_method_6_code
def yX8_at : MethodName := ⟨RX8, "at", "(I)I"⟩
abbrev cX8_hasRoomFor : ByteArray := prog_10_method_3_code
def yX8_hasRoomFor : MethodName := ⟨RX8, "hasRoomFor", "(I)Z"⟩
abbrev cX8_hasWord : ByteArray := prog_10_method_9_code
def yX8_hasWord : MethodName := ⟨RX8, "hasWord", "()Z"⟩
abbrev cX8_isBlank : ByteArray := prog_10_method_7_code
def yX8_isBlank : MethodName := ⟨RX8, "isBlank", "(I)Z"⟩
abbrev cX8_isGap : ByteArray := prog_10_method_8_code
def yX8_isGap : MethodName := ⟨RX8, "isGap", "(I)Z"⟩
abbrev cX8_keep : ByteArray := prog_10_method_5_code
def yX8_keep : MethodName := ⟨RX8, "keep", "(I)V"⟩
abbrev cX8_put : ByteArray := prog_10_method_4_code
def yX8_put : MethodName := ⟨RX8, "put", "(I)V"⟩
abbrev cX8_used : ByteArray := prog_10_method_2_code
def yX8_used : MethodName := ⟨RX8, "used", "()I"⟩
theorem k_85 : (Cond.initialized RX8) ∈ gT := gT_i 85 (by decide +kernel) rfl
theorem k_121 : (Cond.fieldLink RX8 9 "ScriptDesk$Tape" "bytes" "[B") ∈ gT := gT_i 121 (by decide +kernel) rfl
theorem k_122 : (Cond.fieldLink RX8 13 "ScriptDesk$Tape" "size" "I") ∈ gT := gT_i 122 (by decide +kernel) rfl
theorem k_194 : (Cond.instanceMethod yX8_isGap) ∈ gT := gT_i 194 (by decide +kernel) rfl
theorem k_195 : (Cond.selects RX8 yX8_isGap yX8_isGap) ∈ gT := gT_i 195 (by decide +kernel) rfl
theorem k_196 : (Cond.code yX8_isGap cX8_isGap 2 (some .boolean)) ∈ gT := gT_i 196 (by decide +kernel) rfl
theorem k_197 : (Cond.methodLink RX8 17 yX8_at) ∈ gT := gT_i 197 (by decide +kernel) rfl
theorem k_198 : (Cond.instanceMethod yX8_at) ∈ gT := gT_i 198 (by decide +kernel) rfl
theorem k_199 : (Cond.selects RX8 yX8_at yX8_at) ∈ gT := gT_i 199 (by decide +kernel) rfl
theorem k_200 : (Cond.code yX8_at cX8_at 2 (some .int)) ∈ gT := gT_i 200 (by decide +kernel) rfl
theorem k_940 : (Cond.methodLink RX8 21 yX8_isGap) ∈ gT := gT_i 940 (by decide +kernel) rfl
theorem dX8_used_0 : decode cX8_used 0 = .ok (.aload_n 0, 1) := by decide +kernel
theorem dX8_used_1 : decode cX8_used 1 = .ok (.getfield 13, 3) := by decide +kernel
theorem dX8_used_4 : decode cX8_used 4 = .ok (.ireturn, 1) := by decide +kernel
theorem dX8_at_0 : decode cX8_at 0 = .ok (.iload_n 1, 1) := by decide +kernel
theorem dX8_at_1 : decode cX8_at 1 = .ok (.ifCond .lt 20, 3) := by decide +kernel
theorem dX8_at_4 : decode cX8_at 4 = .ok (.iload_n 1, 1) := by decide +kernel
theorem dX8_at_5 : decode cX8_at 5 = .ok (.aload_n 0, 1) := by decide +kernel
theorem dX8_at_6 : decode cX8_at 6 = .ok (.getfield 13, 3) := by decide +kernel
theorem dX8_at_9 : decode cX8_at 9 = .ok (.if_icmp .ge 12, 3) := by decide +kernel
theorem dX8_at_21 : decode cX8_at 21 = .ok (.bipush 10, 2) := by decide +kernel
theorem dX8_at_23 : decode cX8_at 23 = .ok (.ireturn, 1) := by decide +kernel
theorem dX8_at_12 : decode cX8_at 12 = .ok (.aload_n 0, 1) := by decide +kernel
theorem dX8_at_13 : decode cX8_at 13 = .ok (.getfield 9, 3) := by decide +kernel
theorem dX8_at_16 : decode cX8_at 16 = .ok (.iload_n 1, 1) := by decide +kernel
theorem dX8_at_17 : decode cX8_at 17 = .ok (.baload, 1) := by decide +kernel
theorem dX8_at_18 : decode cX8_at 18 = .ok (.goto 5, 3) := by decide +kernel
theorem dX8_isBlank_0 : decode cX8_isBlank 0 = .ok (.aload_n 0, 1) := by decide +kernel
theorem dX8_isBlank_1 : decode cX8_isBlank 1 = .ok (.iload_n 1, 1) := by decide +kernel
theorem dX8_isBlank_2 : decode cX8_isBlank 2 = .ok (.invokevirtual 17, 3) := by decide +kernel
theorem dX8_isBlank_5 : decode cX8_isBlank 5 = .ok (.bipush 32, 2) := by decide +kernel
theorem dX8_isBlank_7 : decode cX8_isBlank 7 = .ok (.if_icmp .ne 7, 3) := by decide +kernel
theorem dX8_isBlank_14 : decode cX8_isBlank 14 = .ok (.iconst 0, 1) := by decide +kernel
theorem dX8_isBlank_15 : decode cX8_isBlank 15 = .ok (.ireturn, 1) := by decide +kernel
theorem dX8_isBlank_10 : decode cX8_isBlank 10 = .ok (.iconst 1, 1) := by decide +kernel
theorem dX8_isBlank_11 : decode cX8_isBlank 11 = .ok (.goto 4, 3) := by decide +kernel
theorem dX8_isGap_0 : decode cX8_isGap 0 = .ok (.aload_n 0, 1) := by decide +kernel
theorem dX8_isGap_1 : decode cX8_isGap 1 = .ok (.iload_n 1, 1) := by decide +kernel
theorem dX8_isGap_2 : decode cX8_isGap 2 = .ok (.invokevirtual 17, 3) := by decide +kernel
theorem dX8_isGap_5 : decode cX8_isGap 5 = .ok (.bipush 32, 2) := by decide +kernel
theorem dX8_isGap_7 : decode cX8_isGap 7 = .ok (.if_icmp .eq 13, 3) := by decide +kernel
theorem dX8_isGap_20 : decode cX8_isGap 20 = .ok (.iconst 1, 1) := by decide +kernel
theorem dX8_isGap_21 : decode cX8_isGap 21 = .ok (.goto 4, 3) := by decide +kernel
theorem dX8_isGap_25 : decode cX8_isGap 25 = .ok (.ireturn, 1) := by decide +kernel
theorem dX8_isGap_10 : decode cX8_isGap 10 = .ok (.aload_n 0, 1) := by decide +kernel
theorem dX8_isGap_11 : decode cX8_isGap 11 = .ok (.iload_n 1, 1) := by decide +kernel
theorem dX8_isGap_12 : decode cX8_isGap 12 = .ok (.invokevirtual 17, 3) := by decide +kernel
theorem dX8_isGap_15 : decode cX8_isGap 15 = .ok (.bipush 10, 2) := by decide +kernel
theorem dX8_isGap_17 : decode cX8_isGap 17 = .ok (.if_icmp .ne 7, 3) := by decide +kernel
theorem dX8_isGap_24 : decode cX8_isGap 24 = .ok (.iconst 0, 1) := by decide +kernel
theorem dX8_hasRoomFor_0 : decode cX8_hasRoomFor 0 = .ok (.aload_n 0, 1) := by decide +kernel
theorem dX8_hasRoomFor_1 : decode cX8_hasRoomFor 1 = .ok (.getfield 13, 3) := by decide +kernel
theorem dX8_hasRoomFor_4 : decode cX8_hasRoomFor 4 = .ok (.sipush 1200, 3) := by decide +kernel
theorem dX8_hasRoomFor_7 : decode cX8_hasRoomFor 7 = .ok (.iload_n 1, 1) := by decide +kernel
theorem dX8_hasRoomFor_8 : decode cX8_hasRoomFor 8 = .ok (.isub, 1) := by decide +kernel
theorem dX8_hasRoomFor_9 : decode cX8_hasRoomFor 9 = .ok (.if_icmp .gt 7, 3) := by decide +kernel
theorem dX8_hasRoomFor_16 : decode cX8_hasRoomFor 16 = .ok (.iconst 0, 1) := by decide +kernel
theorem dX8_hasRoomFor_17 : decode cX8_hasRoomFor 17 = .ok (.ireturn, 1) := by decide +kernel
theorem dX8_hasRoomFor_12 : decode cX8_hasRoomFor 12 = .ok (.iconst 1, 1) := by decide +kernel
theorem dX8_hasRoomFor_13 : decode cX8_hasRoomFor 13 = .ok (.goto 4, 3) := by decide +kernel
theorem dX8_keep_0 : decode cX8_keep 0 = .ok (.iload_n 1, 1) := by decide +kernel
theorem dX8_keep_1 : decode cX8_keep 1 = .ok (.ifCond .lt 16, 3) := by decide +kernel
theorem dX8_keep_4 : decode cX8_keep 4 = .ok (.iload_n 1, 1) := by decide +kernel
theorem dX8_keep_5 : decode cX8_keep 5 = .ok (.aload_n 0, 1) := by decide +kernel
theorem dX8_keep_6 : decode cX8_keep 6 = .ok (.getfield 13, 3) := by decide +kernel
theorem dX8_keep_9 : decode cX8_keep 9 = .ok (.if_icmp .ge 8, 3) := by decide +kernel
theorem dX8_keep_17 : decode cX8_keep 17 = .ok (.return_, 1) := by decide +kernel
theorem dX8_keep_12 : decode cX8_keep 12 = .ok (.aload_n 0, 1) := by decide +kernel
theorem dX8_keep_13 : decode cX8_keep 13 = .ok (.iload_n 1, 1) := by decide +kernel
theorem dX8_keep_14 : decode cX8_keep 14 = .ok (.putfield 13, 3) := by decide +kernel
theorem dX8_put_0 : decode cX8_put 0 = .ok (.iload_n 1, 1) := by decide +kernel
theorem dX8_put_1 : decode cX8_put 1 = .ok (.bipush 10, 2) := by decide +kernel
theorem dX8_put_3 : decode cX8_put 3 = .ok (.if_icmp .eq 15, 3) := by decide +kernel
theorem dX8_put_18 : decode cX8_put 18 = .ok (.iconst 1, 1) := by decide +kernel
theorem dX8_put_19 : decode cX8_put 19 = .ok (.goto 4, 3) := by decide +kernel
theorem dX8_put_23 : decode cX8_put 23 = .ok (.istore_n 2, 1) := by decide +kernel
theorem dX8_put_24 : decode cX8_put 24 = .ok (.iload_n 2, 1) := by decide +kernel
theorem dX8_put_25 : decode cX8_put 25 = .ok (.ifCond .eq 34, 3) := by decide +kernel
theorem dX8_put_28 : decode cX8_put 28 = .ok (.aload_n 0, 1) := by decide +kernel
theorem dX8_put_29 : decode cX8_put 29 = .ok (.getfield 13, 3) := by decide +kernel
theorem dX8_put_32 : decode cX8_put 32 = .ok (.sipush 1200, 3) := by decide +kernel
theorem dX8_put_35 : decode cX8_put 35 = .ok (.if_icmp .ge 24, 3) := by decide +kernel
theorem dX8_put_59 : decode cX8_put 59 = .ok (.return_, 1) := by decide +kernel
theorem dX8_put_38 : decode cX8_put 38 = .ok (.aload_n 0, 1) := by decide +kernel
theorem dX8_put_39 : decode cX8_put 39 = .ok (.getfield 9, 3) := by decide +kernel
theorem dX8_put_42 : decode cX8_put 42 = .ok (.aload_n 0, 1) := by decide +kernel
theorem dX8_put_43 : decode cX8_put 43 = .ok (.getfield 13, 3) := by decide +kernel
theorem dX8_put_46 : decode cX8_put 46 = .ok (.iload_n 1, 1) := by decide +kernel
theorem dX8_put_47 : decode cX8_put 47 = .ok (.i2b, 1) := by decide +kernel
theorem dX8_put_48 : decode cX8_put 48 = .ok (.bastore, 1) := by decide +kernel
theorem dX8_put_49 : decode cX8_put 49 = .ok (.aload_n 0, 1) := by decide +kernel
theorem dX8_put_50 : decode cX8_put 50 = .ok (.dup, 1) := by decide +kernel
theorem dX8_put_51 : decode cX8_put 51 = .ok (.getfield 13, 3) := by decide +kernel
theorem dX8_put_54 : decode cX8_put 54 = .ok (.iconst 1, 1) := by decide +kernel
theorem dX8_put_55 : decode cX8_put 55 = .ok (.iadd, 1) := by decide +kernel
theorem dX8_put_56 : decode cX8_put 56 = .ok (.putfield 13, 3) := by decide +kernel
theorem dX8_put_6 : decode cX8_put 6 = .ok (.iload_n 1, 1) := by decide +kernel
theorem dX8_put_7 : decode cX8_put 7 = .ok (.bipush 32, 2) := by decide +kernel
theorem dX8_put_9 : decode cX8_put 9 = .ok (.if_icmp .lt 13, 3) := by decide +kernel
theorem dX8_put_22 : decode cX8_put 22 = .ok (.iconst 0, 1) := by decide +kernel
theorem dX8_put_12 : decode cX8_put 12 = .ok (.iload_n 1, 1) := by decide +kernel
theorem dX8_put_13 : decode cX8_put 13 = .ok (.bipush 126, 2) := by decide +kernel
theorem dX8_put_15 : decode cX8_put 15 = .ok (.if_icmp .gt 7, 3) := by decide +kernel
theorem dX8_hasWord_2 : decode cX8_hasWord 2 = .ok (.iload_n 1, 1) := by decide +kernel
theorem dX8_hasWord_3 : decode cX8_hasWord 3 = .ok (.aload_n 0, 1) := by decide +kernel
theorem dX8_hasWord_4 : decode cX8_hasWord 4 = .ok (.getfield 13, 3) := by decide +kernel
theorem dX8_hasWord_7 : decode cX8_hasWord 7 = .ok (.if_icmp .ge 19, 3) := by decide +kernel
theorem dX8_hasWord_10 : decode cX8_hasWord 10 = .ok (.aload_n 0, 1) := by decide +kernel
theorem dX8_hasWord_11 : decode cX8_hasWord 11 = .ok (.iload_n 1, 1) := by decide +kernel
theorem dX8_hasWord_12 : decode cX8_hasWord 12 = .ok (.invokevirtual 21, 3) := by decide +kernel
theorem dX8_hasWord_15 : decode cX8_hasWord 15 = .ok (.ifCond .ne 5, 3) := by decide +kernel
theorem dX8_hasWord_20 : decode cX8_hasWord 20 = .ok (.iinc 1 1, 3) := by decide +kernel
theorem dX8_hasWord_23 : decode cX8_hasWord 23 = .ok (.goto (-21), 3) := by decide +kernel
theorem dX8_hasWord_0 : decode cX8_hasWord 0 = .ok (.iconst 0, 1) := by decide +kernel
theorem dX8_hasWord_1 : decode cX8_hasWord 1 = .ok (.istore_n 1, 1) := by decide +kernel
theorem dX8_hasWord_18 : decode cX8_hasWord 18 = .ok (.iconst 1, 1) := by decide +kernel
theorem dX8_hasWord_19 : decode cX8_hasWord 19 = .ok (.ireturn, 1) := by decide +kernel
theorem dX8_hasWord_26 : decode cX8_hasWord 26 = .ok (.iconst 0, 1) := by decide +kernel
theorem dX8_hasWord_27 : decode cX8_hasWord 27 = .ok (.ireturn, 1) := by decide +kernel
set_option maxHeartbeats 1000000 in
set_option maxRecDepth 100000 in
theorem t_used (l : Launch) (D : va_G) (z : Nat → Nat) (cB cI_ cO : ClassId) (L0 : List Nat) (g0 : hG) (tp by_ n : Nat) (T : Nat → Int32) (h_tp : ho L0 g0 tp 2 (.inr (9, [.ref by_, .int (nI n)])))  : eIs l D yX8_used cX8_used 1 (some .int) 0 0 0 0 [.ref tp] z cB cI_ cO L0 g0 (fun r => r = nI n) := by
  refine o_si (by decide) (Nat.le_of_ble_eq_true rfl) ?_
  intro p e s m below meth c A ls hf hr hlocks hin hK hP hD hS hA hZ hN hl
  obtain ⟨hx, hb, hml, hown, hts⟩ := id hf
  have hl : lv_has ls 1 [(0, .ref tp)] := hl
  refine lv_aload_n hx hb dX8_used_0 rfl (lv_at hl 0 rfl) ?_
  refine o_get (D := D) (ci := 9) (v := .int (nI n)) (C := RX8) (T := TX8) (N := 2) hx hb hts inX8 hown hK hP h_tp rfl 1 (by decide) (hts _ k_122) (fun _ h9 => h9) rfl dX8_used_1 ?_
  exact o_ri hf hr rfl hlocks hK hP hD hS (show 0 ≤ 0 by omega) (show 0 ≤ 0 by omega) ⟨rfl, rfl, rfl⟩ dX8_used_4
set_option maxHeartbeats 1000000 in
set_option maxRecDepth 100000 in
theorem t_at (l : Launch) (D : va_G) (z : Nat → Nat) (cB cI_ cO : ClassId) (L0 : List Nat) (g0 : hG) (tp by_ n : Nat) (T : Nat → Int32) (i : Nat) (h_tp : ho L0 g0 tp 2 (.inr (9, [.ref by_, .int (nI n)]))) (h_by : ho L0 g0 by_ 3 (.inl (cB, 1200, .inl T))) (hn : n ≤ 1200) (hi : i < 2 ^ 30) : eIs l D yX8_at cX8_at 2 (some .int) 0 0 0 0 [.ref tp, .int (nI i)] z cB cI_ cO L0 g0 (fun r => r = tx_ta T n i) := by
  refine o_si (by decide) (Nat.le_of_ble_eq_true rfl) ?_
  intro p e s m below meth c A ls hf hr hlocks hin hK hP hD hS hA hZ hN hl
  obtain ⟨hx, hb, hml, hown, hts⟩ := id hf
  have hl : lv_has ls 2 [(0, .ref tp), (1, .int (nI i))] := hl
  refine lv_iload_n hx hb dX8_at_0 rfl (lv_at hl 1 rfl) ?_
  refine lv_if_lt (tgt := 21) hx hb dX8_at_1 (by decide) (fun c_1 => ?_) (fun c_1 => ?_)
  · have c_1 := q_lt (a := i) (b := 0) (by omega) (by omega) c_1
    exact False.elim (by omega)
  · have c_1 := q_nlt (a := i) (b := 0) (by omega) (by omega) c_1
    refine lv_iload_n hx hb dX8_at_4 rfl (lv_at hl 1 rfl) ?_
    refine lv_aload_n hx hb dX8_at_5 rfl (lv_at hl 0 rfl) ?_
    refine o_get (D := D) (ci := 9) (v := .int (nI n)) (C := RX8) (T := TX8) (N := 2) hx hb hts inX8 hown hK hP h_tp rfl 1 (by decide) (hts _ k_122) (fun _ h9 => h9) rfl dX8_at_6 ?_
    refine lv_icmp_ge (tgt := 21) hx hb dX8_at_9 (by decide) (fun c_2 => ?_) (fun c_2 => ?_)
    · have c_2 := q_le (a := n) (b := i) (by omega) (by omega) c_2
      refine lv_bipush (v := 10) hx hb dX8_at_21 (by decide) ?_
      exact o_ri hf hr rfl hlocks hK hP hD hS (show 0 ≤ 0 by omega) (show 0 ≤ 0 by omega) ⟨(tx_ta_out (by omega)).symm, rfl, rfl⟩ dX8_at_23
    · have c_2 := q_nle (a := n) (b := i) (by omega) (by omega) c_2
      refine lv_aload_n hx hb dX8_at_12 rfl (lv_at hl 0 rfl) ?_
      refine o_get (D := D) (ci := 9) (v := .ref by_) (C := RX8) (T := TX8) (N := 2) hx hb hts inX8 hown hK hP h_tp rfl 0 (by decide) (hts _ k_121) (fun _ h9 => h9) rfl dX8_at_13 ?_
      refine lv_iload_n hx hb dX8_at_16 rfl (lv_at hl 1 rfl) ?_
      refine o_bld (X := i) hx hb hK hP h_by (by omega) (by omega) dX8_at_17 ?_
      refine lv_goto (tgt := 23) hx hb dX8_at_18 (by decide) ?_
      exact o_ri hf hr rfl hlocks hK hP hD hS (show 0 ≤ 0 by omega) (show 0 ≤ 0 by omega) ⟨(tx_ta_in (by omega)).symm, rfl, rfl⟩ dX8_at_23
set_option maxHeartbeats 1000000 in
set_option maxRecDepth 100000 in
theorem t_isBlank (l : Launch) (D : va_G) (z : Nat → Nat) (cB cI_ cO : ClassId) (L0 : List Nat) (g0 : hG) (tp by_ n : Nat) (T : Nat → Int32) (i : Nat) (h_tp : ho L0 g0 tp 2 (.inr (9, [.ref by_, .int (nI n)]))) (h_by : ho L0 g0 by_ 3 (.inl (cB, 1200, .inl T))) (hn : n ≤ 1200) (hi : i < 2 ^ 30) : eIs l D yX8_isBlank cX8_isBlank 2 (some .boolean) 1 21 0 0 [.ref tp, .int (nI i)] z cB cI_ cO L0 g0 (fun r => (tx_ta T n i = 32 ∧ r = 1 ∨ ¬ tx_ta T n i = 32 ∧ r = 0)) := by
  refine o_si (by decide) (Nat.le_of_ble_eq_true rfl) ?_
  intro p e s m below meth c A ls hf hr hlocks hin hK hP hD hS hA hZ hN hl
  obtain ⟨hx, hb, hml, hown, hts⟩ := id hf
  have hl : lv_has ls 2 [(0, .ref tp), (1, .int (nI i))] := hl
  refine lv_aload_n hx hb dX8_isBlank_0 rfl (lv_at hl 0 rfl) ?_
  refine lv_iload_n hx hb dX8_isBlank_1 rfl (lv_at hl 1 rfl) ?_
  refine o_cis (k := 0) (n := 0) hK hP hD hS hA (o_rV (As := [.int (nI i)]) (rest := []) hf (t_at _ _ _ _ _ _ _ _ tp by_ n T i h_tp h_by hn (by omega) _) k_200 k_197 k_198 k_199 k_85 (nA := 1) (by decide +kernel) ⟨Nat.le_of_ble_eq_true rfl, Nat.le_of_ble_eq_true rfl⟩ hK hP hD hS hA hZ hN h_tp rfl rfl rfl hl.1 rfl (Nat.le_of_ble_eq_true rfl) dX8_isBlank_2 ⟨(show 0 + 0 ≤ 0 by omega), (show 0 + 0 ≤ 0 by omega)⟩) (Nat.le_refl _) (Nat.le_refl _) (fun r H locs hw hP hD hS => ?_)
  obtain rfl := hw
  refine lv_bipush (v := 32) hx hb dX8_isBlank_5 (by decide) ?_
  refine lv_icmp_ne (tgt := 14) hx hb dX8_isBlank_7 (by decide) (fun c_1 => ?_) (fun c_1 => ?_)
  · refine lv_iconst (v := 0) hx hb dX8_isBlank_14 (by decide) ?_
    exact o_ri hf hr rfl hlocks hK hP hD hS (show 0 ≤ 0 by omega) (show 0 ≤ 0 by omega) ⟨Or.inr ⟨c_1, rfl⟩, rfl, rfl⟩ dX8_isBlank_15
  · refine lv_iconst (v := 1) hx hb dX8_isBlank_10 (by decide) ?_
    refine lv_goto (tgt := 15) hx hb dX8_isBlank_11 (by decide) ?_
    exact o_ri hf hr rfl hlocks hK hP hD hS (show 0 ≤ 0 by omega) (show 0 ≤ 0 by omega) ⟨Or.inl ⟨c_1, rfl⟩, rfl, rfl⟩ dX8_isBlank_15
set_option maxHeartbeats 1000000 in
set_option maxRecDepth 100000 in
theorem t_isGap (l : Launch) (D : va_G) (z : Nat → Nat) (cB cI_ cO : ClassId) (L0 : List Nat) (g0 : hG) (tp by_ n : Nat) (T : Nat → Int32) (i : Nat) (h_tp : ho L0 g0 tp 2 (.inr (9, [.ref by_, .int (nI n)]))) (h_by : ho L0 g0 by_ 3 (.inl (cB, 1200, .inl T))) (hn : n ≤ 1200) (hi : i < 2 ^ 30) : eIs l D yX8_isGap cX8_isGap 2 (some .boolean) 1 21 0 0 [.ref tp, .int (nI i)] z cB cI_ cO L0 g0 (fun r => (tx_gap (tx_ta T n i) ∧ r = 1 ∨ ¬ tx_gap (tx_ta T n i) ∧ r = 0)) := by
  refine o_si (by decide) (Nat.le_of_ble_eq_true rfl) ?_
  intro p e s m below meth c A ls hf hr hlocks hin hK hP hD hS hA hZ hN hl
  obtain ⟨hx, hb, hml, hown, hts⟩ := id hf
  have hl : lv_has ls 2 [(0, .ref tp), (1, .int (nI i))] := hl
  refine lv_aload_n hx hb dX8_isGap_0 rfl (lv_at hl 0 rfl) ?_
  refine lv_iload_n hx hb dX8_isGap_1 rfl (lv_at hl 1 rfl) ?_
  refine o_cis (k := 0) (n := 0) hK hP hD hS hA (o_rV (As := [.int (nI i)]) (rest := []) hf (t_at _ _ _ _ _ _ _ _ tp by_ n T i h_tp h_by hn (by omega) _) k_200 k_197 k_198 k_199 k_85 (nA := 1) (by decide +kernel) ⟨Nat.le_of_ble_eq_true rfl, Nat.le_of_ble_eq_true rfl⟩ hK hP hD hS hA hZ hN h_tp rfl rfl rfl hl.1 rfl (Nat.le_of_ble_eq_true rfl) dX8_isGap_2 ⟨(show 0 + 0 ≤ 0 by omega), (show 0 + 0 ≤ 0 by omega)⟩) (Nat.le_refl _) (Nat.le_refl _) (fun r H locs hw hP hD hS => ?_)
  obtain rfl := hw
  refine lv_bipush (v := 32) hx hb dX8_isGap_5 (by decide) ?_
  refine lv_icmp_eq (tgt := 20) hx hb dX8_isGap_7 (by decide) (fun c_1 => ?_) (fun c_1 => ?_)
  · refine lv_iconst (v := 1) hx hb dX8_isGap_20 (by decide) ?_
    refine lv_goto (tgt := 25) hx hb dX8_isGap_21 (by decide) ?_
    exact o_ri hf hr rfl hlocks hK hP hD hS (show 0 ≤ 0 by omega) (show 0 ≤ 0 by omega) ⟨Or.inl ⟨Or.inl c_1, rfl⟩, rfl, rfl⟩ dX8_isGap_25
  · refine lv_aload_n hx hb dX8_isGap_10 rfl (lv_at hl 0 rfl) ?_
    refine lv_iload_n hx hb dX8_isGap_11 rfl (lv_at hl 1 rfl) ?_
    refine o_cis (k := 0) (n := 0) hK hP hD hS hA (o_rV (As := [.int (nI i)]) (rest := []) hf (t_at _ _ _ _ _ _ _ _ tp by_ n T i h_tp h_by hn (by omega) _) k_200 k_197 k_198 k_199 k_85 (nA := 1) (by decide +kernel) ⟨Nat.le_of_ble_eq_true rfl, Nat.le_of_ble_eq_true rfl⟩ hK hP hD hS hA hZ hN h_tp rfl rfl rfl hl.1 rfl (Nat.le_of_ble_eq_true rfl) dX8_isGap_12 ⟨(show 0 + 0 ≤ 0 by omega), (show 0 + 0 ≤ 0 by omega)⟩) (Nat.le_refl _) (Nat.le_refl _) (fun r H locs hw hP hD hS => ?_)
    obtain rfl := hw
    refine lv_bipush (v := 10) hx hb dX8_isGap_15 (by decide) ?_
    refine lv_icmp_ne (tgt := 24) hx hb dX8_isGap_17 (by decide) (fun c_2 => ?_) (fun c_2 => ?_)
    · refine lv_iconst (v := 0) hx hb dX8_isGap_24 (by decide) ?_
      exact o_ri hf hr rfl hlocks hK hP hD hS (show 0 ≤ 0 by omega) (show 0 ≤ 0 by omega) ⟨Or.inr ⟨fun h => h.elim c_1 c_2, rfl⟩, rfl, rfl⟩ dX8_isGap_25
    · refine lv_iconst (v := 1) hx hb dX8_isGap_20 (by decide) ?_
      refine lv_goto (tgt := 25) hx hb dX8_isGap_21 (by decide) ?_
      exact o_ri hf hr rfl hlocks hK hP hD hS (show 0 ≤ 0 by omega) (show 0 ≤ 0 by omega) ⟨Or.inl ⟨Or.inr c_2, rfl⟩, rfl, rfl⟩ dX8_isGap_25
set_option maxHeartbeats 1000000 in
set_option maxRecDepth 100000 in
theorem t_hasRoomFor (l : Launch) (D : va_G) (z : Nat → Nat) (cB cI_ cO : ClassId) (L0 : List Nat) (g0 : hG) (tp by_ n : Nat) (T : Nat → Int32) (k : Nat) (h_tp : ho L0 g0 tp 2 (.inr (9, [.ref by_, .int (nI n)]))) (hn : n ≤ 1200) (hk : k ≤ 8) : eIs l D yX8_hasRoomFor cX8_hasRoomFor 2 (some .boolean) 0 0 0 0 [.ref tp, .int (nI k)] z cB cI_ cO L0 g0 (fun r => (n + k ≤ 1200 ∧ r = 1 ∨ ¬ n + k ≤ 1200 ∧ r = 0)) := by
  refine o_si (by decide) (Nat.le_of_ble_eq_true rfl) ?_
  intro p e s m below meth c A ls hf hr hlocks hin hK hP hD hS hA hZ hN hl
  obtain ⟨hx, hb, hml, hown, hts⟩ := id hf
  have hl : lv_has ls 2 [(0, .ref tp), (1, .int (nI k))] := hl
  refine lv_aload_n hx hb dX8_hasRoomFor_0 rfl (lv_at hl 0 rfl) ?_
  refine o_get (D := D) (ci := 9) (v := .int (nI n)) (C := RX8) (T := TX8) (N := 2) hx hb hts inX8 hown hK hP h_tp rfl 1 (by decide) (hts _ k_122) (fun _ h9 => h9) rfl dX8_hasRoomFor_1 ?_
  refine lv_sipush (v := 1200) hx hb dX8_hasRoomFor_4 (by decide) ?_
  refine lv_iload_n hx hb dX8_hasRoomFor_7 rfl (lv_at hl 1 rfl) ?_
  refine lv_isub hx hb dX8_hasRoomFor_8 ?_
  refine q_seti (y := nI (1200 - k)) (nI_subE (a := 1200) (b := k) (by omega) (by omega)) ?_
  refine lv_icmp_gt (tgt := 16) hx hb dX8_hasRoomFor_9 (by decide) (fun c_1 => ?_) (fun c_1 => ?_)
  · have c_1 := q_lt (a := 1200 - k) (b := n) (by omega) (by omega) c_1
    refine lv_iconst (v := 0) hx hb dX8_hasRoomFor_16 (by decide) ?_
    exact o_ri hf hr rfl hlocks hK hP hD hS (show 0 ≤ 0 by omega) (show 0 ≤ 0 by omega) ⟨Or.inr ⟨by omega, rfl⟩, rfl, rfl⟩ dX8_hasRoomFor_17
  · have c_1 := q_nlt (a := 1200 - k) (b := n) (by omega) (by omega) c_1
    refine lv_iconst (v := 1) hx hb dX8_hasRoomFor_12 (by decide) ?_
    refine lv_goto (tgt := 17) hx hb dX8_hasRoomFor_13 (by decide) ?_
    exact o_ri hf hr rfl hlocks hK hP hD hS (show 0 ≤ 0 by omega) (show 0 ≤ 0 by omega) ⟨Or.inl ⟨by omega, rfl⟩, rfl, rfl⟩ dX8_hasRoomFor_17
set_option maxHeartbeats 1000000 in
set_option maxRecDepth 100000 in
theorem t_keep (l : Launch) (D : va_G) (z : Nat → Nat) (cB cI_ cO : ClassId) (L0 : List Nat) (g0 : hG) (tp by_ n : Nat) (T : Nat → Int32) (k : Nat) (h_tp : ho L0 g0 tp 2 (.inr (9, [.ref by_, .int (nI n)]))) (hn : n ≤ 1200) (hk : k ≤ 1200) : eV l D yX8_keep cX8_keep 2 none 0 0 0 0 [.ref tp, .int (nI k)] z cB cI_ cO L0 g0 (fun L g => ∃ n1 : Nat, n1 = (if k < n then k else n) ∧ fr [2] L0 g0 L g ∧ ho L g tp 2 (.inr (9, [.ref by_, .int (nI n1)]))) := by
  refine o_sv (by decide) (Nat.le_of_ble_eq_true rfl) ?_
  intro p e s m below meth c A ls hf hr hlocks hin hK hP hD hS hA hZ hN hl
  obtain ⟨hx, hb, hml, hown, hts⟩ := id hf
  have hl : lv_has ls 2 [(0, .ref tp), (1, .int (nI k))] := hl
  have hfr : fr [2] L0 g0 L0 g0 := fr.rf
  refine lv_iload_n hx hb dX8_keep_0 rfl (lv_at hl 1 rfl) ?_
  refine lv_if_lt (tgt := 17) hx hb dX8_keep_1 (by decide) (fun c_1 => ?_) (fun c_1 => ?_)
  · have c_1 := q_lt (a := k) (b := 0) (by omega) (by omega) c_1
    exact False.elim (by omega)
  · have c_1 := q_nlt (a := k) (b := 0) (by omega) (by omega) c_1
    refine lv_iload_n hx hb dX8_keep_4 rfl (lv_at hl 1 rfl) ?_
    refine lv_aload_n hx hb dX8_keep_5 rfl (lv_at hl 0 rfl) ?_
    refine o_get (D := D) (ci := 9) (v := .int (nI n)) (C := RX8) (T := TX8) (N := 2) hx hb hts inX8 hown hK hP h_tp rfl 1 (by decide) (hts _ k_122) (fun _ h9 => h9) rfl dX8_keep_6 ?_
    refine lv_icmp_ge (tgt := 17) hx hb dX8_keep_9 (by decide) (fun c_2 => ?_) (fun c_2 => ?_)
    · have c_2 := q_le (a := n) (b := k) (by omega) (by omega) c_2
      exact o_rv hf hr hlocks hK hP hD hS (show 0 ≤ 0 by omega) (show 0 ≤ 0 by omega) ⟨n, (if_neg (by omega)).symm, hfr, h_tp⟩ dX8_keep_17
    · have c_2 := q_nle (a := n) (b := k) (by omega) (by omega) c_2
      refine lv_aload_n hx hb dX8_keep_12 rfl (lv_at hl 0 rfl) ?_
      refine lv_iload_n hx hb dX8_keep_13 rfl (lv_at hl 1 rfl) ?_
      refine o_put (D := D) (ci := 9) (v := .int (nI k)) (ty := .int) (C := RX8) (T := TX8) (N := 2) (fs1 := [.ref by_, .int (nI k)]) hx hb hts inX8 tyX8 tyX8_ok nmX8 hown hK hP hD hS h_tp rfl 1 (by decide) (hts _ k_122) (fun _ h9 => h9) rfl (by decide +kernel) rfl rfl (Nat.le_of_ble_eq_true rfl) rfl dX8_keep_14 (fun g H locs h_tp hu hP hD hS => ?_)
      have hfr := hfr.up hu (by decide)
      exact o_rv hf hr hlocks hK hP hD hS (show 0 ≤ 0 by omega) (show 0 ≤ 0 by omega) ⟨k, (if_pos (by omega)).symm, hfr, h_tp⟩ dX8_keep_17
set_option maxHeartbeats 1000000 in
set_option maxRecDepth 100000 in
theorem t_put (l : Launch) (D : va_G) (z : Nat → Nat) (cB cI_ cO : ClassId) (L0 : List Nat) (g0 : hG) (tp by_ n : Nat) (T : Nat → Int32) (b : Int32) (h_tp : ho L0 g0 tp 2 (.inr (9, [.ref by_, .int (nI n)]))) (h_by : ho L0 g0 by_ 3 (.inl (cB, 1200, .inl T))) (hn : n ≤ 1200) : eV l D yX8_put cX8_put 3 none 0 0 0 0 [.ref tp, .int b] z cB cI_ cO L0 g0 (fun L g => ∃ (n1 : Nat) (T1 : Nat → Int32), (n1, T1) = tx_put T n b ∧ fr [2, 3] L0 g0 L g ∧ ho L g tp 2 (.inr (9, [.ref by_, .int (nI n1)])) ∧ ho L g by_ 3 (.inl (cB, 1200, .inl T1))) := by
  refine o_sv (by decide) (Nat.le_of_ble_eq_true rfl) ?_
  intro p e s m below meth c A ls hf hr hlocks hin hK hP hD hS hA hZ hN hl
  obtain ⟨hx, hb, hml, hown, hts⟩ := id hf
  have hl : lv_has ls 3 [(0, .ref tp), (1, .int b)] := hl
  have hfr : fr [2, 3] L0 g0 L0 g0 := fr.rf
  refine lv_iload_n hx hb dX8_put_0 rfl (lv_at hl 1 rfl) ?_
  refine lv_bipush (v := 10) hx hb dX8_put_1 (by decide) ?_
  refine lv_icmp_eq (tgt := 18) hx hb dX8_put_3 (by decide) (fun c_1 => ?_) (fun c_1 => ?_)
  · refine lv_iconst (v := 1) hx hb dX8_put_18 (by decide) ?_
    refine lv_goto (tgt := 23) hx hb dX8_put_19 (by decide) ?_
    refine lv_istore_n (lv' := [(2, .int 1), (0, .ref tp), (1, .int b)]) hx hb dX8_put_23 rfl hl (by decide) rfl (fun ls hl => ?_)
    refine lv_iload_n hx hb dX8_put_24 rfl (lv_at hl 0 rfl) ?_
    refine lv_if_eq (tgt := 59) hx hb dX8_put_25 (by decide) (fun hno => absurd hno (by decide)) (fun _ => ?_)
    refine lv_aload_n hx hb dX8_put_28 rfl (lv_at hl 1 rfl) ?_
    refine o_get (D := D) (ci := 9) (v := .int (nI n)) (C := RX8) (T := TX8) (N := 2) hx hb hts inX8 hown hK hP h_tp rfl 1 (by decide) (hts _ k_122) (fun _ h9 => h9) rfl dX8_put_29 ?_
    refine lv_sipush (v := 1200) hx hb dX8_put_32 (by decide) ?_
    refine lv_icmp_ge (tgt := 59) hx hb dX8_put_35 (by decide) (fun c_2 => ?_) (fun c_2 => ?_)
    · have c_2 := q_le (a := 1200) (b := n) (by omega) (by omega) c_2
      exact o_rv hf hr hlocks hK hP hD hS (show 0 ≤ 0 by omega) (show 0 ≤ 0 by omega) ⟨_, _, (pif_n (fun h => absurd h.2 (by omega))).symm, hfr, h_tp, h_by⟩ dX8_put_59
    · have c_2 := q_nle (a := 1200) (b := n) (by omega) (by omega) c_2
      refine lv_aload_n hx hb dX8_put_38 rfl (lv_at hl 1 rfl) ?_
      refine o_get (D := D) (ci := 9) (v := .ref by_) (C := RX8) (T := TX8) (N := 2) hx hb hts inX8 hown hK hP h_tp rfl 0 (by decide) (hts _ k_121) (fun _ h9 => h9) rfl dX8_put_39 ?_
      refine lv_aload_n hx hb dX8_put_42 rfl (lv_at hl 1 rfl) ?_
      refine o_get (D := D) (ci := 9) (v := .int (nI n)) (C := RX8) (T := TX8) (N := 2) hx hb hts inX8 hown hK hP h_tp rfl 1 (by decide) (hts _ k_122) (fun _ h9 => h9) rfl dX8_put_43 ?_
      refine lv_iload_n hx hb dX8_put_46 rfl (lv_at hl 2 rfl) ?_
      refine lv_i2b (v := b.toInt8.toInt32) hx hb dX8_put_47 rfl ?_
      refine o_bst (X := n) (x := b.toInt8.toInt32) hx hb hK hP hD hS h_by (by omega) (by omega) dX8_put_48 (fun g H locs h_by hu hP hD hS => ?_)
      have h_tp := h_tp.up hu (by decide)
      have hfr := hfr.up hu (by decide)
      refine lv_aload_n hx hb dX8_put_49 rfl (lv_at hl 1 rfl) ?_
      refine lv_dup hx hb dX8_put_50 rfl ?_
      refine o_get (D := D) (ci := 9) (v := .int (nI n)) (C := RX8) (T := TX8) (N := 2) hx hb hts inX8 hown hK hP h_tp rfl 1 (by decide) (hts _ k_122) (fun _ h9 => h9) rfl dX8_put_51 ?_
      refine lv_iconst (v := 1) hx hb dX8_put_54 (by decide) ?_
      refine lv_iadd hx hb dX8_put_55 ?_
      refine q_seti (y := nI (n + 1)) (nI_addE (a := n) (b := 1) (by omega)) ?_
      refine o_put (D := D) (ci := 9) (v := .int (nI (n + 1))) (ty := .int) (C := RX8) (T := TX8) (N := 2) (fs1 := [.ref by_, .int (nI (n + 1))]) hx hb hts inX8 tyX8 tyX8_ok nmX8 hown hK hP hD hS h_tp rfl 1 (by decide) (hts _ k_122) (fun _ h9 => h9) rfl (by decide +kernel) rfl rfl (Nat.le_of_ble_eq_true rfl) rfl dX8_put_56 (fun g H locs h_tp hu hP hD hS => ?_)
      have h_by := h_by.up hu (by decide)
      have hfr := hfr.up hu (by decide)
      exact o_rv hf hr hlocks hK hP hD hS (show 0 ≤ 0 by omega) (show 0 ≤ 0 by omega) ⟨_, _, (pif_p ⟨Or.inl c_1, by omega⟩).symm, hfr, h_tp, h_by⟩ dX8_put_59
  · refine lv_iload_n hx hb dX8_put_6 rfl (lv_at hl 1 rfl) ?_
    refine lv_bipush (v := 32) hx hb dX8_put_7 (by decide) ?_
    refine lv_icmp_lt (tgt := 22) hx hb dX8_put_9 (by decide) (fun c_3 => ?_) (fun c_3 => ?_)
    · refine lv_iconst (v := 0) hx hb dX8_put_22 (by decide) ?_
      refine lv_istore_n (lv' := [(2, .int 0), (0, .ref tp), (1, .int b)]) hx hb dX8_put_23 rfl hl (by decide) rfl (fun ls hl => ?_)
      refine lv_iload_n hx hb dX8_put_24 rfl (lv_at hl 0 rfl) ?_
      refine lv_if_eq (tgt := 59) hx hb dX8_put_25 (by decide) (fun _ => ?_) (fun hno => absurd hno (by decide))
      exact o_rv hf hr hlocks hK hP hD hS (show 0 ≤ 0 by omega) (show 0 ≤ 0 by omega) ⟨_, _, (pif_n (fun h => h.1.elim c_1 (fun h2 => h2.1 c_3))).symm, hfr, h_tp, h_by⟩ dX8_put_59
    · refine lv_iload_n hx hb dX8_put_12 rfl (lv_at hl 1 rfl) ?_
      refine lv_bipush (v := 126) hx hb dX8_put_13 (by decide) ?_
      refine lv_icmp_gt (tgt := 22) hx hb dX8_put_15 (by decide) (fun c_4 => ?_) (fun c_4 => ?_)
      · refine lv_iconst (v := 0) hx hb dX8_put_22 (by decide) ?_
        refine lv_istore_n (lv' := [(2, .int 0), (0, .ref tp), (1, .int b)]) hx hb dX8_put_23 rfl hl (by decide) rfl (fun ls hl => ?_)
        refine lv_iload_n hx hb dX8_put_24 rfl (lv_at hl 0 rfl) ?_
        refine lv_if_eq (tgt := 59) hx hb dX8_put_25 (by decide) (fun _ => ?_) (fun hno => absurd hno (by decide))
        exact o_rv hf hr hlocks hK hP hD hS (show 0 ≤ 0 by omega) (show 0 ≤ 0 by omega) ⟨_, _, (pif_n (fun h => h.1.elim c_1 (fun h2 => h2.2 c_4))).symm, hfr, h_tp, h_by⟩ dX8_put_59
      · refine lv_iconst (v := 1) hx hb dX8_put_18 (by decide) ?_
        refine lv_goto (tgt := 23) hx hb dX8_put_19 (by decide) ?_
        refine lv_istore_n (lv' := [(2, .int 1), (0, .ref tp), (1, .int b)]) hx hb dX8_put_23 rfl hl (by decide) rfl (fun ls hl => ?_)
        refine lv_iload_n hx hb dX8_put_24 rfl (lv_at hl 0 rfl) ?_
        refine lv_if_eq (tgt := 59) hx hb dX8_put_25 (by decide) (fun hno => absurd hno (by decide)) (fun _ => ?_)
        refine lv_aload_n hx hb dX8_put_28 rfl (lv_at hl 1 rfl) ?_
        refine o_get (D := D) (ci := 9) (v := .int (nI n)) (C := RX8) (T := TX8) (N := 2) hx hb hts inX8 hown hK hP h_tp rfl 1 (by decide) (hts _ k_122) (fun _ h9 => h9) rfl dX8_put_29 ?_
        refine lv_sipush (v := 1200) hx hb dX8_put_32 (by decide) ?_
        refine lv_icmp_ge (tgt := 59) hx hb dX8_put_35 (by decide) (fun c_5 => ?_) (fun c_5 => ?_)
        · have c_5 := q_le (a := 1200) (b := n) (by omega) (by omega) c_5
          exact o_rv hf hr hlocks hK hP hD hS (show 0 ≤ 0 by omega) (show 0 ≤ 0 by omega) ⟨_, _, (pif_n (fun h => absurd h.2 (by omega))).symm, hfr, h_tp, h_by⟩ dX8_put_59
        · have c_5 := q_nle (a := 1200) (b := n) (by omega) (by omega) c_5
          refine lv_aload_n hx hb dX8_put_38 rfl (lv_at hl 1 rfl) ?_
          refine o_get (D := D) (ci := 9) (v := .ref by_) (C := RX8) (T := TX8) (N := 2) hx hb hts inX8 hown hK hP h_tp rfl 0 (by decide) (hts _ k_121) (fun _ h9 => h9) rfl dX8_put_39 ?_
          refine lv_aload_n hx hb dX8_put_42 rfl (lv_at hl 1 rfl) ?_
          refine o_get (D := D) (ci := 9) (v := .int (nI n)) (C := RX8) (T := TX8) (N := 2) hx hb hts inX8 hown hK hP h_tp rfl 1 (by decide) (hts _ k_122) (fun _ h9 => h9) rfl dX8_put_43 ?_
          refine lv_iload_n hx hb dX8_put_46 rfl (lv_at hl 2 rfl) ?_
          refine lv_i2b (v := b.toInt8.toInt32) hx hb dX8_put_47 rfl ?_
          refine o_bst (X := n) (x := b.toInt8.toInt32) hx hb hK hP hD hS h_by (by omega) (by omega) dX8_put_48 (fun g H locs h_by hu hP hD hS => ?_)
          have h_tp := h_tp.up hu (by decide)
          have hfr := hfr.up hu (by decide)
          refine lv_aload_n hx hb dX8_put_49 rfl (lv_at hl 1 rfl) ?_
          refine lv_dup hx hb dX8_put_50 rfl ?_
          refine o_get (D := D) (ci := 9) (v := .int (nI n)) (C := RX8) (T := TX8) (N := 2) hx hb hts inX8 hown hK hP h_tp rfl 1 (by decide) (hts _ k_122) (fun _ h9 => h9) rfl dX8_put_51 ?_
          refine lv_iconst (v := 1) hx hb dX8_put_54 (by decide) ?_
          refine lv_iadd hx hb dX8_put_55 ?_
          refine q_seti (y := nI (n + 1)) (nI_addE (a := n) (b := 1) (by omega)) ?_
          refine o_put (D := D) (ci := 9) (v := .int (nI (n + 1))) (ty := .int) (C := RX8) (T := TX8) (N := 2) (fs1 := [.ref by_, .int (nI (n + 1))]) hx hb hts inX8 tyX8 tyX8_ok nmX8 hown hK hP hD hS h_tp rfl 1 (by decide) (hts _ k_122) (fun _ h9 => h9) rfl (by decide +kernel) rfl rfl (Nat.le_of_ble_eq_true rfl) rfl dX8_put_56 (fun g H locs h_tp hu hP hD hS => ?_)
          have h_by := h_by.up hu (by decide)
          have hfr := hfr.up hu (by decide)
          exact o_rv hf hr hlocks hK hP hD hS (show 0 ≤ 0 by omega) (show 0 ≤ 0 by omega) ⟨_, _, (pif_p ⟨Or.inr ⟨c_3, c_4⟩, by omega⟩).symm, hfr, h_tp, h_by⟩ dX8_put_59
set_option maxHeartbeats 1000000 in
set_option maxRecDepth 100000 in
theorem tw_loop {p : Program} {l : Launch} {e : Env} {R : Room} {s : State} {m : MethodId} {args : Array Value} {below : List Frame} {meth : Method} {c : Code} {Q : State → Prop} {D : va_G} {A : Nat → Prop} {z : Nat → Nat} {cB cI_ cO : ClassId} {L0 : List Nat} {g0 : hG} {cells slots : Nat} {tp by_ n : Nat} {T : Nat → Int32} (h_tp : ho L0 g0 tp 2 (.inr (9, [.ref by_, .int (nI n)]))) (h_by : ho L0 g0 by_ 3 (.inl (cB, 1200, .inl T))) (hn : n ≤ 1200) (hRf : 2 ≤ R.frames) (hRl : 60 ≤ R.locals) (hRc : cells ≤ R.cells) (hRs : slots ≤ R.slots) (hA : ∀ q : Nat, s.heap.size ≤ q → A q) (hf : CallFix p m c cX8_hasWord 2 s args gT yX8_hasWord.cls) (hK : va_K D vcl (dT cB cI_ cO) s) (hZ : zA z A s s.heap) (hN : zB z s) :
    ∀ (k : Nat) (i : Nat) (H : Heap) (locs : List Loc) (ls : Array Slot), i + k = n → va_P D vcl (dW L0 g0) H → va_D A (dW L0 g0) → va_S A s.heap H locs → lv_has ls 2 [(1, .int (nI i)), (0, .ref tp)] →
    (∀  (H : Heap) (locs : List Loc) (ls : Array Slot), tx_wd T n k i → va_P D vcl (dW L0 g0) H → va_D A (dW L0 g0) → va_S A s.heap H locs → lv_has ls 2 [(0, .ref tp)] → W p l e R s m args below meth c H locs cells slots Q (F0 m 18 ls [])) →
    (∀  (H : Heap) (locs : List Loc) (ls : Array Slot), ¬ tx_wd T n k i → va_P D vcl (dW L0 g0) H → va_D A (dW L0 g0) → va_S A s.heap H locs → lv_has ls 2 [(0, .ref tp)] → W p l e R s m args below meth c H locs cells slots Q (F0 m 26 ls [])) →
    W p l e R s m args below meth c H locs cells slots Q (F0 m 2 ls []) := by
  obtain ⟨hx, hb, hml, hown, hts⟩ := id hf
  intro k
  induction k with
  | zero =>
    intro i H locs ls hik hP hD hS hl kk1 kk0
    refine lv_iload_n hx hb dX8_hasWord_2 rfl (lv_at hl 0 rfl) ?_
    refine lv_aload_n hx hb dX8_hasWord_3 rfl (lv_at hl 1 rfl) ?_
    refine o_get (D := D) (ci := 9) (v := .int (nI n)) (C := RX8) (T := TX8) (N := 2) hx hb hts inX8 hown hK hP h_tp rfl 1 (by decide) (hts _ k_122) (fun _ h9 => h9) rfl dX8_hasWord_4 ?_
    refine lv_icmp_ge (tgt := 26) hx hb dX8_hasWord_7 (by decide) (fun c_1 => ?_) (fun c_1 => ?_)
    · have c_1 := q_le (a := n) (b := i) (by omega) (by omega) c_1
      exact kk0 H locs ls (fun z => z) hP hD hS (lv_sub hl (l' := [(0, .ref tp)]) [1] rfl)
    · have c_1 := q_nle (a := n) (b := i) (by omega) (by omega) c_1
      exact False.elim (by omega)
  | succ k ih =>
    intro i H locs ls hik hP hD hS hl kk1 kk0
    refine lv_iload_n hx hb dX8_hasWord_2 rfl (lv_at hl 0 rfl) ?_
    refine lv_aload_n hx hb dX8_hasWord_3 rfl (lv_at hl 1 rfl) ?_
    refine o_get (D := D) (ci := 9) (v := .int (nI n)) (C := RX8) (T := TX8) (N := 2) hx hb hts inX8 hown hK hP h_tp rfl 1 (by decide) (hts _ k_122) (fun _ h9 => h9) rfl dX8_hasWord_4 ?_
    refine lv_icmp_ge (tgt := 26) hx hb dX8_hasWord_7 (by decide) (fun c_1 => ?_) (fun c_1 => ?_)
    · have c_1 := q_le (a := n) (b := i) (by omega) (by omega) c_1
      exact False.elim (by omega)
    · have c_1 := q_nle (a := n) (b := i) (by omega) (by omega) c_1
      refine lv_aload_n hx hb dX8_hasWord_10 rfl (lv_at hl 1 rfl) ?_
      refine lv_iload_n hx hb dX8_hasWord_11 rfl (lv_at hl 0 rfl) ?_
      refine o_cis (k := cells) (n := slots) hK hP hD hS hA (o_rV (As := [.int (nI i)]) (rest := []) hf (t_isGap _ _ _ _ _ _ _ _ tp by_ n T i h_tp h_by hn (by omega) _) k_196 k_940 k_194 k_195 k_85 (nA := 1) (by decide +kernel) ⟨Nat.le_trans (by decide) hRf, Nat.le_trans (by decide) hRl⟩ hK hP hD hS hA hZ hN h_tp rfl rfl rfl hl.1 rfl (Nat.le_of_ble_eq_true rfl) dX8_hasWord_12 ⟨(show cells + 0 ≤ R.cells by omega), (show slots + 0 ≤ R.slots by omega)⟩) (Nat.le_refl _) (Nat.le_refl _) (fun r H locs hw hP hD hS => ?_)
      rcases hw with ⟨c_2, rfl⟩ | ⟨c_2, rfl⟩
      · have hP := hP
        refine lv_if_ne (tgt := 20) hx hb dX8_hasWord_15 (by decide) (fun _ => ?_) (fun hno => absurd hno (by decide))
        refine lv_iinc (v := nI (i + 1)) (lv' := [(1, .int (nI (i + 1))), (0, .ref tp)]) hx hb dX8_hasWord_20 hl (k := 0) rfl (nI_addE (a := i) (b := 1) (by omega)) (by decide) rfl (fun ls hl => ?_)
        refine lv_goto (tgt := 2) hx hb dX8_hasWord_23 (by decide) ?_
        exact ih (i + 1) H locs ls (by omega) hP hD hS (lv_sub hl (l' := [(1, .int (nI (i + 1))), (0, .ref tp)]) [0, 1] rfl) (fun H locs ls hw => kk1 H locs ls (Or.inr hw)) (fun H locs ls hw => kk0 H locs ls (fun z => z.elim (fun z => z c_2) hw))
      · have hP := hP
        refine lv_if_ne (tgt := 20) hx hb dX8_hasWord_15 (by decide) (fun hno => absurd hno (by decide)) (fun _ => ?_)
        exact kk1 H locs ls (Or.inl c_2) hP hD hS (lv_sub hl (l' := [(0, .ref tp)]) [1] rfl)
set_option maxHeartbeats 1000000 in
set_option maxRecDepth 100000 in
theorem t_hasWord (l : Launch) (D : va_G) (z : Nat → Nat) (cB cI_ cO : ClassId) (L0 : List Nat) (g0 : hG) (tp by_ n : Nat) (T : Nat → Int32) (h_tp : ho L0 g0 tp 2 (.inr (9, [.ref by_, .int (nI n)]))) (h_by : ho L0 g0 by_ 3 (.inl (cB, 1200, .inl T))) (hn : n ≤ 1200) : eIs l D yX8_hasWord cX8_hasWord 2 (some .boolean) 2 60 0 0 [.ref tp] z cB cI_ cO L0 g0 (fun r => (tx_wd T n n 0 ∧ r = 1 ∨ ¬ tx_wd T n n 0 ∧ r = 0)) := by
  refine o_si (by decide) (Nat.le_of_ble_eq_true rfl) ?_
  intro p e s m below meth c A ls hf hr hlocks hin hK hP hD hS hA hZ hN hl
  obtain ⟨hx, hb, hml, hown, hts⟩ := id hf
  have hl : lv_has ls 2 [(0, .ref tp)] := hl
  refine lv_iconst (v := 0) hx hb dX8_hasWord_0 (by decide) ?_
  refine lv_istore_n (lv' := [(1, .int 0), (0, .ref tp)]) hx hb dX8_hasWord_1 rfl hl (by decide) rfl (fun ls hl => ?_)
  refine tw_loop  h_tp h_by hn (Nat.le_of_ble_eq_true rfl) (Nat.le_of_ble_eq_true rfl) (show 0 ≤ 0 by omega) (show 0 ≤ 0 by omega) hA hf hK hZ hN n 0 _ _ ls (by omega) hP hD hS (lv_sub hl (l' := [(1, .int 0), (0, .ref tp)]) [0, 1] rfl) ?_ ?_
  · intro H locs ls hw hP hD hS hl
    refine lv_iconst (v := 1) hx hb dX8_hasWord_18 (by decide) ?_
    exact o_ri hf hr rfl hlocks hK hP hD hS (show 0 ≤ 0 by omega) (show 0 ≤ 0 by omega) ⟨Or.inl ⟨hw, rfl⟩, rfl, rfl⟩ dX8_hasWord_19
  · intro H locs ls hw hP hD hS hl
    refine lv_iconst (v := 0) hx hb dX8_hasWord_26 (by decide) ?_
    exact o_ri hf hr rfl hlocks hK hP hD hS (show 0 ≤ 0 by omega) (show 0 ≤ 0 by omega) ⟨Or.inr ⟨hw, rfl⟩, rfl, rfl⟩ dX8_hasWord_27
