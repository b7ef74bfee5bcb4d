theorem k_1172 : (Cond.fieldLink RX10 228 "ScriptDeskModel" "pages" "I") ∈ gT := gT_i 1172 (by decide +kernel) rfl
theorem k_1173 : (Cond.fieldLink RX10 231 "ScriptDeskModel" "least" "I") ∈ gT := gT_i 1173 (by decide +kernel) rfl
theorem k_1179 : (Cond.fieldLink RX10 86 "ScriptDeskModel" "pageP" "[I") ∈ gT := gT_i 1179 (by decide +kernel) rfl
theorem k_1180 : (Cond.fieldLink RX10 89 "ScriptDeskModel" "pageR" "[I") ∈ gT := gT_i 1180 (by decide +kernel) rfl
theorem k_1181 : (Cond.fieldLink RX10 92 "ScriptDeskModel" "pageRows" "[I") ∈ gT := gT_i 1181 (by decide +kernel) rfl
theorem dX10_breaks_114 : decode cX10_breaks 114 = .ok (.aload_n 0, 1) := by decide +kernel
theorem dX10_breaks_115 : decode cX10_breaks 115 = .ok (.getfield 231, 3) := by decide +kernel
theorem dX10_breaks_118 : decode cX10_breaks 118 = .ok (.iconst (-1), 1) := by decide +kernel
theorem dX10_breaks_119 : decode cX10_breaks 119 = .ok (.if_icmp .eq 102, 3) := by decide +kernel
theorem dX10_breaks_122 : decode cX10_breaks 122 = .ok (.iload_n 1, 1) := by decide +kernel
theorem dX10_breaks_123 : decode cX10_breaks 123 = .ok (.aload_n 0, 1) := by decide +kernel
theorem dX10_breaks_124 : decode cX10_breaks 124 = .ok (.getfield 158, 3) := by decide +kernel
theorem dX10_breaks_127 : decode cX10_breaks 127 = .ok (.if_icmp .ge 94, 3) := by decide +kernel
theorem dX10_breaks_130 : decode cX10_breaks 130 = .ok (.aload_n 0, 1) := by decide +kernel
theorem dX10_breaks_131 : decode cX10_breaks 131 = .ok (.getfield 71, 3) := by decide +kernel
theorem dX10_breaks_134 : decode cX10_breaks 134 = .ok (.iload_n 1, 1) := by decide +kernel
theorem dX10_breaks_135 : decode cX10_breaks 135 = .ok (.iaload, 1) := by decide +kernel
theorem dX10_breaks_136 : decode cX10_breaks 136 = .ok (.iload_n 2, 1) := by decide +kernel
theorem dX10_breaks_137 : decode cX10_breaks 137 = .ok (.iadd, 1) := by decide +kernel
theorem dX10_breaks_138 : decode cX10_breaks 138 = .ok (.istore_n 3, 1) := by decide +kernel
theorem dX10_breaks_139 : decode cX10_breaks 139 = .ok (.aload_n 0, 1) := by decide +kernel
theorem dX10_breaks_140 : decode cX10_breaks 140 = .ok (.getfield 86, 3) := by decide +kernel
theorem dX10_breaks_143 : decode cX10_breaks 143 = .ok (.aload_n 0, 1) := by decide +kernel
theorem dX10_breaks_144 : decode cX10_breaks 144 = .ok (.getfield 228, 3) := by decide +kernel
theorem dX10_breaks_147 : decode cX10_breaks 147 = .ok (.iload_n 1, 1) := by decide +kernel
theorem dX10_breaks_148 : decode cX10_breaks 148 = .ok (.iastore, 1) := by decide +kernel
theorem dX10_breaks_149 : decode cX10_breaks 149 = .ok (.aload_n 0, 1) := by decide +kernel
theorem dX10_breaks_150 : decode cX10_breaks 150 = .ok (.getfield 89, 3) := by decide +kernel
theorem dX10_breaks_153 : decode cX10_breaks 153 = .ok (.aload_n 0, 1) := by decide +kernel
theorem dX10_breaks_154 : decode cX10_breaks 154 = .ok (.getfield 228, 3) := by decide +kernel
theorem dX10_breaks_157 : decode cX10_breaks 157 = .ok (.iload_n 2, 1) := by decide +kernel
theorem dX10_breaks_158 : decode cX10_breaks 158 = .ok (.iastore, 1) := by decide +kernel
theorem dX10_breaks_159 : decode cX10_breaks 159 = .ok (.aload_n 0, 1) := by decide +kernel
theorem dX10_breaks_160 : decode cX10_breaks 160 = .ok (.getfield 92, 3) := by decide +kernel
theorem dX10_breaks_163 : decode cX10_breaks 163 = .ok (.aload_n 0, 1) := by decide +kernel
theorem dX10_breaks_164 : decode cX10_breaks 164 = .ok (.getfield 228, 3) := by decide +kernel
theorem dX10_breaks_167 : decode cX10_breaks 167 = .ok (.aload_n 0, 1) := by decide +kernel
theorem dX10_breaks_168 : decode cX10_breaks 168 = .ok (.getfield 83, 3) := by decide +kernel
theorem dX10_breaks_171 : decode cX10_breaks 171 = .ok (.iload_n 3, 1) := by decide +kernel
theorem dX10_breaks_172 : decode cX10_breaks 172 = .ok (.iaload, 1) := by decide +kernel
theorem dX10_breaks_173 : decode cX10_breaks 173 = .ok (.iastore, 1) := by decide +kernel
theorem dX10_breaks_174 : decode cX10_breaks 174 = .ok (.aload_n 0, 1) := by decide +kernel
theorem dX10_breaks_175 : decode cX10_breaks 175 = .ok (.dup, 1) := by decide +kernel
theorem dX10_breaks_176 : decode cX10_breaks 176 = .ok (.getfield 228, 3) := by decide +kernel
theorem dX10_breaks_179 : decode cX10_breaks 179 = .ok (.iconst 1, 1) := by decide +kernel
theorem dX10_breaks_180 : decode cX10_breaks 180 = .ok (.iadd, 1) := by decide +kernel
theorem dX10_breaks_181 : decode cX10_breaks 181 = .ok (.putfield 228, 3) := by decide +kernel
theorem dX10_breaks_184 : decode cX10_breaks 184 = .ok (.aload_n 0, 1) := by decide +kernel
theorem dX10_breaks_185 : decode cX10_breaks 185 = .ok (.getfield 77, 3) := by decide +kernel
theorem dX10_breaks_188 : decode cX10_breaks 188 = .ok (.iload_n 3, 1) := by decide +kernel
theorem dX10_breaks_189 : decode cX10_breaks 189 = .ok (.iaload, 1) := by decide +kernel
theorem dX10_breaks_190 : decode cX10_breaks 190 = .ok (.istore_n 1, 1) := by decide +kernel
theorem dX10_breaks_191 : decode cX10_breaks 191 = .ok (.aload_n 0, 1) := by decide +kernel
theorem dX10_breaks_192 : decode cX10_breaks 192 = .ok (.getfield 80, 3) := by decide +kernel
theorem dX10_breaks_195 : decode cX10_breaks 195 = .ok (.iload_n 3, 1) := by decide +kernel
theorem dX10_breaks_196 : decode cX10_breaks 196 = .ok (.iaload, 1) := by decide +kernel
theorem dX10_breaks_197 : decode cX10_breaks 197 = .ok (.istore_n 2, 1) := by decide +kernel
theorem dX10_breaks_198 : decode cX10_breaks 198 = .ok (.aload_n 0, 1) := by decide +kernel
theorem dX10_breaks_199 : decode cX10_breaks 199 = .ok (.getfield 86, 3) := by decide +kernel
theorem dX10_breaks_202 : decode cX10_breaks 202 = .ok (.aload_n 0, 1) := by decide +kernel
theorem dX10_breaks_203 : decode cX10_breaks 203 = .ok (.getfield 228, 3) := by decide +kernel
theorem dX10_breaks_206 : decode cX10_breaks 206 = .ok (.iload_n 1, 1) := by decide +kernel
theorem dX10_breaks_207 : decode cX10_breaks 207 = .ok (.iastore, 1) := by decide +kernel
theorem dX10_breaks_208 : decode cX10_breaks 208 = .ok (.aload_n 0, 1) := by decide +kernel
theorem dX10_breaks_209 : decode cX10_breaks 209 = .ok (.getfield 89, 3) := by decide +kernel
theorem dX10_breaks_212 : decode cX10_breaks 212 = .ok (.aload_n 0, 1) := by decide +kernel
theorem dX10_breaks_213 : decode cX10_breaks 213 = .ok (.getfield 228, 3) := by decide +kernel
theorem dX10_breaks_216 : decode cX10_breaks 216 = .ok (.iload_n 2, 1) := by decide +kernel
theorem dX10_breaks_217 : decode cX10_breaks 217 = .ok (.iastore, 1) := by decide +kernel
theorem dX10_breaks_218 : decode cX10_breaks 218 = .ok (.goto (-104), 3) := by decide +kernel
theorem dX10_breaks_0 : decode cX10_breaks 0 = .ok (.aload_n 0, 1) := by decide +kernel
theorem dX10_breaks_1 : decode cX10_breaks 1 = .ok (.getfield 71, 3) := by decide +kernel
theorem dX10_breaks_4 : decode cX10_breaks 4 = .ok (.iconst 0, 1) := by decide +kernel
theorem dX10_breaks_5 : decode cX10_breaks 5 = .ok (.iconst 0, 1) := by decide +kernel
theorem dX10_breaks_6 : decode cX10_breaks 6 = .ok (.iastore, 1) := by decide +kernel
theorem dX10_breaks_7 : decode cX10_breaks 7 = .ok (.iconst 0, 1) := by decide +kernel
theorem dX10_breaks_8 : decode cX10_breaks 8 = .ok (.istore_n 1, 1) := by decide +kernel
theorem dX10_breaks_43 : decode cX10_breaks 43 = .ok (.aload_n 0, 1) := by decide +kernel
theorem dX10_breaks_44 : decode cX10_breaks 44 = .ok (.getfield 158, 3) := by decide +kernel
theorem dX10_breaks_47 : decode cX10_breaks 47 = .ok (.iconst 1, 1) := by decide +kernel
theorem dX10_breaks_48 : decode cX10_breaks 48 = .ok (.isub, 1) := by decide +kernel
theorem dX10_breaks_49 : decode cX10_breaks 49 = .ok (.istore_n 1, 1) := by decide +kernel
theorem dX10_breaks_84 : decode cX10_breaks 84 = .ok (.aload_n 0, 1) := by decide +kernel
theorem dX10_breaks_85 : decode cX10_breaks 85 = .ok (.iconst 0, 1) := by decide +kernel
theorem dX10_breaks_86 : decode cX10_breaks 86 = .ok (.putfield 228, 3) := by decide +kernel
theorem dX10_breaks_89 : decode cX10_breaks 89 = .ok (.aload_n 0, 1) := by decide +kernel
theorem dX10_breaks_90 : decode cX10_breaks 90 = .ok (.aload_n 0, 1) := by decide +kernel
theorem dX10_breaks_91 : decode cX10_breaks 91 = .ok (.getfield 158, 3) := by decide +kernel
theorem dX10_breaks_94 : decode cX10_breaks 94 = .ok (.ifCond .ne 7, 3) := by decide +kernel
theorem dX10_breaks_101 : decode cX10_breaks 101 = .ok (.aload_n 0, 1) := by decide +kernel
theorem dX10_breaks_102 : decode cX10_breaks 102 = .ok (.getfield 74, 3) := by decide +kernel
theorem dX10_breaks_105 : decode cX10_breaks 105 = .ok (.iconst 0, 1) := by decide +kernel
theorem dX10_breaks_106 : decode cX10_breaks 106 = .ok (.iaload, 1) := by decide +kernel
theorem dX10_breaks_107 : decode cX10_breaks 107 = .ok (.putfield 231, 3) := by decide +kernel
theorem dX10_breaks_110 : decode cX10_breaks 110 = .ok (.iconst 0, 1) := by decide +kernel
theorem dX10_breaks_111 : decode cX10_breaks 111 = .ok (.istore_n 1, 1) := by decide +kernel
theorem dX10_breaks_112 : decode cX10_breaks 112 = .ok (.iconst 0, 1) := by decide +kernel
theorem dX10_breaks_113 : decode cX10_breaks 113 = .ok (.istore_n 2, 1) := by decide +kernel
theorem dX10_breaks_221 : decode cX10_breaks 221 = .ok (.return_, 1) := by decide +kernel
theorem dX10_breaks_97 : decode cX10_breaks 97 = .ok (.iconst (-1), 1) := by decide +kernel
theorem dX10_breaks_98 : decode cX10_breaks 98 = .ok (.goto 9, 3) := by decide +kernel
theorem pg_is_c {A : List (Nat × Nat × Nat)} {f35 f36 f37 : Nat → Int32} {a b c cn : Nat} {v w : Int32} (hc : cn = A.length) (h : pg_is A f35 f36 f37) : pg_is (A ++ [(a, b, c)]) (upd (upd f35 cn (nI a)) (cn + 1) v) (upd (upd f36 cn (nI b)) (cn + 1) w) (upd f37 cn (nI c)) := by
  rw [hc]
  exact pg_is_s h
theorem rs_S_pn {Fm To : Nat → Nat} {p r pn : Nat} (hz : ∀ p, p < pn → 0 < To p - Fm p) (hp : p ≤ pn) (hr : p < pn → r < To p - Fm p) (h : rs_S Fm To p + r = rs_S Fm To pn) : p = pn := by
  by_cases e : p = pn
  · exact e
  · have h1 := rs_S_le (Fm := Fm) (To := To) (show p < pn by omega)
    have h2 := hr (by omega)
    omega
/-- a place where a page begins, or the end -/
def pg_at (Fm To : Nat → Nat) (pn : Nat) (C : Nat → Option Q4) (p r : Nat) : Prop := p ≤ pn ∧ (p = pn → r = 0) ∧ (p < pn → r < To p - Fm p ∧ ∃ y, C (rs_S Fm To p + r) = some y)
theorem pg_nx {Fm To : Nat → Nat} {pn : Nat} {C : Nat → Option Q4} {f1 f2 f3 f4 : Nat → Int32} {p r : Nat} {y : Q4} (hz : ∀ p, p < pn → 0 < To p - Fm p) (htab : bk_tab Fm To pn C 0 f1 f2 f3 f4) (hcl : bk_cl Fm To pn C 0) (hp : p < pn) (hr : r < To p - Fm p) (hy : C (rs_S Fm To p + r) = some y) : pg_at Fm To pn C y.2.1 y.2.2.1 ∧ rs_S Fm To p + r < rs_S Fm To y.2.1 + y.2.2.1 := by
  have h1 := rs_S_le (Fm := Fm) (To := To) hp
  have h2 := (htab (rs_S Fm To p + r) (Nat.zero_le _) (by omega)).2 y hy
  refine ⟨⟨h2.2.2.1, h2.2.2.2.2.1, fun h3 => ⟨h2.2.2.2.1 h3, ?_⟩⟩, h2.2.2.2.2.2⟩
  rcases hcl _ y (Nat.zero_le _) (show rs_S Fm To p + r < rs_S Fm To pn by omega) hy with h4 | h4
  · exact absurd (rs_S_pn hz h2.2.2.1 h2.2.2.2.1 h4) (by omega)
  · exact h4
def bk_least (pn : Nat) (C : Nat → Option Q4) : Int32 := if pn = 0 then -1 else match C 0 with
  | none => -1
  | some y => nI y.1
theorem bk_least_0 {pn : Nat} {C : Nat → Option Q4} (h : pn = 0) : bk_least pn C = -1 := if_pos h
theorem bk_least_n {pn : Nat} {C : Nat → Option Q4} (h : C 0 = none) : bk_least pn C = -1 := by
  unfold bk_least
  rw [h]
  by_cases h0 : pn = 0
  · rw [if_pos h0]
  · rw [if_neg h0]
theorem bk_least_s {pn : Nat} {C : Nat → Option Q4} {y : Q4} (h0 : ¬ pn = 0) (h : C 0 = some y) : bk_least pn C = nI y.1 := by
  unfold bk_least
  rw [if_neg h0, h]
set_option maxHeartbeats 1000000 in
set_option maxRecDepth 100000 in
theorem lk_pg {p : Program} {l : Launch} {e : Env} {R : Room} {s : State} {m : MethodId} {args : Array Value} {below : List Frame} {meth : Method} {c : Code} {cells slots : Nat} {Q : State → Prop} {D : va_G} {A : Nat → Prop} {h0 : Nat} {q : Nat → Nat} {cB cI cZ : ClassId} {I : Nat → Int32} {F : Nat → Nat → Int32} {pn : Nat} {pe sl : Nat → Nat} {K : Nat → Int32} {Fm To Rr : Nat → Nat} {mo : Nat} (hpv : rp_ok F pn pe sl K Fm To Rr) (hI2 : I 2 = nI mo) (hI14 : I 14 = nI pn) (hmo : mo ≤ 40) (hSS : rs_S Fm To pn ≤ 8000) (hSt : ∀ p, p ≤ pn → F 30 p = nI (rs_S Fm To p)) {C : Nat → Option Q4} (htab : bk_tab Fm To pn C 0 (F 31) (F 32) (F 33) (F 34)) (hcl : bk_cl Fm To pn C 0) {ls0 : Nat} (hI29 : I 29 = nI ls0) (hls0 : ls0 < 2 ^ 31) (hRf : 1 ≤ R.frames) (hRl : 25 ≤ R.locals) (hRc : cells ≤ R.cells) (hRs : slots ≤ R.slots) (hA : ∀ q : Nat, s.heap.size ≤ q → A q) (hf : CallFix p m c cX10_breaks 4 s args gT yX10_breaks.cls) (hK : va_K D vcl (mT cB cI cZ) s) :
    ∀ (k : Nat) (pp : Nat) (rr : Nat) (cn : Nat) (Pg : List (Nat × Nat × Nat)) (f35 : Nat → Int32) (f36 : Nat → Int32) (f37 : Nat → Int32) (H : Heap) (locs : List Loc) (ls : Array Slot), rs_S Fm To pn ≤ rs_S Fm To pp + rr + k → pg_at Fm To pn C pp rr → cn ≤ rs_S Fm To pp + rr → cn = Pg.length → pg_is Pg f35 f36 f37 → (0 < cn → f35 cn = nI pp ∧ f36 cn = nI rr) →  va_P D vcl (mW h0 q cB cI cZ (upd I 28 (nI cn)) (va_up (va_up (va_up F 35 f35) 36 f36) 37 f37)) H → va_D A (mW h0 q cB cI cZ (upd I 28 (nI cn)) (va_up (va_up (va_up F 35 f35) 36 f36) 37 f37)) → va_S A s.heap H locs → lv_has ls 4 [(2, .int (nI rr)), (1, .int (nI pp)), (0, .ref h0)] →
    (∀ (c2 : Nat) (Pg2 : List (Nat × Nat × Nat)) (g35 : Nat → Int32) (g36 : Nat → Int32) (g37 : Nat → Int32) (H : Heap) (locs : List Loc) (ls : Array Slot), Pg2 = Pg ++ bk_pg Fm To pn C k pp rr → c2 = Pg2.length → pg_is Pg2 g35 g36 g37 → (0 < c2 → g35 c2 = nI pn ∧ g36 c2 = nI 0) → va_P D vcl (mW h0 q cB cI cZ (upd I 28 (nI c2)) (va_up (va_up (va_up F 35 g35) 36 g36) 37 g37)) H → va_D A (mW h0 q cB cI cZ (upd I 28 (nI c2)) (va_up (va_up (va_up F 35 g35) 36 g36) 37 g37)) → va_S A s.heap H locs → lv_has ls 4 [(0, .ref h0)] → W p l e R s m args below meth c H locs cells slots Q (F0 m 221 ls [])) →
    W p l e R s m args below meth c H locs cells slots Q (F0 m 114 ls []) := by
  obtain ⟨hx, hb, hml, hown, hts⟩ := id hf
  have hpn8 := hpv.1
  have hzz : ∀ p, p < pn → 0 < To p - Fm p := fun p hp => by have := hpv.2 p hp; omega
  intro k
  induction k with
  | zero =>
    intro pp rr cn Pg f35 f36 f37 H locs ls hik hat hAl hcn hpg hlast hP hD hS hl kk
    have hpp := hat.1
    refine lv_aload_n hx hb dX10_breaks_114 rfl (lv_at hl 2 rfl) ?_
    refine va_get (D := D) (ci := 11) (v := .int (I 29)) (C := RX10) (T := TX10) (N := 48) hx hb hts inX10 hown hK hP 0 rfl rfl 29 (by decide) (hts _ k_1173) (fun _ h9 => h9) rfl dX10_breaks_115 ?_
    refine q_seti (y := (nI ls0)) hI29 ?_
    refine lv_iconst (v := (-1)) hx hb dX10_breaks_118 (by decide) ?_
    refine lv_icmp_eq (tgt := 221) hx hb dX10_breaks_119 (by decide) (fun hno => absurd hno (q_nem (by decide) (by omega))) (fun _ => ?_)
    refine lv_iload_n hx hb dX10_breaks_122 rfl (lv_at hl 1 rfl) ?_
    refine lv_aload_n hx hb dX10_breaks_123 rfl (lv_at hl 2 rfl) ?_
    refine va_get (D := D) (ci := 11) (v := .int (I 14)) (C := RX10) (T := TX10) (N := 48) hx hb hts inX10 hown hK hP 0 rfl rfl 14 (by decide) (hts _ k_1158) (fun _ h9 => h9) rfl dX10_breaks_124 ?_
    refine q_seti (y := (nI pn)) hI14 ?_
    refine lv_icmp_ge (tgt := 221) hx hb dX10_breaks_127 (by decide) (fun c_1 => ?_) (fun c_1 => ?_)
    · have c_1 := q_le (a := pn) (b := pp) (by omega) (by omega) c_1
      obtain rfl : pp = pn := by have := hat.1; omega
      exact kk cn Pg f35 f36 f37 H locs ls (by rw [bk_pg_out (by omega), List.append_nil]) hcn hpg (fun z => by have := hlast z; rw [hat.2.1 rfl] at this; exact this) hP hD hS (lv_sub hl (l' := [(0, .ref h0)]) [2] rfl)
    · have c_1 := q_nle (a := pn) (b := pp) (by omega) (by omega) c_1
      obtain ⟨hrr, y, hy⟩ := hat.2.2 (by omega)
      have hnx := pg_nx hzz htab hcl (by omega) hrr hy
      have hs3 := rs_S_le (Fm := Fm) (To := To) (show pp < pn by omega)
      have hta := (htab (rs_S Fm To pp + rr) (Nat.zero_le _) (by omega)).1
      rw [hy] at hta
      have hs4 := rs_S_end (Fm := Fm) (To := To) hnx.1.1 (fun z => (hnx.1.2.2 z).1) hnx.1.2.1
      exact absurd hik (by omega)
  | succ k ih =>
    intro pp rr cn Pg f35 f36 f37 H locs ls hik hat hAl hcn hpg hlast hP hD hS hl kk
    have hpp := hat.1
    refine lv_aload_n hx hb dX10_breaks_114 rfl (lv_at hl 2 rfl) ?_
    refine va_get (D := D) (ci := 11) (v := .int (I 29)) (C := RX10) (T := TX10) (N := 48) hx hb hts inX10 hown hK hP 0 rfl rfl 29 (by decide) (hts _ k_1173) (fun _ h9 => h9) rfl dX10_breaks_115 ?_
    refine q_seti (y := (nI ls0)) hI29 ?_
    refine lv_iconst (v := (-1)) hx hb dX10_breaks_118 (by decide) ?_
    refine lv_icmp_eq (tgt := 221) hx hb dX10_breaks_119 (by decide) (fun hno => absurd hno (q_nem (by decide) (by omega))) (fun _ => ?_)
    refine lv_iload_n hx hb dX10_breaks_122 rfl (lv_at hl 1 rfl) ?_
    refine lv_aload_n hx hb dX10_breaks_123 rfl (lv_at hl 2 rfl) ?_
    refine va_get (D := D) (ci := 11) (v := .int (I 14)) (C := RX10) (T := TX10) (N := 48) hx hb hts inX10 hown hK hP 0 rfl rfl 14 (by decide) (hts _ k_1158) (fun _ h9 => h9) rfl dX10_breaks_124 ?_
    refine q_seti (y := (nI pn)) hI14 ?_
    refine lv_icmp_ge (tgt := 221) hx hb dX10_breaks_127 (by decide) (fun c_1 => ?_) (fun c_1 => ?_)
    · have c_1 := q_le (a := pn) (b := pp) (by omega) (by omega) c_1
      obtain rfl : pp = pn := by have := hat.1; omega
      exact kk cn Pg f35 f36 f37 H locs ls (by rw [bk_pg_out (by omega), List.append_nil]) hcn hpg (fun z => by have := hlast z; rw [hat.2.1 rfl] at this; exact this) hP hD hS (lv_sub hl (l' := [(0, .ref h0)]) [2] rfl)
    · have c_1 := q_nle (a := pn) (b := pp) (by omega) (by omega) c_1
      obtain ⟨hrr, y, hy⟩ := hat.2.2 (by omega)
      have hnx := pg_nx hzz htab hcl (by omega) hrr hy
      have hs3 := rs_S_le (Fm := Fm) (To := To) (show pp < pn by omega)
      have hta := (htab (rs_S Fm To pp + rr) (Nat.zero_le _) (by omega)).1
      rw [hy] at hta
      have hs4 := rs_S_end (Fm := Fm) (To := To) hnx.1.1 (fun z => (hnx.1.2.2 z).1) hnx.1.2.1
      refine lv_aload_n hx hb dX10_breaks_130 rfl (lv_at hl 2 rfl) ?_
      refine va_get (D := D) (ci := 11) (v := .ref (q 30)) (C := RX10) (T := TX10) (N := 48) hx hb hts inX10 hown hK hP 0 rfl rfl 30 (by decide) (hts _ k_1174) (fun _ h9 => h9) rfl dX10_breaks_131 ?_
      refine lv_iload_n hx hb dX10_breaks_134 rfl (lv_at hl 1 rfl) ?_
      refine q_ild (X := pp) (f := (F 30)) hx hb hK hP 19 1 rfl rfl (by omega) (by decide) dX10_breaks_135 ?_
      refine q_seti (y := (nI (rs_S Fm To pp))) (hSt pp (by omega)) ?_
      refine lv_iload_n hx hb dX10_breaks_136 rfl (lv_at hl 0 rfl) ?_
      refine lv_iadd hx hb dX10_breaks_137 ?_
      refine q_seti (y := nI ((rs_S Fm To pp) + rr)) (nI_add (rs_S Fm To pp) rr) ?_
      refine q_seti (y := nI (rs_S Fm To pp + rr)) (congrArg nI (show (rs_S Fm To pp) + rr = rs_S Fm To pp + rr by omega)) ?_
      refine lv_istore_n (lv' := [(3, .int (nI (rs_S Fm To pp + rr))), (2, .int (nI rr)), (1, .int (nI pp)), (0, .ref h0)]) hx hb dX10_breaks_138 rfl hl (by decide) rfl (fun ls hl => ?_)
      refine lv_aload_n hx hb dX10_breaks_139 rfl (lv_at hl 3 rfl) ?_
      refine va_get (D := D) (ci := 11) (v := .ref (q 35)) (C := RX10) (T := TX10) (N := 48) hx hb hts inX10 hown hK hP 0 rfl rfl 35 (by decide) (hts _ k_1179) (fun _ h9 => h9) rfl dX10_breaks_140 ?_
      refine lv_aload_n hx hb dX10_breaks_143 rfl (lv_at hl 3 rfl) ?_
      refine va_get (D := D) (ci := 11) (v := .int (nI cn)) (C := RX10) (T := TX10) (N := 48) hx hb hts inX10 hown hK hP 0 rfl rfl 28 (by decide) (hts _ k_1172) (fun _ h9 => h9) rfl dX10_breaks_144 ?_
      refine lv_iload_n hx hb dX10_breaks_147 rfl (lv_at hl 2 rfl) ?_
      refine q_ist (X := cn) (f := f35) (x := (nI pp)) hx hb hK hP hD hS 24 1 rfl rfl (by omega) (by decide) dX10_breaks_148 (fun H locs hP hD hS => ?_)
      have hP : va_P D vcl (mW h0 q cB cI cZ (upd I 28 (nI cn)) (va_up (va_up (va_up F 35 (upd f35 cn (nI pp))) 36 f36) 37 f37)) H := hP
      have hD : va_D A (mW h0 q cB cI cZ (upd I 28 (nI cn)) (va_up (va_up (va_up F 35 (upd f35 cn (nI pp))) 36 f36) 37 f37)) := hD
      refine lv_aload_n hx hb dX10_breaks_149 rfl (lv_at hl 3 rfl) ?_
      refine va_get (D := D) (ci := 11) (v := .ref (q 36)) (C := RX10) (T := TX10) (N := 48) hx hb hts inX10 hown hK hP 0 rfl rfl 36 (by decide) (hts _ k_1180) (fun _ h9 => h9) rfl dX10_breaks_150 ?_
      refine lv_aload_n hx hb dX10_breaks_153 rfl (lv_at hl 3 rfl) ?_
      refine va_get (D := D) (ci := 11) (v := .int (nI cn)) (C := RX10) (T := TX10) (N := 48) hx hb hts inX10 hown hK hP 0 rfl rfl 28 (by decide) (hts _ k_1172) (fun _ h9 => h9) rfl dX10_breaks_154 ?_
      refine lv_iload_n hx hb dX10_breaks_157 rfl (lv_at hl 1 rfl) ?_
      refine q_ist (X := cn) (f := f36) (x := (nI rr)) hx hb hK hP hD hS 25 1 rfl rfl (by omega) (by decide) dX10_breaks_158 (fun H locs hP hD hS => ?_)
      have hP : va_P D vcl (mW h0 q cB cI cZ (upd I 28 (nI cn)) (va_up (va_up (va_up F 35 (upd f35 cn (nI pp))) 36 (upd f36 cn (nI rr))) 37 f37)) H := hP
      have hD : va_D A (mW h0 q cB cI cZ (upd I 28 (nI cn)) (va_up (va_up (va_up F 35 (upd f35 cn (nI pp))) 36 (upd f36 cn (nI rr))) 37 f37)) := hD
      refine lv_aload_n hx hb dX10_breaks_159 rfl (lv_at hl 3 rfl) ?_
      refine va_get (D := D) (ci := 11) (v := .ref (q 37)) (C := RX10) (T := TX10) (N := 48) hx hb hts inX10 hown hK hP 0 rfl rfl 37 (by decide) (hts _ k_1181) (fun _ h9 => h9) rfl dX10_breaks_160 ?_
      refine lv_aload_n hx hb dX10_breaks_163 rfl (lv_at hl 3 rfl) ?_
      refine va_get (D := D) (ci := 11) (v := .int (nI cn)) (C := RX10) (T := TX10) (N := 48) hx hb hts inX10 hown hK hP 0 rfl rfl 28 (by decide) (hts _ k_1172) (fun _ h9 => h9) rfl dX10_breaks_164 ?_
      refine lv_aload_n hx hb dX10_breaks_167 rfl (lv_at hl 3 rfl) ?_
      refine va_get (D := D) (ci := 11) (v := .ref (q 34)) (C := RX10) (T := TX10) (N := 48) hx hb hts inX10 hown hK hP 0 rfl rfl 34 (by decide) (hts _ k_1178) (fun _ h9 => h9) rfl dX10_breaks_168 ?_
      refine lv_iload_n hx hb dX10_breaks_171 rfl (lv_at hl 0 rfl) ?_
      refine q_ild (X := rs_S Fm To pp + rr) (f := (F 34)) hx hb hK hP 23 1 rfl rfl (by omega) (by decide) dX10_breaks_172 ?_
      refine q_seti (y := (nI (y.2.2.2))) hta.2.2.2 ?_
      refine q_ist (X := cn) (f := f37) (x := (nI (y.2.2.2))) hx hb hK hP hD hS 26 1 rfl rfl (by omega) (by decide) dX10_breaks_173 (fun H locs hP hD hS => ?_)
      have hP : va_P D vcl (mW h0 q cB cI cZ (upd I 28 (nI cn)) (va_up (va_up (va_up F 35 (upd f35 cn (nI pp))) 36 (upd f36 cn (nI rr))) 37 (upd f37 cn (nI (y.2.2.2))))) H := hP
      have hD : va_D A (mW h0 q cB cI cZ (upd I 28 (nI cn)) (va_up (va_up (va_up F 35 (upd f35 cn (nI pp))) 36 (upd f36 cn (nI rr))) 37 (upd f37 cn (nI (y.2.2.2))))) := hD
      refine lv_aload_n hx hb dX10_breaks_174 rfl (lv_at hl 3 rfl) ?_
      refine lv_dup hx hb dX10_breaks_175 rfl ?_
      refine va_get (D := D) (ci := 11) (v := .int (nI cn)) (C := RX10) (T := TX10) (N := 48) hx hb hts inX10 hown hK hP 0 rfl rfl 28 (by decide) (hts _ k_1172) (fun _ h9 => h9) rfl dX10_breaks_176 ?_
      refine lv_iconst (v := 1) hx hb dX10_breaks_179 (by decide) ?_
      refine lv_iadd hx hb dX10_breaks_180 ?_
      refine q_seti (y := nI (cn + 1)) (nI_add cn 1) ?_
      refine va_put (D := D) (ci := 11) (v := .int (nI (cn + 1))) (ty := .int) (C := RX10) (T := TX10) (N := 48) hx hb hts inX10 tyX10 tyX10_ok nmX10 hown hK hP hD hS 0 rfl rfl 28 (by decide) (hts _ k_1172) (fun _ h9 => h9) rfl (by decide +kernel) rfl rfl (Nat.le_of_ble_eq_true rfl) dX10_breaks_181 (fun H locs hP hD hS => ?_)
      have hP : va_P D vcl (mW h0 q cB cI cZ (upd I 28 (nI (cn + 1))) (va_up (va_up (va_up F 35 (upd f35 cn (nI pp))) 36 (upd f36 cn (nI rr))) 37 (upd f37 cn (nI (y.2.2.2))))) H := hP
      have hD : va_D A (mW h0 q cB cI cZ (upd I 28 (nI (cn + 1))) (va_up (va_up (va_up F 35 (upd f35 cn (nI pp))) 36 (upd f36 cn (nI rr))) 37 (upd f37 cn (nI (y.2.2.2))))) := hD
      refine lv_aload_n hx hb dX10_breaks_184 rfl (lv_at hl 3 rfl) ?_
      refine va_get (D := D) (ci := 11) (v := .ref (q 32)) (C := RX10) (T := TX10) (N := 48) hx hb hts inX10 hown hK hP 0 rfl rfl 32 (by decide) (hts _ k_1176) (fun _ h9 => h9) rfl dX10_breaks_185 ?_
      refine lv_iload_n hx hb dX10_breaks_188 rfl (lv_at hl 0 rfl) ?_
      refine q_ild (X := rs_S Fm To pp + rr) (f := (F 32)) hx hb hK hP 21 1 rfl rfl (by omega) (by decide) dX10_breaks_189 ?_
      refine q_seti (y := (nI (y.2.1))) hta.2.1 ?_
      refine lv_istore_n (lv' := [(1, .int (nI (y.2.1))), (3, .int (nI (rs_S Fm To pp + rr))), (2, .int (nI rr)), (0, .ref h0)]) hx hb dX10_breaks_190 rfl hl (by decide) rfl (fun ls hl => ?_)
      refine lv_aload_n hx hb dX10_breaks_191 rfl (lv_at hl 3 rfl) ?_
      refine va_get (D := D) (ci := 11) (v := .ref (q 33)) (C := RX10) (T := TX10) (N := 48) hx hb hts inX10 hown hK hP 0 rfl rfl 33 (by decide) (hts _ k_1177) (fun _ h9 => h9) rfl dX10_breaks_192 ?_
      refine lv_iload_n hx hb dX10_breaks_195 rfl (lv_at hl 1 rfl) ?_
      refine q_ild (X := rs_S Fm To pp + rr) (f := (F 33)) hx hb hK hP 22 1 rfl rfl (by omega) (by decide) dX10_breaks_196 ?_
      refine q_seti (y := (nI (y.2.2.1))) hta.2.2.1 ?_
      refine lv_istore_n (lv' := [(2, .int (nI (y.2.2.1))), (1, .int (nI (y.2.1))), (3, .int (nI (rs_S Fm To pp + rr))), (0, .ref h0)]) hx hb dX10_breaks_197 rfl hl (by decide) rfl (fun ls hl => ?_)
      refine lv_aload_n hx hb dX10_breaks_198 rfl (lv_at hl 3 rfl) ?_
      refine va_get (D := D) (ci := 11) (v := .ref (q 35)) (C := RX10) (T := TX10) (N := 48) hx hb hts inX10 hown hK hP 0 rfl rfl 35 (by decide) (hts _ k_1179) (fun _ h9 => h9) rfl dX10_breaks_199 ?_
      refine lv_aload_n hx hb dX10_breaks_202 rfl (lv_at hl 3 rfl) ?_
      refine va_get (D := D) (ci := 11) (v := .int (nI (cn + 1))) (C := RX10) (T := TX10) (N := 48) hx hb hts inX10 hown hK hP 0 rfl rfl 28 (by decide) (hts _ k_1172) (fun _ h9 => h9) rfl dX10_breaks_203 ?_
      refine lv_iload_n hx hb dX10_breaks_206 rfl (lv_at hl 1 rfl) ?_
      refine q_ist (X := cn + 1) (f := (upd f35 cn (nI pp))) (x := (nI (y.2.1))) hx hb hK hP hD hS 24 1 rfl rfl (by omega) (by decide) dX10_breaks_207 (fun H locs hP hD hS => ?_)
      have hP : va_P D vcl (mW h0 q cB cI cZ (upd I 28 (nI (cn + 1))) (va_up (va_up (va_up F 35 (upd (upd f35 cn (nI pp)) (cn + 1) (nI (y.2.1)))) 36 (upd f36 cn (nI rr))) 37 (upd f37 cn (nI (y.2.2.2))))) H := hP
      have hD : va_D A (mW h0 q cB cI cZ (upd I 28 (nI (cn + 1))) (va_up (va_up (va_up F 35 (upd (upd f35 cn (nI pp)) (cn + 1) (nI (y.2.1)))) 36 (upd f36 cn (nI rr))) 37 (upd f37 cn (nI (y.2.2.2))))) := hD
      refine lv_aload_n hx hb dX10_breaks_208 rfl (lv_at hl 3 rfl) ?_
      refine va_get (D := D) (ci := 11) (v := .ref (q 36)) (C := RX10) (T := TX10) (N := 48) hx hb hts inX10 hown hK hP 0 rfl rfl 36 (by decide) (hts _ k_1180) (fun _ h9 => h9) rfl dX10_breaks_209 ?_
      refine lv_aload_n hx hb dX10_breaks_212 rfl (lv_at hl 3 rfl) ?_
      refine va_get (D := D) (ci := 11) (v := .int (nI (cn + 1))) (C := RX10) (T := TX10) (N := 48) hx hb hts inX10 hown hK hP 0 rfl rfl 28 (by decide) (hts _ k_1172) (fun _ h9 => h9) rfl dX10_breaks_213 ?_
      refine lv_iload_n hx hb dX10_breaks_216 rfl (lv_at hl 0 rfl) ?_
      refine q_ist (X := cn + 1) (f := (upd f36 cn (nI rr))) (x := (nI (y.2.2.1))) hx hb hK hP hD hS 25 1 rfl rfl (by omega) (by decide) dX10_breaks_217 (fun H locs hP hD hS => ?_)
      have hP : va_P D vcl (mW h0 q cB cI cZ (upd I 28 (nI (cn + 1))) (va_up (va_up (va_up F 35 (upd (upd f35 cn (nI pp)) (cn + 1) (nI (y.2.1)))) 36 (upd (upd f36 cn (nI rr)) (cn + 1) (nI (y.2.2.1)))) 37 (upd f37 cn (nI (y.2.2.2))))) H := hP
      have hD : va_D A (mW h0 q cB cI cZ (upd I 28 (nI (cn + 1))) (va_up (va_up (va_up F 35 (upd (upd f35 cn (nI pp)) (cn + 1) (nI (y.2.1)))) 36 (upd (upd f36 cn (nI rr)) (cn + 1) (nI (y.2.2.1)))) 37 (upd f37 cn (nI (y.2.2.2))))) := hD
      refine lv_goto (tgt := 114) hx hb dX10_breaks_218 (by decide) ?_
      have hlA : (Pg ++ [(pp, rr, y.2.2.2)]).length = Pg.length + 1 := by rw [List.length_append]; rfl
      refine ih y.2.1 y.2.2.1 (cn + 1) (Pg ++ [(pp, rr, y.2.2.2)]) _ _ _ H locs ls (by omega) hnx.1 (by omega) (by rw [hlA, hcn]) (pg_is_c hcn hpg) (fun _ => ⟨pk_us, pk_us⟩) hP hD hS (lv_sub hl (l' := [(2, .int (nI (y.2.2.1))), (1, .int (nI (y.2.1))), (0, .ref h0)]) [0, 1, 3] rfl) (fun c2 Pg2 g1 g2 g3 H locs ls e1 => kk c2 Pg2 g1 g2 g3 H locs ls (by rw [e1, bk_pg_in (by omega) hy, List.append_assoc]; rfl))
set_option maxHeartbeats 1000000 in
set_option maxRecDepth 100000 in
theorem r_breaks (l : Launch) (D : va_G) (h0 : Nat) (q : Nat → Nat) (cB cI_ cZ : ClassId) (I : Nat → Int32) (F : Nat → Nat → Int32) (pn : Nat) (pe sl : Nat → Nat) (K : Nat → Int32) (Fm To Rr : Nat → Nat) (mo : Nat) (hpv : rp_ok F pn pe sl K Fm To Rr) (hI2 : I 2 = nI mo) (hI14 : I 14 = nI pn) (hmo : mo ≤ 40) (hSS : rs_S Fm To pn ≤ 8000) : cV l D yX10_breaks cX10_breaks 4 none 4 112 0 0 [.ref h0] zT (mW h0 q cB cI_ cZ I F) (mT cB cI_ cZ) (fun u => ∃ (C : Nat → Option Q4) (Pg : List (Nat × Nat × Nat)) (g30 w1 w2 w3 w4 g35 g36 g37 : Nat → Int32), C = bk_all K Fm To Rr pn mo pn (fun _ => none) ∧ Pg = bk_pg Fm To pn C 8000 0 0 ∧ bk_tab Fm To pn C 0 w1 w2 w3 w4 ∧ bk_cl Fm To pn C 0 ∧ pg_is Pg g35 g36 g37 ∧ (0 < Pg.length → g35 Pg.length = nI pn ∧ g36 Pg.length = 0) ∧ u = (mW h0 q cB cI_ cZ (upd (upd I 28 (nI Pg.length)) 29 (bk_least pn C)) (va_up (va_up (va_up (va_up (va_up (va_up (va_up (va_up F 30 g30) 31 w1) 32 w2) 33 w3) 34 w4) 35 g35) 36 g36) 37 g37), mT cB cI_ cZ)) := by
  refine q_sv (by decide) (Nat.le_of_ble_eq_true rfl) ?_
  intro p e s m below meth c A ls hAe hf hr hlocks hin hK hP hD hS hA hZ hl
  obtain ⟨hx, hb, hml, hown, hts⟩ := id hf
  have hl : lv_has ls 4 [(0, .ref h0)] := hl
  have hpn8 := hpv.1
  have hzz : ∀ p, p < pn → 0 < To p - Fm p := fun p hp => by have := hpv.2 p hp; omega
  refine lv_aload_n hx hb dX10_breaks_0 rfl (lv_at hl 0 rfl) ?_
  refine va_get (D := D) (ci := 11) (v := .ref (q 30)) (C := RX10) (T := TX10) (N := 48) hx hb hts inX10 hown hK hP 0 rfl rfl 30 (by decide) (hts _ k_1174) (fun _ h9 => h9) rfl dX10_breaks_1 ?_
  refine lv_iconst (v := 0) hx hb dX10_breaks_4 (by decide) ?_
  refine lv_iconst (v := 0) hx hb dX10_breaks_5 (by decide) ?_
  refine q_ist (X := 0) (f := (F 30)) (x := 0) hx hb hK hP hD hS 19 1 rfl rfl (by omega) (by decide) dX10_breaks_6 (fun H locs hP hD hS => ?_)
  have hP : va_P D vcl (mW h0 q cB cI_ cZ I (va_up F 30 (upd (F 30) 0 0))) H := hP
  have hD : va_D A (mW h0 q cB cI_ cZ I (va_up F 30 (upd (F 30) 0 0))) := hD
  refine lv_iconst (v := 0) hx hb dX10_breaks_7 (by decide) ?_
  refine lv_istore_n (lv' := [(1, .int 0), (0, .ref h0)]) hx hb dX10_breaks_8 rfl hl (by decide) rfl (fun ls hl => ?_)
  refine lk_st (I := I) (F := F) (pn := pn) (pe := pe) (sl := sl) (K := K) (Fm := Fm) (To := To) (Rr := Rr) (mo := mo) hpv hI2 hI14 hmo hSS (Nat.le_of_ble_eq_true rfl) (Nat.le_of_ble_eq_true rfl) (Nat.le_of_ble_eq_true rfl) (Nat.le_of_ble_eq_true rfl) hA hf hK pn 0 _ _ _ ls (by omega) (fun i hi => by rw [show i = 0 by omega]; exact pk_us) hP hD hS (lv_sub hl (l' := [(1, .int 0), (0, .ref h0)]) [0, 1] rfl) (fun g30 H locs ls s1 hP hD hS hl => ?_)
  refine lv_aload_n hx hb dX10_breaks_43 rfl (lv_at hl 0 rfl) ?_
  refine va_get (D := D) (ci := 11) (v := .int (I 14)) (C := RX10) (T := TX10) (N := 48) hx hb hts inX10 hown hK hP 0 rfl rfl 14 (by decide) (hts _ k_1158) (fun _ h9 => h9) rfl dX10_breaks_44 ?_
  refine q_seti (y := (nI pn)) hI14 ?_
  refine lv_iconst (v := 1) hx hb dX10_breaks_47 (by decide) ?_
  refine lv_isub hx hb dX10_breaks_48 ?_
  refine lv_istore_n (lv' := [(1, .int ((nI pn) - 1)), (0, .ref h0)]) hx hb dX10_breaks_49 rfl hl (by decide) rfl (fun ls hl => ?_)
  refine lk_all (I := I) (F := (va_up F 30 g30)) (pn := pn) (pe := pe) (sl := sl) (K := K) (Fm := Fm) (To := To) (Rr := Rr) (mo := mo) hpv hI2 hI14 hmo hSS s1 (Nat.le_of_ble_eq_true rfl) (Nat.le_of_ble_eq_true rfl) (Nat.le_of_ble_eq_true rfl) (Nat.le_of_ble_eq_true rfl) hA hf hK pn _ (fun _ => none) (F 31) (F 32) (F 33) (F 34) _ _ ls (Nat.le_refl _) rfl (fun j h1 h2 => absurd h1 (by omega)) (fun j y h1 h2 h3 => absurd h1 (by omega)) hP hD hS (lv_sub hl (l' := [(1, .int ((nI pn) - 1)), (0, .ref h0)]) [0, 1] rfl) (fun C w1 w2 w3 w4 H locs ls eC htab hcl hP hD hS hl => ?_)
  have hP : va_P D vcl (mW h0 q cB cI_ cZ I (va_up (va_up (va_up (va_up (va_up F 30 g30) 31 w1) 32 w2) 33 w3) 34 w4)) H := hP
  have hD : va_D A (mW h0 q cB cI_ cZ I (va_up (va_up (va_up (va_up (va_up F 30 g30) 31 w1) 32 w2) 33 w3) 34 w4)) := hD
  refine lv_aload_n hx hb dX10_breaks_84 rfl (lv_at hl 0 rfl) ?_
  refine lv_iconst (v := 0) hx hb dX10_breaks_85 (by decide) ?_
  refine va_put (D := D) (ci := 11) (v := .int 0) (ty := .int) (C := RX10) (T := TX10) (N := 48) hx hb hts inX10 tyX10 tyX10_ok nmX10 hown hK hP hD hS 0 rfl rfl 28 (by decide) (hts _ k_1172) (fun _ h9 => h9) rfl (by decide +kernel) rfl rfl (Nat.le_of_ble_eq_true rfl) dX10_breaks_86 (fun H locs hP hD hS => ?_)
  have hP : va_P D vcl (mW h0 q cB cI_ cZ (upd I 28 0) (va_up (va_up (va_up (va_up (va_up F 30 g30) 31 w1) 32 w2) 33 w3) 34 w4)) H := hP
  have hD : va_D A (mW h0 q cB cI_ cZ (upd I 28 0) (va_up (va_up (va_up (va_up (va_up F 30 g30) 31 w1) 32 w2) 33 w3) 34 w4)) := hD
  refine lv_aload_n hx hb dX10_breaks_89 rfl (lv_at hl 0 rfl) ?_
  refine lv_aload_n hx hb dX10_breaks_90 rfl (lv_at hl 0 rfl) ?_
  refine va_get (D := D) (ci := 11) (v := .int (I 14)) (C := RX10) (T := TX10) (N := 48) hx hb hts inX10 hown hK hP 0 rfl rfl 14 (by decide) (hts _ k_1158) (fun _ h9 => h9) rfl dX10_breaks_91 ?_
  refine q_seti (y := (nI pn)) hI14 ?_
  refine lv_if_ne (tgt := 101) hx hb dX10_breaks_94 (by decide) (fun c_1 => ?_) (fun c_1 => ?_)
  · have c_1 := q_nen (a := pn) (b := 0) (by omega) (by omega) c_1
    have hz0 := hzz 0 (by omega)
    have hs0 := rs_S_le (Fm := Fm) (To := To) (show 0 < pn by omega)
    have ht0 := (htab 0 (Nat.zero_le _) (by omega)).1
    have ho0 := (htab 0 (Nat.zero_le _) (by omega)).2
    rcases hy0 : C 0 with _ | y
    · rw [hy0] at ht0 ho0
      refine lv_aload_n hx hb dX10_breaks_101 rfl (lv_at hl 0 rfl) ?_
      refine va_get (D := D) (ci := 11) (v := .ref (q 31)) (C := RX10) (T := TX10) (N := 48) hx hb hts inX10 hown hK hP 0 rfl rfl 31 (by decide) (hts _ k_1175) (fun _ h9 => h9) rfl dX10_breaks_102 ?_
      refine lv_iconst (v := 0) hx hb dX10_breaks_105 (by decide) ?_
      refine q_ild (X := 0) (f := w1) hx hb hK hP 20 1 rfl rfl (by omega) (by decide) dX10_breaks_106 ?_
      refine q_seti (y := (-1)) ht0 ?_
      refine va_put (D := D) (ci := 11) (v := .int (-1)) (ty := .int) (C := RX10) (T := TX10) (N := 48) hx hb hts inX10 tyX10 tyX10_ok nmX10 hown hK hP hD hS 0 rfl rfl 29 (by decide) (hts _ k_1173) (fun _ h9 => h9) rfl (by decide +kernel) rfl rfl (Nat.le_of_ble_eq_true rfl) dX10_breaks_107 (fun H locs hP hD hS => ?_)
      have hP : va_P D vcl (mW h0 q cB cI_ cZ (upd (upd I 28 0) 29 (-1)) (va_up (va_up (va_up (va_up (va_up F 30 g30) 31 w1) 32 w2) 33 w3) 34 w4)) H := hP
      have hD : va_D A (mW h0 q cB cI_ cZ (upd (upd I 28 0) 29 (-1)) (va_up (va_up (va_up (va_up (va_up F 30 g30) 31 w1) 32 w2) 33 w3) 34 w4)) := hD
      refine lv_iconst (v := 0) hx hb dX10_breaks_110 (by decide) ?_
      refine lv_istore_n (lv' := [(1, .int 0), (0, .ref h0)]) hx hb dX10_breaks_111 rfl hl (by decide) rfl (fun ls hl => ?_)
      refine lv_iconst (v := 0) hx hb dX10_breaks_112 (by decide) ?_
      refine lv_istore_n (lv' := [(2, .int 0), (1, .int 0), (0, .ref h0)]) hx hb dX10_breaks_113 rfl hl (by decide) rfl (fun ls hl => ?_)
      refine lv_aload_n hx hb dX10_breaks_114 rfl (lv_at hl 2 rfl) ?_
      refine va_get (D := D) (ci := 11) (v := .int (-1)) (C := RX10) (T := TX10) (N := 48) hx hb hts inX10 hown hK hP 0 rfl rfl 29 (by decide) (hts _ k_1173) (fun _ h9 => h9) rfl dX10_breaks_115 ?_
      refine lv_iconst (v := (-1)) hx hb dX10_breaks_118 (by decide) ?_
      refine lv_icmp_eq (tgt := 221) hx hb dX10_breaks_119 (by decide) (fun _ => ?_) (fun hno => absurd hno (by decide))
      exact q_zv hf hr hlocks hK hP hD hS (Nat.le_of_ble_eq_true rfl) (Nat.le_of_ble_eq_true rfl) ⟨C, [], g30, w1, w2, w3, w4, F 35, F 36, F 37, eC, (bk_pg_n hy0).symm, htab, hcl, fun j hj => absurd hj (Nat.not_lt_zero j), fun z => absurd z (Nat.lt_irrefl 0), by rw [bk_least_n hy0]; rfl⟩ dX10_breaks_221
    · rw [hy0] at ht0 ho0
      have hb0 := (ho0 y rfl).1
      refine lv_aload_n hx hb dX10_breaks_101 rfl (lv_at hl 0 rfl) ?_
      refine va_get (D := D) (ci := 11) (v := .ref (q 31)) (C := RX10) (T := TX10) (N := 48) hx hb hts inX10 hown hK hP 0 rfl rfl 31 (by decide) (hts _ k_1175) (fun _ h9 => h9) rfl dX10_breaks_102 ?_
      refine lv_iconst (v := 0) hx hb dX10_breaks_105 (by decide) ?_
      refine q_ild (X := 0) (f := w1) hx hb hK hP 20 1 rfl rfl (by omega) (by decide) dX10_breaks_106 ?_
      refine q_seti (y := (nI (y.1))) ht0.1 ?_
      refine va_put (D := D) (ci := 11) (v := .int (nI (y.1))) (ty := .int) (C := RX10) (T := TX10) (N := 48) hx hb hts inX10 tyX10 tyX10_ok nmX10 hown hK hP hD hS 0 rfl rfl 29 (by decide) (hts _ k_1173) (fun _ h9 => h9) rfl (by decide +kernel) rfl rfl (Nat.le_of_ble_eq_true rfl) dX10_breaks_107 (fun H locs hP hD hS => ?_)
      have hP : va_P D vcl (mW h0 q cB cI_ cZ (upd (upd I 28 0) 29 (nI (y.1))) (va_up (va_up (va_up (va_up (va_up F 30 g30) 31 w1) 32 w2) 33 w3) 34 w4)) H := hP
      have hD : va_D A (mW h0 q cB cI_ cZ (upd (upd I 28 0) 29 (nI (y.1))) (va_up (va_up (va_up (va_up (va_up F 30 g30) 31 w1) 32 w2) 33 w3) 34 w4)) := hD
      refine lv_iconst (v := 0) hx hb dX10_breaks_110 (by decide) ?_
      refine lv_istore_n (lv' := [(1, .int 0), (0, .ref h0)]) hx hb dX10_breaks_111 rfl hl (by decide) rfl (fun ls hl => ?_)
      refine lv_iconst (v := 0) hx hb dX10_breaks_112 (by decide) ?_
      refine lv_istore_n (lv' := [(2, .int 0), (1, .int 0), (0, .ref h0)]) hx hb dX10_breaks_113 rfl hl (by decide) rfl (fun ls hl => ?_)
      refine lk_pg (I := (upd (upd I 28 0) 29 (nI (y.1)))) (F := (va_up (va_up (va_up (va_up (va_up F 30 g30) 31 w1) 32 w2) 33 w3) 34 w4)) (pn := pn) (pe := pe) (sl := sl) (K := K) (Fm := Fm) (To := To) (Rr := Rr) (mo := mo) (C := C) (ls0 := y.1) hpv hI2 hI14 hmo hSS s1 htab hcl rfl (by omega) (Nat.le_of_ble_eq_true rfl) (Nat.le_of_ble_eq_true rfl) (Nat.le_of_ble_eq_true rfl) (Nat.le_of_ble_eq_true rfl) hA hf hK 8000 0 0 0 [] (F 35) (F 36) (F 37) _ _ ls (by omega) ⟨by omega, fun _ => rfl, fun _ => ⟨hz0, y, hy0⟩⟩ (by omega) rfl (fun j hj => absurd hj (Nat.not_lt_zero j)) (fun z => absurd z (Nat.lt_irrefl 0)) hP hD hS (lv_sub hl (l' := [(2, .int 0), (1, .int 0), (0, .ref h0)]) [0, 1, 2] rfl) (fun c2 Pg g35 g36 g37 H locs ls e1 ec e2 e3 hP hD hS hl => ?_)
      have hP : va_P D vcl (mW h0 q cB cI_ cZ (upd (upd I 28 (nI c2)) 29 (nI (y.1))) (va_up (va_up (va_up (va_up (va_up (va_up (va_up (va_up F 30 g30) 31 w1) 32 w2) 33 w3) 34 w4) 35 g35) 36 g36) 37 g37)) H := hP
      have hD : va_D A (mW h0 q cB cI_ cZ (upd (upd I 28 (nI c2)) 29 (nI (y.1))) (va_up (va_up (va_up (va_up (va_up (va_up (va_up (va_up F 30 g30) 31 w1) 32 w2) 33 w3) 34 w4) 35 g35) 36 g36) 37 g37)) := hD
      exact q_zv hf hr hlocks hK hP hD hS (Nat.le_of_ble_eq_true rfl) (Nat.le_of_ble_eq_true rfl) ⟨C, Pg, g30, w1, w2, w3, w4, g35, g36, g37, eC, e1, htab, hcl, e2, by rw [← ec]; exact e3, by rw [bk_least_s (by omega) hy0, ← ec]⟩ dX10_breaks_221
  · have c_1 := q_eqn (a := pn) (b := 0) (by omega) (by omega) c_1
    refine lv_iconst (v := (-1)) hx hb dX10_breaks_97 (by decide) ?_
    refine lv_goto (tgt := 107) hx hb dX10_breaks_98 (by decide) ?_
    refine va_put (D := D) (ci := 11) (v := .int (-1)) (ty := .int) (C := RX10) (T := TX10) (N := 48) hx hb hts inX10 tyX10 tyX10_ok nmX10 hown hK hP hD hS 0 rfl rfl 29 (by decide) (hts _ k_1173) (fun _ h9 => h9) rfl (by decide +kernel) rfl rfl (Nat.le_of_ble_eq_true rfl) dX10_breaks_107 (fun H locs hP hD hS => ?_)
    have hP : va_P D vcl (mW h0 q cB cI_ cZ (upd (upd I 28 0) 29 (-1)) (va_up (va_up (va_up (va_up (va_up F 30 g30) 31 w1) 32 w2) 33 w3) 34 w4)) H := hP
    have hD : va_D A (mW h0 q cB cI_ cZ (upd (upd I 28 0) 29 (-1)) (va_up (va_up (va_up (va_up (va_up F 30 g30) 31 w1) 32 w2) 33 w3) 34 w4)) := hD
    refine lv_iconst (v := 0) hx hb dX10_breaks_110 (by decide) ?_
    refine lv_istore_n (lv' := [(1, .int 0), (0, .ref h0)]) hx hb dX10_breaks_111 rfl hl (by decide) rfl (fun ls hl => ?_)
    refine lv_iconst (v := 0) hx hb dX10_breaks_112 (by decide) ?_
    refine lv_istore_n (lv' := [(2, .int 0), (1, .int 0), (0, .ref h0)]) hx hb dX10_breaks_113 rfl hl (by decide) rfl (fun ls hl => ?_)
    refine lv_aload_n hx hb dX10_breaks_114 rfl (lv_at hl 2 rfl) ?_
    refine va_get (D := D) (ci := 11) (v := .int (-1)) (C := RX10) (T := TX10) (N := 48) hx hb hts inX10 hown hK hP 0 rfl rfl 29 (by decide) (hts _ k_1173) (fun _ h9 => h9) rfl dX10_breaks_115 ?_
    refine lv_iconst (v := (-1)) hx hb dX10_breaks_118 (by decide) ?_
    refine lv_icmp_eq (tgt := 221) hx hb dX10_breaks_119 (by decide) (fun _ => ?_) (fun hno => absurd hno (by decide))
    exact q_zv hf hr hlocks hK hP hD hS (Nat.le_of_ble_eq_true rfl) (Nat.le_of_ble_eq_true rfl) ⟨C, [], g30, w1, w2, w3, w4, F 35, F 36, F 37, eC, (bk_pg_out (by omega)).symm, htab, hcl, fun j hj => absurd hj (Nat.not_lt_zero j), fun z => absurd z (Nat.lt_irrefl 0), by rw [bk_least_0 (by omega)]; rfl⟩ dX10_breaks_221
