section QZL
variable {p : Program} {l : Launch} {e : Env} {R : Room} {s : State} {m : MethodId} {args : Array Value} {below : List Frame} {meth : Method} {c : Code} {H : Heap} {locs : List Loc} {cells slots : Nat} {Q : State → Prop}
variable {cc : ByteArray} {pc nL : Nat} {ls : Array Slot} {D : va_G} {A : Nat → Prop} {tys : List (ClassId × FieldType)} {ws : va_W} {own : String}
theorem q_zl {v : Int64} {post : Int64 → wU → Prop} {mc ms : Nat} (F : CallFix p m c cc nL s args gT own) (hr : meth.sig.returnType = some .long) (hlocks : meth.locks = false) (hK : va_K D vcl tys s) (hP : va_P D vcl ws H) (hD : va_D A ws) (hS : va_S A s.heap H locs)
    (hc : cells ≤ mc) (hs : slots ≤ ms) (hp : post v (ws, tys)) (hdg : decode cc pc = .ok (.lreturn, 1)) :
    W p l e R s m args below meth c H locs cells slots (MQ below (va_Ql post (wB D A) A) args s mc ms A) (F0 m pc ls [.long v]) := by
  refine W.widen (k := mc) (n := ms) hc hs ?_
  exact W.lret F.1 F.2.1 hr (fun t ht hW => ⟨⟨v, (ws, tys), rfl, hp, by rw [ht]; exact hP, va_K.moved hW.alike hK, hD⟩, hS.F ht⟩) hS.2.2 hdg hlocks
end QZL
abbrev cX10_digest : ByteArray := prog_12_method_63_code
def yX10_digest : MethodName := ⟨RX10, "digest", "()J"⟩
theorem k_1381 : (Cond.instanceMethod yX10_pages) ∈ gT := gT_i 1381 (by decide +kernel) rfl
theorem k_1382 : (Cond.selects RX10 yX10_pages yX10_pages) ∈ gT := gT_i 1382 (by decide +kernel) rfl
theorem k_1383 : (Cond.code yX10_pages cX10_pages 1 (some .int)) ∈ gT := gT_i 1383 (by decide +kernel) rfl
theorem k_1526 : (Cond.instanceMethod yX10_count) ∈ gT := gT_i 1526 (by decide +kernel) rfl
theorem k_1527 : (Cond.selects RX10 yX10_count yX10_count) ∈ gT := gT_i 1527 (by decide +kernel) rfl
theorem k_1528 : (Cond.code yX10_count cX10_count 5 (some .int)) ∈ gT := gT_i 1528 (by decide +kernel) rfl
theorem k_1533 : (Cond.constantLong RX10 293 (101)) ∈ gT := gT_i 1533 (by decide +kernel) rfl
theorem k_1534 : (Cond.constantLong RX10 295 (31)) ∈ gT := gT_i 1534 (by decide +kernel) rfl
theorem k_1535 : (Cond.methodLink RX10 297 yX10_count) ∈ gT := gT_i 1535 (by decide +kernel) rfl
theorem k_1536 : (Cond.methodLink RX10 300 yX10_pages) ∈ gT := gT_i 1536 (by decide +kernel) rfl
theorem dX10_digest_6 : decode cX10_digest 6 = .ok (.iload_n 3, 1) := by decide +kernel
theorem dX10_digest_7 : decode cX10_digest 7 = .ok (.bipush 6, 2) := by decide +kernel
theorem dX10_digest_9 : decode cX10_digest 9 = .ok (.if_icmp .ge 22, 3) := by decide +kernel
theorem dX10_digest_12 : decode cX10_digest 12 = .ok (.ldc2_w 295, 3) := by decide +kernel
theorem dX10_digest_15 : decode cX10_digest 15 = .ok (.lload_n 1, 1) := by decide +kernel
theorem dX10_digest_16 : decode cX10_digest 16 = .ok (.lmul, 1) := by decide +kernel
theorem dX10_digest_17 : decode cX10_digest 17 = .ok (.aload_n 0, 1) := by decide +kernel
theorem dX10_digest_18 : decode cX10_digest 18 = .ok (.iload_n 3, 1) := by decide +kernel
theorem dX10_digest_19 : decode cX10_digest 19 = .ok (.invokevirtual 297, 3) := by decide +kernel
theorem dX10_digest_22 : decode cX10_digest 22 = .ok (.i2l, 1) := by decide +kernel
theorem dX10_digest_23 : decode cX10_digest 23 = .ok (.ladd, 1) := by decide +kernel
theorem dX10_digest_24 : decode cX10_digest 24 = .ok (.lstore_n 1, 1) := by decide +kernel
theorem dX10_digest_25 : decode cX10_digest 25 = .ok (.iinc 3 1, 3) := by decide +kernel
theorem dX10_digest_28 : decode cX10_digest 28 = .ok (.goto (-22), 3) := by decide +kernel
theorem dX10_digest_44 : decode cX10_digest 44 = .ok (.iload 4, 2) := by decide +kernel
theorem dX10_digest_46 : decode cX10_digest 46 = .ok (.iconst 4, 1) := by decide +kernel
theorem dX10_digest_47 : decode cX10_digest 47 = .ok (.if_icmp .ge 24, 3) := by decide +kernel
theorem dX10_digest_50 : decode cX10_digest 50 = .ok (.ldc2_w 295, 3) := by decide +kernel
theorem dX10_digest_53 : decode cX10_digest 53 = .ok (.lload_n 1, 1) := by decide +kernel
theorem dX10_digest_54 : decode cX10_digest 54 = .ok (.lmul, 1) := by decide +kernel
theorem dX10_digest_55 : decode cX10_digest 55 = .ok (.aload_n 0, 1) := by decide +kernel
theorem dX10_digest_56 : decode cX10_digest 56 = .ok (.iload_n 3, 1) := by decide +kernel
theorem dX10_digest_57 : decode cX10_digest 57 = .ok (.iload 4, 2) := by decide +kernel
theorem dX10_digest_59 : decode cX10_digest 59 = .ok (.invokevirtual 191, 3) := by decide +kernel
theorem dX10_digest_62 : decode cX10_digest 62 = .ok (.i2l, 1) := by decide +kernel
theorem dX10_digest_63 : decode cX10_digest 63 = .ok (.ladd, 1) := by decide +kernel
theorem dX10_digest_64 : decode cX10_digest 64 = .ok (.lstore_n 1, 1) := by decide +kernel
theorem dX10_digest_65 : decode cX10_digest 65 = .ok (.iinc 4 1, 3) := by decide +kernel
theorem dX10_digest_68 : decode cX10_digest 68 = .ok (.goto (-24), 3) := by decide +kernel
theorem dX10_digest_97 : decode cX10_digest 97 = .ok (.iload 6, 2) := by decide +kernel
theorem dX10_digest_99 : decode cX10_digest 99 = .ok (.aload_n 0, 1) := by decide +kernel
theorem dX10_digest_100 : decode cX10_digest 100 = .ok (.getfield 47, 3) := by decide +kernel
theorem dX10_digest_103 : decode cX10_digest 103 = .ok (.sipush 131, 3) := by decide +kernel
theorem dX10_digest_106 : decode cX10_digest 106 = .ok (.iload 4, 2) := by decide +kernel
theorem dX10_digest_108 : decode cX10_digest 108 = .ok (.imul, 1) := by decide +kernel
theorem dX10_digest_109 : decode cX10_digest 109 = .ok (.iload 5, 2) := by decide +kernel
theorem dX10_digest_111 : decode cX10_digest 111 = .ok (.iadd, 1) := by decide +kernel
theorem dX10_digest_112 : decode cX10_digest 112 = .ok (.iaload, 1) := by decide +kernel
theorem dX10_digest_113 : decode cX10_digest 113 = .ok (.if_icmp .ge 46, 3) := by decide +kernel
theorem dX10_digest_116 : decode cX10_digest 116 = .ok (.ldc2_w 295, 3) := by decide +kernel
theorem dX10_digest_119 : decode cX10_digest 119 = .ok (.lload_n 1, 1) := by decide +kernel
theorem dX10_digest_120 : decode cX10_digest 120 = .ok (.lmul, 1) := by decide +kernel
theorem dX10_digest_121 : decode cX10_digest 121 = .ok (.aload_n 0, 1) := by decide +kernel
theorem dX10_digest_122 : decode cX10_digest 122 = .ok (.getfield 38, 3) := by decide +kernel
theorem dX10_digest_125 : decode cX10_digest 125 = .ok (.sipush 1200, 3) := by decide +kernel
theorem dX10_digest_128 : decode cX10_digest 128 = .ok (.iload 4, 2) := by decide +kernel
theorem dX10_digest_130 : decode cX10_digest 130 = .ok (.imul, 1) := by decide +kernel
theorem dX10_digest_131 : decode cX10_digest 131 = .ok (.aload_n 0, 1) := by decide +kernel
theorem dX10_digest_132 : decode cX10_digest 132 = .ok (.getfield 44, 3) := by decide +kernel
theorem dX10_digest_135 : decode cX10_digest 135 = .ok (.sipush 131, 3) := by decide +kernel
theorem dX10_digest_138 : decode cX10_digest 138 = .ok (.iload 4, 2) := by decide +kernel
theorem dX10_digest_140 : decode cX10_digest 140 = .ok (.imul, 1) := by decide +kernel
theorem dX10_digest_141 : decode cX10_digest 141 = .ok (.iload 5, 2) := by decide +kernel
theorem dX10_digest_143 : decode cX10_digest 143 = .ok (.iadd, 1) := by decide +kernel
theorem dX10_digest_144 : decode cX10_digest 144 = .ok (.iaload, 1) := by decide +kernel
theorem dX10_digest_145 : decode cX10_digest 145 = .ok (.iadd, 1) := by decide +kernel
theorem dX10_digest_146 : decode cX10_digest 146 = .ok (.iload 6, 2) := by decide +kernel
theorem dX10_digest_148 : decode cX10_digest 148 = .ok (.iadd, 1) := by decide +kernel
theorem dX10_digest_149 : decode cX10_digest 149 = .ok (.baload, 1) := by decide +kernel
theorem dX10_digest_150 : decode cX10_digest 150 = .ok (.i2l, 1) := by decide +kernel
theorem dX10_digest_151 : decode cX10_digest 151 = .ok (.ladd, 1) := by decide +kernel
theorem dX10_digest_152 : decode cX10_digest 152 = .ok (.lstore_n 1, 1) := by decide +kernel
theorem dX10_digest_153 : decode cX10_digest 153 = .ok (.iinc 6 1, 3) := by decide +kernel
theorem dX10_digest_156 : decode cX10_digest 156 = .ok (.goto (-59), 3) := by decide +kernel
theorem dX10_digest_82 : decode cX10_digest 82 = .ok (.iload 5, 2) := by decide +kernel
theorem dX10_digest_84 : decode cX10_digest 84 = .ok (.aload_n 0, 1) := by decide +kernel
theorem dX10_digest_85 : decode cX10_digest 85 = .ok (.getfield 41, 3) := by decide +kernel
theorem dX10_digest_88 : decode cX10_digest 88 = .ok (.iload 4, 2) := by decide +kernel
theorem dX10_digest_90 : decode cX10_digest 90 = .ok (.iaload, 1) := by decide +kernel
theorem dX10_digest_91 : decode cX10_digest 91 = .ok (.if_icmp .ge 74, 3) := by decide +kernel
theorem dX10_digest_94 : decode cX10_digest 94 = .ok (.iconst 0, 1) := by decide +kernel
theorem dX10_digest_95 : decode cX10_digest 95 = .ok (.istore 6, 2) := by decide +kernel
theorem dX10_digest_159 : decode cX10_digest 159 = .ok (.iinc 5 1, 3) := by decide +kernel
theorem dX10_digest_162 : decode cX10_digest 162 = .ok (.goto (-80), 3) := by decide +kernel
theorem dX10_digest_33 : decode cX10_digest 33 = .ok (.iload_n 3, 1) := by decide +kernel
theorem dX10_digest_34 : decode cX10_digest 34 = .ok (.aload_n 0, 1) := by decide +kernel
theorem dX10_digest_35 : decode cX10_digest 35 = .ok (.getfield 144, 3) := by decide +kernel
theorem dX10_digest_38 : decode cX10_digest 38 = .ok (.if_icmp .ge 133, 3) := by decide +kernel
theorem dX10_digest_41 : decode cX10_digest 41 = .ok (.iconst 0, 1) := by decide +kernel
theorem dX10_digest_42 : decode cX10_digest 42 = .ok (.istore 4, 2) := by decide +kernel
theorem dX10_digest_71 : decode cX10_digest 71 = .ok (.aload_n 0, 1) := by decide +kernel
theorem dX10_digest_72 : decode cX10_digest 72 = .ok (.getfield 17, 3) := by decide +kernel
theorem dX10_digest_75 : decode cX10_digest 75 = .ok (.iload_n 3, 1) := by decide +kernel
theorem dX10_digest_76 : decode cX10_digest 76 = .ok (.iaload, 1) := by decide +kernel
theorem dX10_digest_77 : decode cX10_digest 77 = .ok (.istore 4, 2) := by decide +kernel
theorem dX10_digest_79 : decode cX10_digest 79 = .ok (.iconst 0, 1) := by decide +kernel
theorem dX10_digest_80 : decode cX10_digest 80 = .ok (.istore 5, 2) := by decide +kernel
theorem dX10_digest_165 : decode cX10_digest 165 = .ok (.iinc 3 1, 3) := by decide +kernel
theorem dX10_digest_168 : decode cX10_digest 168 = .ok (.goto (-135), 3) := by decide +kernel
theorem dX10_digest_232 : decode cX10_digest 232 = .ok (.iload 5, 2) := by decide +kernel
theorem dX10_digest_234 : decode cX10_digest 234 = .ok (.iload 4, 2) := by decide +kernel
theorem dX10_digest_236 : decode cX10_digest 236 = .ok (.if_icmp .ge 39, 3) := by decide +kernel
theorem dX10_digest_239 : decode cX10_digest 239 = .ok (.ldc2_w 295, 3) := by decide +kernel
theorem dX10_digest_242 : decode cX10_digest 242 = .ok (.ldc2_w 295, 3) := by decide +kernel
theorem dX10_digest_245 : decode cX10_digest 245 = .ok (.lload_n 1, 1) := by decide +kernel
theorem dX10_digest_246 : decode cX10_digest 246 = .ok (.lmul, 1) := by decide +kernel
theorem dX10_digest_247 : decode cX10_digest 247 = .ok (.aload_n 0, 1) := by decide +kernel
theorem dX10_digest_248 : decode cX10_digest 248 = .ok (.iload_n 3, 1) := by decide +kernel
theorem dX10_digest_249 : decode cX10_digest 249 = .ok (.iload 5, 2) := by decide +kernel
theorem dX10_digest_251 : decode cX10_digest 251 = .ok (.iconst 0, 1) := by decide +kernel
theorem dX10_digest_252 : decode cX10_digest 252 = .ok (.invokevirtual 259, 3) := by decide +kernel
theorem dX10_digest_255 : decode cX10_digest 255 = .ok (.i2l, 1) := by decide +kernel
theorem dX10_digest_256 : decode cX10_digest 256 = .ok (.ladd, 1) := by decide +kernel
theorem dX10_digest_257 : decode cX10_digest 257 = .ok (.lmul, 1) := by decide +kernel
theorem dX10_digest_258 : decode cX10_digest 258 = .ok (.aload_n 0, 1) := by decide +kernel
theorem dX10_digest_259 : decode cX10_digest 259 = .ok (.iload_n 3, 1) := by decide +kernel
theorem dX10_digest_260 : decode cX10_digest 260 = .ok (.iload 5, 2) := by decide +kernel
theorem dX10_digest_262 : decode cX10_digest 262 = .ok (.iconst 1, 1) := by decide +kernel
theorem dX10_digest_263 : decode cX10_digest 263 = .ok (.invokevirtual 259, 3) := by decide +kernel
theorem dX10_digest_266 : decode cX10_digest 266 = .ok (.i2l, 1) := by decide +kernel
theorem dX10_digest_267 : decode cX10_digest 267 = .ok (.ladd, 1) := by decide +kernel
theorem dX10_digest_268 : decode cX10_digest 268 = .ok (.lstore_n 1, 1) := by decide +kernel
theorem dX10_digest_269 : decode cX10_digest 269 = .ok (.iinc 5 1, 3) := by decide +kernel
theorem dX10_digest_272 : decode cX10_digest 272 = .ok (.goto (-40), 3) := by decide +kernel
theorem dX10_digest_204 : decode cX10_digest 204 = .ok (.iload_n 3, 1) := by decide +kernel
theorem dX10_digest_205 : decode cX10_digest 205 = .ok (.aload_n 0, 1) := by decide +kernel
theorem dX10_digest_206 : decode cX10_digest 206 = .ok (.getfield 234, 3) := by decide +kernel
theorem dX10_digest_209 : decode cX10_digest 209 = .ok (.if_icmp .ge 72, 3) := by decide +kernel
theorem dX10_digest_212 : decode cX10_digest 212 = .ok (.aload_n 0, 1) := by decide +kernel
theorem dX10_digest_213 : decode cX10_digest 213 = .ok (.iload_n 3, 1) := by decide +kernel
theorem dX10_digest_214 : decode cX10_digest 214 = .ok (.invokevirtual 247, 3) := by decide +kernel
theorem dX10_digest_217 : decode cX10_digest 217 = .ok (.istore 4, 2) := by decide +kernel
theorem dX10_digest_219 : decode cX10_digest 219 = .ok (.ldc2_w 295, 3) := by decide +kernel
theorem dX10_digest_222 : decode cX10_digest 222 = .ok (.lload_n 1, 1) := by decide +kernel
theorem dX10_digest_223 : decode cX10_digest 223 = .ok (.lmul, 1) := by decide +kernel
theorem dX10_digest_224 : decode cX10_digest 224 = .ok (.iload 4, 2) := by decide +kernel
theorem dX10_digest_226 : decode cX10_digest 226 = .ok (.i2l, 1) := by decide +kernel
theorem dX10_digest_227 : decode cX10_digest 227 = .ok (.ladd, 1) := by decide +kernel
theorem dX10_digest_228 : decode cX10_digest 228 = .ok (.lstore_n 1, 1) := by decide +kernel
theorem dX10_digest_229 : decode cX10_digest 229 = .ok (.iconst 0, 1) := by decide +kernel
theorem dX10_digest_230 : decode cX10_digest 230 = .ok (.istore 5, 2) := by decide +kernel
theorem dX10_digest_275 : decode cX10_digest 275 = .ok (.iinc 3 1, 3) := by decide +kernel
theorem dX10_digest_278 : decode cX10_digest 278 = .ok (.goto (-74), 3) := by decide +kernel
theorem dX10_digest_0 : decode cX10_digest 0 = .ok (.ldc2_w 293, 3) := by decide +kernel
theorem dX10_digest_3 : decode cX10_digest 3 = .ok (.lstore_n 1, 1) := by decide +kernel
theorem dX10_digest_4 : decode cX10_digest 4 = .ok (.iconst 0, 1) := by decide +kernel
theorem dX10_digest_5 : decode cX10_digest 5 = .ok (.istore_n 3, 1) := by decide +kernel
theorem dX10_digest_31 : decode cX10_digest 31 = .ok (.iconst 0, 1) := by decide +kernel
theorem dX10_digest_32 : decode cX10_digest 32 = .ok (.istore_n 3, 1) := by decide +kernel
theorem dX10_digest_171 : decode cX10_digest 171 = .ok (.ldc2_w 295, 3) := by decide +kernel
theorem dX10_digest_174 : decode cX10_digest 174 = .ok (.lload_n 1, 1) := by decide +kernel
theorem dX10_digest_175 : decode cX10_digest 175 = .ok (.lmul, 1) := by decide +kernel
theorem dX10_digest_176 : decode cX10_digest 176 = .ok (.aload_n 0, 1) := by decide +kernel
theorem dX10_digest_177 : decode cX10_digest 177 = .ok (.invokevirtual 300, 3) := by decide +kernel
theorem dX10_digest_180 : decode cX10_digest 180 = .ok (.i2l, 1) := by decide +kernel
theorem dX10_digest_181 : decode cX10_digest 181 = .ok (.ladd, 1) := by decide +kernel
theorem dX10_digest_182 : decode cX10_digest 182 = .ok (.lstore_n 1, 1) := by decide +kernel
theorem dX10_digest_183 : decode cX10_digest 183 = .ok (.aload_n 0, 1) := by decide +kernel
theorem dX10_digest_184 : decode cX10_digest 184 = .ok (.getfield 170, 3) := by decide +kernel
theorem dX10_digest_187 : decode cX10_digest 187 = .ok (.ifCond .ne 15, 3) := by decide +kernel
theorem dX10_digest_202 : decode cX10_digest 202 = .ok (.iconst 0, 1) := by decide +kernel
theorem dX10_digest_203 : decode cX10_digest 203 = .ok (.istore_n 3, 1) := by decide +kernel
theorem dX10_digest_281 : decode cX10_digest 281 = .ok (.lload_n 1, 1) := by decide +kernel
theorem dX10_digest_282 : decode cX10_digest 282 = .ok (.lreturn, 1) := by decide +kernel
theorem dX10_digest_190 : decode cX10_digest 190 = .ok (.ldc2_w 295, 3) := by decide +kernel
theorem dX10_digest_193 : decode cX10_digest 193 = .ok (.lload_n 1, 1) := by decide +kernel
theorem dX10_digest_194 : decode cX10_digest 194 = .ok (.lmul, 1) := by decide +kernel
theorem dX10_digest_195 : decode cX10_digest 195 = .ok (.aload_n 0, 1) := by decide +kernel
theorem dX10_digest_196 : decode cX10_digest 196 = .ok (.getfield 231, 3) := by decide +kernel
theorem dX10_digest_199 : decode cX10_digest 199 = .ok (.i2l, 1) := by decide +kernel
theorem dX10_digest_200 : decode cX10_digest 200 = .ok (.ladd, 1) := by decide +kernel
theorem dX10_digest_201 : decode cX10_digest 201 = .ok (.lreturn, 1) := by decide +kernel
set_option maxHeartbeats 1000000 in
set_option maxRecDepth 100000 in
theorem ldg_a {p : Program} {l : Launch} {e : Env} {R : Room} {s : State} {m : MethodId} {args : Array Value} {below : List Frame} {meth : Method} {c : Code} {cells slots : Nat} {Q : State → Prop} {D : va_G} {A : Nat → Prop} {h0 : Nat} {q : Nat → Nat} {cB cI cZ : ClassId} {I : Nat → Int32} {F : Nat → Nat → Int32} {Es : List E5} {sl : Nat → Nat} (hI3 : I 3 = nI Es.length) (hre : reR F Es sl) (hRf : 1 ≤ R.frames) (hRl : 40 ≤ R.locals) (hRc : cells ≤ R.cells) (hRs : slots ≤ R.slots) (hA : ∀ q : Nat, s.heap.size ≤ q → A q) (hf : CallFix p m c cX10_digest 7 s args gT yX10_digest.cls) (hK : va_K D vcl (mT cB cI cZ) s) :
    ∀ (k : Nat) (i : Nat) (hh : Int64) (H : Heap) (locs : List Loc) (ls : Array Slot), i + k = 6 →  va_P D vcl (mW h0 q cB cI cZ I F) H → va_D A (mW h0 q cB cI cZ I F) → va_S A s.heap H locs → lv_has ls 7 [(3, .int (nI i)), (1, .long hh), (0, .ref h0)] →
    (∀ (hh : Int64) (H : Heap) (locs : List Loc) (ls : Array Slot), va_P D vcl (mW h0 q cB cI cZ I F) H → va_D A (mW h0 q cB cI cZ I F) → va_S A s.heap H locs → lv_has ls 7 [(1, .long hh), (0, .ref h0)] → W p l e R s m args below meth c H locs cells slots Q (F0 m 31 ls [])) →
    W p l e R s m args below meth c H locs cells slots Q (F0 m 6 ls []) := by
  obtain ⟨hx, hb, hml, hown, hts⟩ := id hf
  have hre1 := hre.1
  intro k
  induction k with
  | zero =>
    intro i hh H locs ls hik hP hD hS hl kk
    refine lv_iload_n hx hb dX10_digest_6 rfl (lv_at hl 0 rfl) ?_
    refine lv_bipush (v := 6) hx hb dX10_digest_7 (by decide) ?_
    refine lv_icmp_ge (tgt := 31) hx hb dX10_digest_9 (by decide) (fun c_1 => ?_) (fun c_1 => ?_)
    · have c_1 := q_le (a := 6) (b := i) (by omega) (by omega) c_1
      exact kk hh  H locs ls hP hD hS (lv_sub hl (l' := [(1, .long hh), (0, .ref h0)]) [1, 2] rfl)
    · have c_1 := q_nle (a := 6) (b := i) (by omega) (by omega) c_1
      exact absurd hik (by omega)
  | succ k ih =>
    intro i hh H locs ls hik hP hD hS hl kk
    refine lv_iload_n hx hb dX10_digest_6 rfl (lv_at hl 0 rfl) ?_
    refine lv_bipush (v := 6) hx hb dX10_digest_7 (by decide) ?_
    refine lv_icmp_ge (tgt := 31) hx hb dX10_digest_9 (by decide) (fun c_1 => ?_) (fun c_1 => ?_)
    · have c_1 := q_le (a := 6) (b := i) (by omega) (by omega) c_1
      exact absurd hik (by omega)
    · have c_1 := q_nle (a := 6) (b := i) (by omega) (by omega) c_1
      refine lv_ldc2 (v := 31) hx hb hown (hts _ k_1534) dX10_digest_12 ?_
      refine lv_lload_n hx hb dX10_digest_15 rfl (lv_at hl 1 rfl) ?_
      refine lv_lmul hx hb dX10_digest_16 ?_
      refine lv_aload_n hx hb dX10_digest_17 rfl (lv_at hl 2 rfl) ?_
      refine lv_iload_n hx hb dX10_digest_18 rfl (lv_at hl 0 rfl) ?_
      refine q_ci (k := cells) (n := slots) hK hP hD hS hA (fun hPc hKc hDc => q_rV (As := [.int (nI i)]) (rest := [.long (31 * hh)]) hf (rm_count _ D h0 q cB cI cZ I F Es sl (nI i) hI3 hre _) k_1528 k_1535 k_1526 k_1527 k_98 (nA := 1) (by decide +kernel) ⟨Nat.le_trans (by decide) hRf, Nat.le_trans (by decide) hRl⟩ hK hP (ci := 11) (q0 := 0) rfl rfl rfl hPc hKc hDc (fun _ _ _ _ h => h) (fun _ _ _ => trivial) rfl hl.1 rfl (Nat.le_of_ble_eq_true rfl) dX10_digest_19 ⟨hRc, hRs⟩) (Nat.le_refl _) (Nat.le_refl _) (fun r u H locs hw hK hP hD hS => ?_)
      obtain rfl := hw
      have hP : va_P D vcl (mW h0 q cB cI cZ I F) H := hP
      have hD : va_D A (mW h0 q cB cI cZ I F) := hD
      refine lv_i2l (v := (r).toInt64) hx hb dX10_digest_22 rfl ?_
      refine lv_ladd hx hb dX10_digest_23 ?_
      refine lv_lstore_n (lv' := [(1, .long ((31 * hh) + (r).toInt64)), (3, .int (nI i)), (0, .ref h0)]) hx hb dX10_digest_24 rfl hl (by decide) rfl (fun ls hl => ?_)
      refine lv_iinc (v := (nI (i + 1))) (lv' := [(3, .int (nI (i + 1))), (1, .long ((31 * hh) + (r).toInt64)), (0, .ref h0)]) hx hb dX10_digest_25 hl (k := 1) rfl (nI_add i 1) (by decide) rfl (fun ls hl => ?_)
      refine lv_goto (tgt := 6) hx hb dX10_digest_28 (by decide) ?_
      exact ih (i + 1) _  H locs ls (by omega) hP hD hS (lv_sub hl (l' := [(3, .int (nI (i + 1))), (1, .long ((31 * hh) + (r).toInt64)), (0, .ref h0)]) [0, 1, 2] rfl) kk
set_option maxHeartbeats 1000000 in
set_option maxRecDepth 100000 in
theorem ldg_c {p : Program} {l : Launch} {e : Env} {R : Room} {s : State} {m : MethodId} {args : Array Value} {below : List Frame} {meth : Method} {c : Code} {cells slots : Nat} {Q : State → Prop} {D : va_G} {A : Nat → Prop} {h0 : Nat} {q : Nat → Nat} {cB cI cZ : ClassId} {I : Nat → Int32} {F : Nat → Nat → Int32} {Es : List E5} {sl : Nat → Nat} {j : Nat} (hI3 : I 3 = nI Es.length) (hre : reR F Es sl) (hj : j < Es.length) (hRf : 1 ≤ R.frames) (hRl : 40 ≤ R.locals) (hRc : cells ≤ R.cells) (hRs : slots ≤ R.slots) (hA : ∀ q : Nat, s.heap.size ≤ q → A q) (hf : CallFix p m c cX10_digest 7 s args gT yX10_digest.cls) (hK : va_K D vcl (mT cB cI cZ) s) :
    ∀ (k : Nat) (i : Nat) (hh : Int64) (H : Heap) (locs : List Loc) (ls : Array Slot), i + k = 4 →  va_P D vcl (mW h0 q cB cI cZ I F) H → va_D A (mW h0 q cB cI cZ I F) → va_S A s.heap H locs → lv_has ls 7 [(4, .int (nI i)), (3, .int (nI j)), (1, .long hh), (0, .ref h0)] →
    (∀ (hh : Int64) (H : Heap) (locs : List Loc) (ls : Array Slot), va_P D vcl (mW h0 q cB cI cZ I F) H → va_D A (mW h0 q cB cI cZ I F) → va_S A s.heap H locs → lv_has ls 7 [(3, .int (nI j)), (1, .long hh), (0, .ref h0)] → W p l e R s m args below meth c H locs cells slots Q (F0 m 71 ls [])) →
    W p l e R s m args below meth c H locs cells slots Q (F0 m 44 ls []) := by
  obtain ⟨hx, hb, hml, hown, hts⟩ := id hf
  have hre1 := hre.1
  intro k
  induction k with
  | zero =>
    intro i hh H locs ls hik hP hD hS hl kk
    refine lv_iload hx hb dX10_digest_44 (lv_at hl 0 rfl) ?_
    refine lv_iconst (v := 4) hx hb dX10_digest_46 (by decide) ?_
    refine lv_icmp_ge (tgt := 71) hx hb dX10_digest_47 (by decide) (fun c_1 => ?_) (fun c_1 => ?_)
    · have c_1 := q_le (a := 4) (b := i) (by omega) (by omega) c_1
      exact kk hh  H locs ls hP hD hS (lv_sub hl (l' := [(3, .int (nI j)), (1, .long hh), (0, .ref h0)]) [1, 2, 3] rfl)
    · have c_1 := q_nle (a := 4) (b := i) (by omega) (by omega) c_1
      exact absurd hik (by omega)
  | succ k ih =>
    intro i hh H locs ls hik hP hD hS hl kk
    refine lv_iload hx hb dX10_digest_44 (lv_at hl 0 rfl) ?_
    refine lv_iconst (v := 4) hx hb dX10_digest_46 (by decide) ?_
    refine lv_icmp_ge (tgt := 71) hx hb dX10_digest_47 (by decide) (fun c_1 => ?_) (fun c_1 => ?_)
    · have c_1 := q_le (a := 4) (b := i) (by omega) (by omega) c_1
      exact absurd hik (by omega)
    · have c_1 := q_nle (a := 4) (b := i) (by omega) (by omega) c_1
      refine lv_ldc2 (v := 31) hx hb hown (hts _ k_1534) dX10_digest_50 ?_
      refine lv_lload_n hx hb dX10_digest_53 rfl (lv_at hl 2 rfl) ?_
      refine lv_lmul hx hb dX10_digest_54 ?_
      refine lv_aload_n hx hb dX10_digest_55 rfl (lv_at hl 3 rfl) ?_
      refine lv_iload_n hx hb dX10_digest_56 rfl (lv_at hl 1 rfl) ?_
      refine lv_iload hx hb dX10_digest_57 (lv_at hl 0 rfl) ?_
      refine q_ci (k := cells) (n := slots) hK hP hD hS hA (fun hPc hKc hDc => q_rV (As := [.int (nI j), .int (nI i)]) (rest := [.long (31 * hh)]) hf (r_elementOf _ D h0 q cB cI cZ I F Es sl j (nI i) hI3 hre (by omega) _) k_1375 k_1372 k_1374 k_60 k_98 (nA := 2) (by decide +kernel) ⟨Nat.le_trans (by decide) hRf, Nat.le_trans (by decide) hRl⟩ hK hP (ci := 11) (q0 := 0) rfl rfl rfl hPc hKc hDc (fun _ _ _ _ h => h) (fun _ _ _ => trivial) rfl hl.1 rfl (Nat.le_of_ble_eq_true rfl) dX10_digest_59 ⟨hRc, hRs⟩) (Nat.le_refl _) (Nat.le_refl _) (fun r u H locs hw hK hP hD hS => ?_)
      obtain rfl := hw
      have hP : va_P D vcl (mW h0 q cB cI cZ I F) H := hP
      have hD : va_D A (mW h0 q cB cI cZ I F) := hD
      refine lv_i2l (v := (r).toInt64) hx hb dX10_digest_62 rfl ?_
      refine lv_ladd hx hb dX10_digest_63 ?_
      refine lv_lstore_n (lv' := [(1, .long ((31 * hh) + (r).toInt64)), (4, .int (nI i)), (3, .int (nI j)), (0, .ref h0)]) hx hb dX10_digest_64 rfl hl (by decide) rfl (fun ls hl => ?_)
      refine lv_iinc (v := (nI (i + 1))) (lv' := [(4, .int (nI (i + 1))), (1, .long ((31 * hh) + (r).toInt64)), (3, .int (nI j)), (0, .ref h0)]) hx hb dX10_digest_65 hl (k := 1) rfl (nI_add i 1) (by decide) rfl (fun ls hl => ?_)
      refine lv_goto (tgt := 44) hx hb dX10_digest_68 (by decide) ?_
      exact ih (i + 1) _  H locs ls (by omega) hP hD hS (lv_sub hl (l' := [(4, .int (nI (i + 1))), (3, .int (nI j)), (1, .long ((31 * hh) + (r).toInt64)), (0, .ref h0)]) [0, 2, 1, 3] rfl) kk
set_option maxHeartbeats 1000000 in
set_option maxRecDepth 100000 in
theorem ldg_e {p : Program} {l : Launch} {e : Env} {R : Room} {s : State} {m : MethodId} {args : Array Value} {below : List Frame} {meth : Method} {c : Code} {cells slots : Nat} {Q : State → Prop} {D : va_G} {A : Nat → Prop} {h0 : Nat} {q : Nat → Nat} {cB cI cZ : ClassId} {I : Nat → Int32} {F : Nat → Nat → Int32} {Es : List E5} {sl : Nat → Nat} {j r1 : Nat} (hI3 : I 3 = nI Es.length) (hre : reR F Es sl) (hj : j < Es.length) (hr1 : r1 < eRw (Es.getD j dE)) (hRf : 1 ≤ R.frames) (hRl : 40 ≤ R.locals) (hRc : cells ≤ R.cells) (hRs : slots ≤ R.slots) (hA : ∀ q : Nat, s.heap.size ≤ q → A q) (hf : CallFix p m c cX10_digest 7 s args gT yX10_digest.cls) (hK : va_K D vcl (mT cB cI cZ) s) :
    ∀ (k : Nat) (i : Nat) (hh : Int64) (H : Heap) (locs : List Loc) (ls : Array Slot), i + k = (rwAt (Es.getD j dE) r1).2 →  va_P D vcl (mW h0 q cB cI cZ I F) H → va_D A (mW h0 q cB cI cZ I F) → va_S A s.heap H locs → lv_has ls 7 [(6, .int (nI i)), (5, .int (nI r1)), (4, .int (nI ((sl j)))), (3, .int (nI j)), (1, .long hh), (0, .ref h0)] →
    (∀ (hh : Int64) (H : Heap) (locs : List Loc) (ls : Array Slot), va_P D vcl (mW h0 q cB cI cZ I F) H → va_D A (mW h0 q cB cI cZ I F) → va_S A s.heap H locs → lv_has ls 7 [(5, .int (nI r1)), (4, .int (nI ((sl j)))), (3, .int (nI j)), (1, .long hh), (0, .ref h0)] → W p l e R s m args below meth c H locs cells slots Q (F0 m 159 ls [])) →
    W p l e R s m args below meth c H locs cells slots Q (F0 m 97 ls []) := by
  obtain ⟨hx, hb, hml, hown, hts⟩ := id hf
  have hre1 := hre.1
  have hslj := (hre.2.1 j hj).2.1
  have hrwj := elF_rw (hre.2.1 j hj).2.2
  have htl := (hre.2.1 j hj).2.2.2.2.2.2.2.1
  have hrin := rwAt_in (x := Es.getD j dE) hr1
  intro k
  induction k with
  | zero =>
    intro i hh H locs ls hik hP hD hS hl kk
    refine lv_iload hx hb dX10_digest_97 (lv_at hl 0 rfl) ?_
    refine lv_aload_n hx hb dX10_digest_99 rfl (lv_at hl 5 rfl) ?_
    refine va_get (D := D) (ci := 11) (v := .ref (q 13)) (C := RX10) (T := TX10) (N := 48) hx hb hts inX10 hown hK hP 0 rfl rfl 13 (by decide) (hts _ k_1157) (fun _ h9 => h9) rfl dX10_digest_100 ?_
    refine lv_sipush (v := 131) hx hb dX10_digest_103 (by decide) ?_
    refine lv_iload hx hb dX10_digest_106 (lv_at hl 2 rfl) ?_
    refine lv_imul hx hb dX10_digest_108 ?_
    refine q_seti (y := nI (131 * ((sl j)))) (pk_mul 131 ((sl j))) ?_
    refine lv_iload hx hb dX10_digest_109 (lv_at hl 1 rfl) ?_
    refine lv_iadd hx hb dX10_digest_111 ?_
    refine q_seti (y := nI ((131 * ((sl j))) + r1)) (nI_add (131 * ((sl j))) r1) ?_
    refine q_ild (X := (131 * ((sl j))) + r1) (f := (F 13)) hx hb hK hP 11 1 rfl rfl (by omega) (by decide) dX10_digest_112 ?_
    refine q_seti (y := (nI ((rwAt (Es.getD j dE) r1).2))) (tx_rv_at (hre.2.1 j hj).2.2.2.2.2.2.2.2.2.2.1 r1 hr1).2 ?_
    refine lv_icmp_ge (tgt := 159) hx hb dX10_digest_113 (by decide) (fun c_1 => ?_) (fun c_1 => ?_)
    · have c_1 := q_le (a := (rwAt (Es.getD j dE) r1).2) (b := i) (by omega) (by omega) c_1
      exact kk hh  H locs ls hP hD hS (lv_sub hl (l' := [(5, .int (nI r1)), (4, .int (nI ((sl j)))), (3, .int (nI j)), (1, .long hh), (0, .ref h0)]) [1, 2, 3, 4, 5] rfl)
    · have c_1 := q_nle (a := (rwAt (Es.getD j dE) r1).2) (b := i) (by omega) (by omega) c_1
      exact absurd hik (by omega)
  | succ k ih =>
    intro i hh H locs ls hik hP hD hS hl kk
    refine lv_iload hx hb dX10_digest_97 (lv_at hl 0 rfl) ?_
    refine lv_aload_n hx hb dX10_digest_99 rfl (lv_at hl 5 rfl) ?_
    refine va_get (D := D) (ci := 11) (v := .ref (q 13)) (C := RX10) (T := TX10) (N := 48) hx hb hts inX10 hown hK hP 0 rfl rfl 13 (by decide) (hts _ k_1157) (fun _ h9 => h9) rfl dX10_digest_100 ?_
    refine lv_sipush (v := 131) hx hb dX10_digest_103 (by decide) ?_
    refine lv_iload hx hb dX10_digest_106 (lv_at hl 2 rfl) ?_
    refine lv_imul hx hb dX10_digest_108 ?_
    refine q_seti (y := nI (131 * ((sl j)))) (pk_mul 131 ((sl j))) ?_
    refine lv_iload hx hb dX10_digest_109 (lv_at hl 1 rfl) ?_
    refine lv_iadd hx hb dX10_digest_111 ?_
    refine q_seti (y := nI ((131 * ((sl j))) + r1)) (nI_add (131 * ((sl j))) r1) ?_
    refine q_ild (X := (131 * ((sl j))) + r1) (f := (F 13)) hx hb hK hP 11 1 rfl rfl (by omega) (by decide) dX10_digest_112 ?_
    refine q_seti (y := (nI ((rwAt (Es.getD j dE) r1).2))) (tx_rv_at (hre.2.1 j hj).2.2.2.2.2.2.2.2.2.2.1 r1 hr1).2 ?_
    refine lv_icmp_ge (tgt := 159) hx hb dX10_digest_113 (by decide) (fun c_1 => ?_) (fun c_1 => ?_)
    · have c_1 := q_le (a := (rwAt (Es.getD j dE) r1).2) (b := i) (by omega) (by omega) c_1
      exact absurd hik (by omega)
    · have c_1 := q_nle (a := (rwAt (Es.getD j dE) r1).2) (b := i) (by omega) (by omega) c_1
      refine lv_ldc2 (v := 31) hx hb hown (hts _ k_1534) dX10_digest_116 ?_
      refine lv_lload_n hx hb dX10_digest_119 rfl (lv_at hl 4 rfl) ?_
      refine lv_lmul hx hb dX10_digest_120 ?_
      refine lv_aload_n hx hb dX10_digest_121 rfl (lv_at hl 5 rfl) ?_
      refine va_get (D := D) (ci := 11) (v := .ref (q 10)) (C := RX10) (T := TX10) (N := 48) hx hb hts inX10 hown hK hP 0 rfl rfl 10 (by decide) (hts _ k_1154) (fun _ h9 => h9) rfl dX10_digest_122 ?_
      refine lv_sipush (v := 1200) hx hb dX10_digest_125 (by decide) ?_
      refine lv_iload hx hb dX10_digest_128 (lv_at hl 2 rfl) ?_
      refine lv_imul hx hb dX10_digest_130 ?_
      refine q_seti (y := nI (1200 * ((sl j)))) (pk_mul 1200 ((sl j))) ?_
      refine lv_aload_n hx hb dX10_digest_131 rfl (lv_at hl 5 rfl) ?_
      refine va_get (D := D) (ci := 11) (v := .ref (q 12)) (C := RX10) (T := TX10) (N := 48) hx hb hts inX10 hown hK hP 0 rfl rfl 12 (by decide) (hts _ k_1156) (fun _ h9 => h9) rfl dX10_digest_132 ?_
      refine lv_sipush (v := 131) hx hb dX10_digest_135 (by decide) ?_
      refine lv_iload hx hb dX10_digest_138 (lv_at hl 2 rfl) ?_
      refine lv_imul hx hb dX10_digest_140 ?_
      refine q_seti (y := nI (131 * ((sl j)))) (pk_mul 131 ((sl j))) ?_
      refine lv_iload hx hb dX10_digest_141 (lv_at hl 1 rfl) ?_
      refine lv_iadd hx hb dX10_digest_143 ?_
      refine q_seti (y := nI ((131 * ((sl j))) + r1)) (nI_add (131 * ((sl j))) r1) ?_
      refine q_ild (X := (131 * ((sl j))) + r1) (f := (F 12)) hx hb hK hP 10 1 rfl rfl (by omega) (by decide) dX10_digest_144 ?_
      refine q_seti (y := (nI ((rwAt (Es.getD j dE) r1).1))) (tx_rv_at (hre.2.1 j hj).2.2.2.2.2.2.2.2.2.2.1 r1 hr1).1 ?_
      refine lv_iadd hx hb dX10_digest_145 ?_
      refine q_seti (y := nI ((1200 * ((sl j))) + ((rwAt (Es.getD j dE) r1).1))) (nI_add (1200 * ((sl j))) ((rwAt (Es.getD j dE) r1).1)) ?_
      refine lv_iload hx hb dX10_digest_146 (lv_at hl 0 rfl) ?_
      refine lv_iadd hx hb dX10_digest_148 ?_
      refine q_seti (y := nI (((1200 * ((sl j))) + ((rwAt (Es.getD j dE) r1).1)) + i)) (nI_add ((1200 * ((sl j))) + ((rwAt (Es.getD j dE) r1).1)) i) ?_
      refine q_bld (X := ((1200 * ((sl j))) + ((rwAt (Es.getD j dE) r1).1)) + i) (f := (F 10)) hx hb hK hP 8 0 rfl rfl (by omega) (by decide) dX10_digest_149 ?_
      refine lv_i2l (v := (((F 10) (((1200 * ((sl j))) + ((rwAt (Es.getD j dE) r1).1)) + i))).toInt64) hx hb dX10_digest_150 rfl ?_
      refine lv_ladd hx hb dX10_digest_151 ?_
      refine lv_lstore_n (lv' := [(1, .long ((31 * hh) + (((F 10) (((1200 * ((sl j))) + ((rwAt (Es.getD j dE) r1).1)) + i))).toInt64)), (6, .int (nI i)), (5, .int (nI r1)), (4, .int (nI ((sl j)))), (3, .int (nI j)), (0, .ref h0)]) hx hb dX10_digest_152 rfl hl (by decide) rfl (fun ls hl => ?_)
      refine lv_iinc (v := (nI (i + 1))) (lv' := [(6, .int (nI (i + 1))), (1, .long ((31 * hh) + (((F 10) (((1200 * ((sl j))) + ((rwAt (Es.getD j dE) r1).1)) + i))).toInt64)), (5, .int (nI r1)), (4, .int (nI ((sl j)))), (3, .int (nI j)), (0, .ref h0)]) hx hb dX10_digest_153 hl (k := 1) rfl (nI_add i 1) (by decide) rfl (fun ls hl => ?_)
      refine lv_goto (tgt := 97) hx hb dX10_digest_156 (by decide) ?_
      exact ih (i + 1) _  H locs ls (by omega) hP hD hS (lv_sub hl (l' := [(6, .int (nI (i + 1))), (5, .int (nI r1)), (4, .int (nI ((sl j)))), (3, .int (nI j)), (1, .long ((31 * hh) + (((F 10) (((1200 * ((sl j))) + ((rwAt (Es.getD j dE) r1).1)) + i))).toInt64)), (0, .ref h0)]) [0, 2, 3, 4, 1, 5] rfl) kk
set_option maxHeartbeats 1000000 in
set_option maxRecDepth 100000 in
theorem ldg_d {p : Program} {l : Launch} {e : Env} {R : Room} {s : State} {m : MethodId} {args : Array Value} {below : List Frame} {meth : Method} {c : Code} {cells slots : Nat} {Q : State → Prop} {D : va_G} {A : Nat → Prop} {h0 : Nat} {q : Nat → Nat} {cB cI cZ : ClassId} {I : Nat → Int32} {F : Nat → Nat → Int32} {Es : List E5} {sl : Nat → Nat} {j : Nat} (hI3 : I 3 = nI Es.length) (hre : reR F Es sl) (hj : j < Es.length) (hRf : 1 ≤ R.frames) (hRl : 40 ≤ R.locals) (hRc : cells ≤ R.cells) (hRs : slots ≤ R.slots) (hA : ∀ q : Nat, s.heap.size ≤ q → A q) (hf : CallFix p m c cX10_digest 7 s args gT yX10_digest.cls) (hK : va_K D vcl (mT cB cI cZ) s) :
    ∀ (k : Nat) (r1 : Nat) (hh : Int64) (H : Heap) (locs : List Loc) (ls : Array Slot), r1 + k = eRw (Es.getD j dE) →  va_P D vcl (mW h0 q cB cI cZ I F) H → va_D A (mW h0 q cB cI cZ I F) → va_S A s.heap H locs → lv_has ls 7 [(5, .int (nI r1)), (4, .int (nI ((sl j)))), (3, .int (nI j)), (1, .long hh), (0, .ref h0)] →
    (∀ (hh : Int64) (H : Heap) (locs : List Loc) (ls : Array Slot), va_P D vcl (mW h0 q cB cI cZ I F) H → va_D A (mW h0 q cB cI cZ I F) → va_S A s.heap H locs → lv_has ls 7 [(3, .int (nI j)), (1, .long hh), (0, .ref h0)] → W p l e R s m args below meth c H locs cells slots Q (F0 m 165 ls [])) →
    W p l e R s m args below meth c H locs cells slots Q (F0 m 82 ls []) := by
  obtain ⟨hx, hb, hml, hown, hts⟩ := id hf
  have hre1 := hre.1
  have hslj := (hre.2.1 j hj).2.1
  have hrwj := elF_rw (hre.2.1 j hj).2.2
  have htl := (hre.2.1 j hj).2.2.2.2.2.2.2.1
  intro k
  induction k with
  | zero =>
    intro r1 hh H locs ls hik hP hD hS hl kk
    refine lv_iload hx hb dX10_digest_82 (lv_at hl 0 rfl) ?_
    refine lv_aload_n hx hb dX10_digest_84 rfl (lv_at hl 4 rfl) ?_
    refine va_get (D := D) (ci := 11) (v := .ref (q 11)) (C := RX10) (T := TX10) (N := 48) hx hb hts inX10 hown hK hP 0 rfl rfl 11 (by decide) (hts _ k_1155) (fun _ h9 => h9) rfl dX10_digest_85 ?_
    refine lv_iload hx hb dX10_digest_88 (lv_at hl 1 rfl) ?_
    refine q_ild (X := (sl j)) (f := (F 11)) hx hb hK hP 9 1 rfl rfl (by omega) (by decide) dX10_digest_90 ?_
    refine q_seti (y := (nI (eRw (Es.getD j dE)))) (hre.2.1 j (by omega)).2.2.2.2.2.2.2.2.2.1 ?_
    refine lv_icmp_ge (tgt := 165) hx hb dX10_digest_91 (by decide) (fun c_1 => ?_) (fun c_1 => ?_)
    · have c_1 := q_le (a := eRw (Es.getD j dE)) (b := r1) (by omega) (by omega) c_1
      exact kk hh  H locs ls hP hD hS (lv_sub hl (l' := [(3, .int (nI j)), (1, .long hh), (0, .ref h0)]) [2, 3, 4] rfl)
    · have c_1 := q_nle (a := eRw (Es.getD j dE)) (b := r1) (by omega) (by omega) c_1
      exact absurd hik (by omega)
  | succ k ih =>
    intro r1 hh H locs ls hik hP hD hS hl kk
    refine lv_iload hx hb dX10_digest_82 (lv_at hl 0 rfl) ?_
    refine lv_aload_n hx hb dX10_digest_84 rfl (lv_at hl 4 rfl) ?_
    refine va_get (D := D) (ci := 11) (v := .ref (q 11)) (C := RX10) (T := TX10) (N := 48) hx hb hts inX10 hown hK hP 0 rfl rfl 11 (by decide) (hts _ k_1155) (fun _ h9 => h9) rfl dX10_digest_85 ?_
    refine lv_iload hx hb dX10_digest_88 (lv_at hl 1 rfl) ?_
    refine q_ild (X := (sl j)) (f := (F 11)) hx hb hK hP 9 1 rfl rfl (by omega) (by decide) dX10_digest_90 ?_
    refine q_seti (y := (nI (eRw (Es.getD j dE)))) (hre.2.1 j (by omega)).2.2.2.2.2.2.2.2.2.1 ?_
    refine lv_icmp_ge (tgt := 165) hx hb dX10_digest_91 (by decide) (fun c_1 => ?_) (fun c_1 => ?_)
    · have c_1 := q_le (a := eRw (Es.getD j dE)) (b := r1) (by omega) (by omega) c_1
      exact absurd hik (by omega)
    · have c_1 := q_nle (a := eRw (Es.getD j dE)) (b := r1) (by omega) (by omega) c_1
      refine lv_iconst (v := 0) hx hb dX10_digest_94 (by decide) ?_
      refine lv_istore (lv' := [(6, .int 0), (5, .int (nI r1)), (4, .int (nI ((sl j)))), (3, .int (nI j)), (1, .long hh), (0, .ref h0)]) hx hb dX10_digest_95 hl (by decide) rfl (fun ls hl => ?_)
      refine ldg_e (Es := Es) (sl := sl) (j := j) (r1 := r1) hI3 hre hj (by omega) (Nat.le_trans (by decide) hRf) (Nat.le_trans (by decide) hRl) hRc hRs hA hf hK _ 0 _ _ _ ls (Nat.zero_add _) hP hD hS (lv_sub hl (l' := [(6, .int 0), (5, .int (nI r1)), (4, .int (nI ((sl j)))), (3, .int (nI j)), (1, .long hh), (0, .ref h0)]) [0, 1, 2, 3, 4, 5] rfl) (fun hh2 H locs ls hP hD hS hl => ?_)
      refine lv_iinc (v := (nI (r1 + 1))) (lv' := [(5, .int (nI (r1 + 1))), (4, .int (nI ((sl j)))), (3, .int (nI j)), (1, .long hh2), (0, .ref h0)]) hx hb dX10_digest_159 hl (k := 0) rfl (nI_add r1 1) (by decide) rfl (fun ls hl => ?_)
      refine lv_goto (tgt := 82) hx hb dX10_digest_162 (by decide) ?_
      exact ih (r1 + 1) _  H locs ls (by omega) hP hD hS (lv_sub hl (l' := [(5, .int (nI (r1 + 1))), (4, .int (nI ((sl j)))), (3, .int (nI j)), (1, .long hh2), (0, .ref h0)]) [0, 1, 2, 3, 4] rfl) kk
set_option maxHeartbeats 1000000 in
set_option maxRecDepth 100000 in
theorem ldg_b {p : Program} {l : Launch} {e : Env} {R : Room} {s : State} {m : MethodId} {args : Array Value} {below : List Frame} {meth : Method} {c : Code} {cells slots : Nat} {Q : State → Prop} {D : va_G} {A : Nat → Prop} {h0 : Nat} {q : Nat → Nat} {cB cI cZ : ClassId} {I : Nat → Int32} {F : Nat → Nat → Int32} {Es : List E5} {sl : Nat → Nat} (hI3 : I 3 = nI Es.length) (hre : reR F Es sl) (hRf : 1 ≤ R.frames) (hRl : 40 ≤ R.locals) (hRc : cells ≤ R.cells) (hRs : slots ≤ R.slots) (hA : ∀ q : Nat, s.heap.size ≤ q → A q) (hf : CallFix p m c cX10_digest 7 s args gT yX10_digest.cls) (hK : va_K D vcl (mT cB cI cZ) s) :
    ∀ (k : Nat) (j : Nat) (hh : Int64) (H : Heap) (locs : List Loc) (ls : Array Slot), j + k = Es.length →  va_P D vcl (mW h0 q cB cI cZ I F) H → va_D A (mW h0 q cB cI cZ I F) → va_S A s.heap H locs → lv_has ls 7 [(3, .int (nI j)), (1, .long hh), (0, .ref h0)] →
    (∀ (hh : Int64) (H : Heap) (locs : List Loc) (ls : Array Slot), va_P D vcl (mW h0 q cB cI cZ I F) H → va_D A (mW h0 q cB cI cZ I F) → va_S A s.heap H locs → lv_has ls 7 [(1, .long hh), (0, .ref h0)] → W p l e R s m args below meth c H locs cells slots Q (F0 m 171 ls [])) →
    W p l e R s m args below meth c H locs cells slots Q (F0 m 33 ls []) := by
  obtain ⟨hx, hb, hml, hown, hts⟩ := id hf
  have hre1 := hre.1
  intro k
  induction k with
  | zero =>
    intro j hh H locs ls hik hP hD hS hl kk
    refine lv_iload_n hx hb dX10_digest_33 rfl (lv_at hl 0 rfl) ?_
    refine lv_aload_n hx hb dX10_digest_34 rfl (lv_at hl 2 rfl) ?_
    refine va_get (D := D) (ci := 11) (v := .int (I 3)) (C := RX10) (T := TX10) (N := 48) hx hb hts inX10 hown hK hP 0 rfl rfl 3 (by decide) (hts _ k_1147) (fun _ h9 => h9) rfl dX10_digest_35 ?_
    refine q_seti (y := (nI (Es.length))) hI3 ?_
    refine lv_icmp_ge (tgt := 171) hx hb dX10_digest_38 (by decide) (fun c_1 => ?_) (fun c_1 => ?_)
    · have c_1 := q_le (a := Es.length) (b := j) (by omega) (by omega) c_1
      exact kk hh  H locs ls hP hD hS (lv_sub hl (l' := [(1, .long hh), (0, .ref h0)]) [1, 2] rfl)
    · have c_1 := q_nle (a := Es.length) (b := j) (by omega) (by omega) c_1
      exact absurd hik (by omega)
  | succ k ih =>
    intro j hh H locs ls hik hP hD hS hl kk
    refine lv_iload_n hx hb dX10_digest_33 rfl (lv_at hl 0 rfl) ?_
    refine lv_aload_n hx hb dX10_digest_34 rfl (lv_at hl 2 rfl) ?_
    refine va_get (D := D) (ci := 11) (v := .int (I 3)) (C := RX10) (T := TX10) (N := 48) hx hb hts inX10 hown hK hP 0 rfl rfl 3 (by decide) (hts _ k_1147) (fun _ h9 => h9) rfl dX10_digest_35 ?_
    refine q_seti (y := (nI (Es.length))) hI3 ?_
    refine lv_icmp_ge (tgt := 171) hx hb dX10_digest_38 (by decide) (fun c_1 => ?_) (fun c_1 => ?_)
    · have c_1 := q_le (a := Es.length) (b := j) (by omega) (by omega) c_1
      exact absurd hik (by omega)
    · have c_1 := q_nle (a := Es.length) (b := j) (by omega) (by omega) c_1
      have hslj := (hre.2.1 j (by omega)).2.1
      refine lv_iconst (v := 0) hx hb dX10_digest_41 (by decide) ?_
      refine lv_istore (lv' := [(4, .int 0), (3, .int (nI j)), (1, .long hh), (0, .ref h0)]) hx hb dX10_digest_42 hl (by decide) rfl (fun ls hl => ?_)
      refine ldg_c (Es := Es) (sl := sl) (j := j) hI3 hre (by omega) (Nat.le_trans (by decide) hRf) (Nat.le_trans (by decide) hRl) hRc hRs hA hf hK 4 0 _ _ _ ls (by omega) hP hD hS (lv_sub hl (l' := [(4, .int 0), (3, .int (nI j)), (1, .long hh), (0, .ref h0)]) [0, 1, 2, 3] rfl) (fun hh2 H locs ls hP hD hS hl => ?_)
      refine lv_aload_n hx hb dX10_digest_71 rfl (lv_at hl 2 rfl) ?_
      refine va_get (D := D) (ci := 11) (v := .ref (q 4)) (C := RX10) (T := TX10) (N := 48) hx hb hts inX10 hown hK hP 0 rfl rfl 4 (by decide) (hts _ k_1148) (fun _ h9 => h9) rfl dX10_digest_72 ?_
      refine lv_iload_n hx hb dX10_digest_75 rfl (lv_at hl 0 rfl) ?_
      refine q_ild (X := j) (f := (F 4)) hx hb hK hP 2 1 rfl rfl (by omega) (by decide) dX10_digest_76 ?_
      refine q_seti (y := (nI ((sl j)))) (hre.2.1 j (by omega)).1 ?_
      refine lv_istore (lv' := [(4, .int (nI ((sl j)))), (3, .int (nI j)), (1, .long hh2), (0, .ref h0)]) hx hb dX10_digest_77 hl (by decide) rfl (fun ls hl => ?_)
      refine lv_iconst (v := 0) hx hb dX10_digest_79 (by decide) ?_
      refine lv_istore (lv' := [(5, .int 0), (4, .int (nI ((sl j)))), (3, .int (nI j)), (1, .long hh2), (0, .ref h0)]) hx hb dX10_digest_80 hl (by decide) rfl (fun ls hl => ?_)
      refine ldg_d (Es := Es) (sl := sl) (j := j) hI3 hre (by omega) (Nat.le_trans (by decide) hRf) (Nat.le_trans (by decide) hRl) hRc hRs hA hf hK _ 0 _ _ _ ls (Nat.zero_add _) hP hD hS (lv_sub hl (l' := [(5, .int 0), (4, .int (nI ((sl j)))), (3, .int (nI j)), (1, .long hh2), (0, .ref h0)]) [0, 1, 2, 3, 4] rfl) (fun hh3 H locs ls hP hD hS hl => ?_)
      refine lv_iinc (v := (nI (j + 1))) (lv' := [(3, .int (nI (j + 1))), (1, .long hh3), (0, .ref h0)]) hx hb dX10_digest_165 hl (k := 0) rfl (nI_add j 1) (by decide) rfl (fun ls hl => ?_)
      refine lv_goto (tgt := 33) hx hb dX10_digest_168 (by decide) ?_
      exact ih (j + 1) _  H locs ls (by omega) hP hD hS (lv_sub hl (l' := [(3, .int (nI (j + 1))), (1, .long hh3), (0, .ref h0)]) [0, 1, 2] rfl) kk
set_option maxHeartbeats 1000000 in
set_option maxRecDepth 100000 in
theorem ldg_h {p : Program} {l : Launch} {e : Env} {R : Room} {s : State} {m : MethodId} {args : Array Value} {below : List Frame} {meth : Method} {c : Code} {cells slots : Nat} {Q : State → Prop} {D : va_G} {A : Nat → Prop} {h0 : Nat} {q : Nat → Nat} {cB cI cZ : ClassId} {I : Nat → Int32} {F : Nat → Nat → Int32} {pn lk gs : Nat} {pe sl : Nat → Nat} {K : Nat → Int32} {Fm To Rr : Nat → Nat} {mo : Nat} {Gp : Nat → Nat} {g1 ns : Nat} (hpv : rp_ok F pn pe sl K Fm To Rr) (hI2 : I 2 = nI mo) (hI14 : I 14 = nI pn) (hI20 : I 20 = nI lk) (hI19 : 0 < lk → I 19 = nI gs) (hlk : lk ≤ 1) (hgs : gs ≤ 8000) (hmo1 : 10 ≤ mo) (hmo : mo ≤ 40) (hSS : rs_S Fm To pn ≤ 8000) (hG : ∀ p, p < pn → F 18 p = nI (Gp p) ∧ Gp p ≤ 8000) (hnc : ∀ g, rs_num K Fm To Rr Gp pn mo g ≤ 8000) (hlk0 : 0 < lk) (hg1 : g1 < gs) (hns : ns = rs_nm K Fm To Rr Gp pn mo g1) (hRf : 5 ≤ R.frames) (hRl : 170 ≤ R.locals) (hRc : cells ≤ R.cells) (hRs : slots ≤ R.slots) (hA : ∀ q : Nat, s.heap.size ≤ q → A q) (hf : CallFix p m c cX10_digest 7 s args gT yX10_digest.cls) (hK : va_K D vcl (mT cB cI cZ) s) :
    ∀ (k : Nat) (i : Nat) (hh : Int64) (v25 : Int32) (v26 : Int32) (v27 : Int32) (H : Heap) (locs : List Loc) (ls : Array Slot), i + k = ns →  va_P D vcl (mW h0 q cB cI cZ (upd (upd (upd I 25 v25) 26 v26) 27 v27) F) H → va_D A (mW h0 q cB cI cZ (upd (upd (upd I 25 v25) 26 v26) 27 v27) F) → va_S A s.heap H locs → lv_has ls 7 [(5, .int (nI i)), (4, .int (nI ns)), (3, .int (nI g1)), (1, .long hh), (0, .ref h0)] →
    (∀ (hh : Int64) (v25 : Int32) (v26 : Int32) (v27 : Int32) (H : Heap) (locs : List Loc) (ls : Array Slot), va_P D vcl (mW h0 q cB cI cZ (upd (upd (upd I 25 v25) 26 v26) 27 v27) F) H → va_D A (mW h0 q cB cI cZ (upd (upd (upd I 25 v25) 26 v26) 27 v27) F) → va_S A s.heap H locs → lv_has ls 7 [(3, .int (nI g1)), (1, .long hh), (0, .ref h0)] → W p l e R s m args below meth c H locs cells slots Q (F0 m 275 ls [])) →
    W p l e R s m args below meth c H locs cells slots Q (F0 m 232 ls []) := by
  obtain ⟨hx, hb, hml, hown, hts⟩ := id hf
  have hpn8 := hpv.1
  have hns8 : ns ≤ 8000 := by
    have h9 := hnc g1
    rw [hns]; unfold rs_nm; split <;> omega
  intro k
  induction k with
  | zero =>
    intro i hh v25 v26 v27 H locs ls hik hP hD hS hl kk
    refine lv_iload hx hb dX10_digest_232 (lv_at hl 0 rfl) ?_
    refine lv_iload hx hb dX10_digest_234 (lv_at hl 1 rfl) ?_
    refine lv_icmp_ge (tgt := 275) hx hb dX10_digest_236 (by decide) (fun c_1 => ?_) (fun c_1 => ?_)
    · have c_1 := q_le (a := ns) (b := i) (by omega) (by omega) c_1
      exact kk hh v25 v26 v27 H locs ls hP hD hS (lv_sub hl (l' := [(3, .int (nI g1)), (1, .long hh), (0, .ref h0)]) [2, 3, 4] rfl)
    · have c_1 := q_nle (a := ns) (b := i) (by omega) (by omega) c_1
      exact absurd hik (by omega)
  | succ k ih =>
    intro i hh v25 v26 v27 H locs ls hik hP hD hS hl kk
    refine lv_iload hx hb dX10_digest_232 (lv_at hl 0 rfl) ?_
    refine lv_iload hx hb dX10_digest_234 (lv_at hl 1 rfl) ?_
    refine lv_icmp_ge (tgt := 275) hx hb dX10_digest_236 (by decide) (fun c_1 => ?_) (fun c_1 => ?_)
    · have c_1 := q_le (a := ns) (b := i) (by omega) (by omega) c_1
      exact absurd hik (by omega)
    · have c_1 := q_nle (a := ns) (b := i) (by omega) (by omega) c_1
      have hsn : i < rs_nm K Fm To Rr Gp pn mo g1 := by rw [← hns]; omega
      refine lv_ldc2 (v := 31) hx hb hown (hts _ k_1534) dX10_digest_239 ?_
      refine lv_ldc2 (v := 31) hx hb hown (hts _ k_1534) dX10_digest_242 ?_
      refine lv_lload_n hx hb dX10_digest_245 rfl (lv_at hl 3 rfl) ?_
      refine lv_lmul hx hb dX10_digest_246 ?_
      refine lv_aload_n hx hb dX10_digest_247 rfl (lv_at hl 4 rfl) ?_
      refine lv_iload_n hx hb dX10_digest_248 rfl (lv_at hl 2 rfl) ?_
      refine lv_iload hx hb dX10_digest_249 (lv_at hl 0 rfl) ?_
      refine lv_iconst (v := 0) hx hb dX10_digest_251 (by decide) ?_
      refine q_ci (k := cells) (n := slots) hK hP hD hS hA (fun hPc hKc hDc => q_rV (As := [.int (nI g1), .int (nI i), .int 0]) (rest := [.long (31 * hh), .long 31]) hf (r_sheetOf _ D h0 q cB cI cZ (upd (upd (upd I 25 v25) 26 v26) 27 v27) F pn pe sl K Fm To Rr mo Gp g1 i 0 hpv hI2 hI14 hmo1 hmo hSS hG (by omega) hnc hsn _) k_1471 k_1468 k_1470 k_75 k_98 (nA := 3) (by decide +kernel) ⟨Nat.le_trans (by decide) hRf, Nat.le_trans (by decide) hRl⟩ hK hP (ci := 11) (q0 := 0) rfl rfl rfl hPc hKc hDc (fun _ _ _ _ h => h) (fun _ _ _ => trivial) rfl hl.1 rfl (Nat.le_of_ble_eq_true rfl) dX10_digest_252 ⟨hRc, hRs⟩) (Nat.le_refl _) (Nat.le_refl _) (fun r u H locs hw hK hP hD hS => ?_)
      obtain ⟨u_2, u_3, u_4, rfl⟩ := hw
      generalize r = v_5
      have hP : va_P D vcl (mW h0 q cB cI cZ (upd (upd (upd I 25 u_2) 26 u_3) 27 u_4) F) H := hP
      have hD : va_D A (mW h0 q cB cI cZ (upd (upd (upd I 25 u_2) 26 u_3) 27 u_4) F) := hD
      refine lv_i2l (v := (v_5).toInt64) hx hb dX10_digest_255 rfl ?_
      refine lv_ladd hx hb dX10_digest_256 ?_
      refine lv_lmul hx hb dX10_digest_257 ?_
      refine lv_aload_n hx hb dX10_digest_258 rfl (lv_at hl 4 rfl) ?_
      refine lv_iload_n hx hb dX10_digest_259 rfl (lv_at hl 2 rfl) ?_
      refine lv_iload hx hb dX10_digest_260 (lv_at hl 0 rfl) ?_
      refine lv_iconst (v := 1) hx hb dX10_digest_262 (by decide) ?_
      refine q_ci (k := cells) (n := slots) hK hP hD hS hA (fun hPc hKc hDc => q_rV (As := [.int (nI g1), .int (nI i), .int 1]) (rest := [.long (31 * ((31 * hh) + (v_5).toInt64))]) hf (r_sheetOf _ D h0 q cB cI cZ (upd (upd (upd I 25 u_2) 26 u_3) 27 u_4) F pn pe sl K Fm To Rr mo Gp g1 i 1 hpv hI2 hI14 hmo1 hmo hSS hG (by omega) hnc hsn _) k_1471 k_1468 k_1470 k_75 k_98 (nA := 3) (by decide +kernel) ⟨Nat.le_trans (by decide) hRf, Nat.le_trans (by decide) hRl⟩ hK hP (ci := 11) (q0 := 0) rfl rfl rfl hPc hKc hDc (fun _ _ _ _ h => h) (fun _ _ _ => trivial) rfl hl.1 rfl (Nat.le_of_ble_eq_true rfl) dX10_digest_263 ⟨hRc, hRs⟩) (Nat.le_refl _) (Nat.le_refl _) (fun r u H locs hw hK hP hD hS => ?_)
      obtain ⟨u_6, u_7, u_8, rfl⟩ := hw
      generalize r = v_9
      have hP : va_P D vcl (mW h0 q cB cI cZ (upd (upd (upd I 25 u_6) 26 u_7) 27 u_8) F) H := hP
      have hD : va_D A (mW h0 q cB cI cZ (upd (upd (upd I 25 u_6) 26 u_7) 27 u_8) F) := hD
      refine lv_i2l (v := (v_9).toInt64) hx hb dX10_digest_266 rfl ?_
      refine lv_ladd hx hb dX10_digest_267 ?_
      refine lv_lstore_n (lv' := [(1, .long ((31 * ((31 * hh) + (v_5).toInt64)) + (v_9).toInt64)), (5, .int (nI i)), (4, .int (nI ns)), (3, .int (nI g1)), (0, .ref h0)]) hx hb dX10_digest_268 rfl hl (by decide) rfl (fun ls hl => ?_)
      refine lv_iinc (v := (nI (i + 1))) (lv' := [(5, .int (nI (i + 1))), (1, .long ((31 * ((31 * hh) + (v_5).toInt64)) + (v_9).toInt64)), (4, .int (nI ns)), (3, .int (nI g1)), (0, .ref h0)]) hx hb dX10_digest_269 hl (k := 1) rfl (nI_add i 1) (by decide) rfl (fun ls hl => ?_)
      refine lv_goto (tgt := 232) hx hb dX10_digest_272 (by decide) ?_
      exact ih (i + 1) _ _ _ _ H locs ls (by omega) hP hD hS (lv_sub hl (l' := [(5, .int (nI (i + 1))), (4, .int (nI ns)), (3, .int (nI g1)), (1, .long ((31 * ((31 * hh) + (v_5).toInt64)) + (v_9).toInt64)), (0, .ref h0)]) [0, 2, 3, 1, 4] rfl) kk
set_option maxHeartbeats 1000000 in
set_option maxRecDepth 100000 in
theorem ldg_g {p : Program} {l : Launch} {e : Env} {R : Room} {s : State} {m : MethodId} {args : Array Value} {below : List Frame} {meth : Method} {c : Code} {cells slots : Nat} {Q : State → Prop} {D : va_G} {A : Nat → Prop} {h0 : Nat} {q : Nat → Nat} {cB cI cZ : ClassId} {I : Nat → Int32} {F : Nat → Nat → Int32} {pn lk gs : Nat} {pe sl : Nat → Nat} {K : Nat → Int32} {Fm To Rr : Nat → Nat} {mo : Nat} {Gp : Nat → Nat} (hpv : rp_ok F pn pe sl K Fm To Rr) (hI2 : I 2 = nI mo) (hI14 : I 14 = nI pn) (hI20 : I 20 = nI lk) (hI19 : 0 < lk → I 19 = nI gs) (hlk : lk ≤ 1) (hgs : gs ≤ 8000) (hmo1 : 10 ≤ mo) (hmo : mo ≤ 40) (hSS : rs_S Fm To pn ≤ 8000) (hG : ∀ p, p < pn → F 18 p = nI (Gp p) ∧ Gp p ≤ 8000) (hnc : ∀ g, rs_num K Fm To Rr Gp pn mo g ≤ 8000) (hlk0 : 0 < lk) (hRf : 5 ≤ R.frames) (hRl : 170 ≤ R.locals) (hRc : cells ≤ R.cells) (hRs : slots ≤ R.slots) (hA : ∀ q : Nat, s.heap.size ≤ q → A q) (hf : CallFix p m c cX10_digest 7 s args gT yX10_digest.cls) (hK : va_K D vcl (mT cB cI cZ) s) :
    ∀ (k : Nat) (g1 : Nat) (hh : Int64) (v25 : Int32) (v26 : Int32) (v27 : Int32) (H : Heap) (locs : List Loc) (ls : Array Slot), g1 + k = gs →  va_P D vcl (mW h0 q cB cI cZ (upd (upd (upd I 25 v25) 26 v26) 27 v27) F) H → va_D A (mW h0 q cB cI cZ (upd (upd (upd I 25 v25) 26 v26) 27 v27) F) → va_S A s.heap H locs → lv_has ls 7 [(3, .int (nI g1)), (1, .long hh), (0, .ref h0)] →
    (∀ (hh : Int64) (v25 : Int32) (v26 : Int32) (v27 : Int32) (H : Heap) (locs : List Loc) (ls : Array Slot), va_P D vcl (mW h0 q cB cI cZ (upd (upd (upd I 25 v25) 26 v26) 27 v27) F) H → va_D A (mW h0 q cB cI cZ (upd (upd (upd I 25 v25) 26 v26) 27 v27) F) → va_S A s.heap H locs → lv_has ls 7 [(1, .long hh), (0, .ref h0)] → W p l e R s m args below meth c H locs cells slots Q (F0 m 281 ls [])) →
    W p l e R s m args below meth c H locs cells slots Q (F0 m 204 ls []) := by
  obtain ⟨hx, hb, hml, hown, hts⟩ := id hf
  have hpn8 := hpv.1
  intro k
  induction k with
  | zero =>
    intro g1 hh v25 v26 v27 H locs ls hik hP hD hS hl kk
    refine lv_iload_n hx hb dX10_digest_204 rfl (lv_at hl 0 rfl) ?_
    refine lv_aload_n hx hb dX10_digest_205 rfl (lv_at hl 2 rfl) ?_
    refine va_get (D := D) (ci := 11) (v := .int (I 19)) (C := RX10) (T := TX10) (N := 48) hx hb hts inX10 hown hK hP 0 rfl rfl 19 (by decide) (hts _ k_1163) (fun _ h9 => h9) rfl dX10_digest_206 ?_
    refine q_seti (y := (nI gs)) (hI19 hlk0) ?_
    refine lv_icmp_ge (tgt := 281) hx hb dX10_digest_209 (by decide) (fun c_1 => ?_) (fun c_1 => ?_)
    · have c_1 := q_le (a := gs) (b := g1) (by omega) (by omega) c_1
      exact kk hh v25 v26 v27 H locs ls hP hD hS (lv_sub hl (l' := [(1, .long hh), (0, .ref h0)]) [1, 2] rfl)
    · have c_1 := q_nle (a := gs) (b := g1) (by omega) (by omega) c_1
      exact absurd hik (by omega)
  | succ k ih =>
    intro g1 hh v25 v26 v27 H locs ls hik hP hD hS hl kk
    refine lv_iload_n hx hb dX10_digest_204 rfl (lv_at hl 0 rfl) ?_
    refine lv_aload_n hx hb dX10_digest_205 rfl (lv_at hl 2 rfl) ?_
    refine va_get (D := D) (ci := 11) (v := .int (I 19)) (C := RX10) (T := TX10) (N := 48) hx hb hts inX10 hown hK hP 0 rfl rfl 19 (by decide) (hts _ k_1163) (fun _ h9 => h9) rfl dX10_digest_206 ?_
    refine q_seti (y := (nI gs)) (hI19 hlk0) ?_
    refine lv_icmp_ge (tgt := 281) hx hb dX10_digest_209 (by decide) (fun c_1 => ?_) (fun c_1 => ?_)
    · have c_1 := q_le (a := gs) (b := g1) (by omega) (by omega) c_1
      exact absurd hik (by omega)
    · have c_1 := q_nle (a := gs) (b := g1) (by omega) (by omega) c_1
      refine lv_aload_n hx hb dX10_digest_212 rfl (lv_at hl 2 rfl) ?_
      refine lv_iload_n hx hb dX10_digest_213 rfl (lv_at hl 0 rfl) ?_
      refine q_ci (k := cells) (n := slots) hK hP hD hS hA (fun hPc hKc hDc => q_rV (As := [.int (nI g1)]) (rest := []) hf (r_sheetsOf _ D h0 q cB cI cZ (upd (upd (upd I 25 v25) 26 v26) 27 v27) F pn pe sl K Fm To Rr mo g1 Gp hpv hI2 hmo1 hmo hI14 hG (by omega) hSS (hnc _) _) k_1447 k_1444 k_1446 k_71 k_98 (nA := 1) (by decide +kernel) ⟨Nat.le_trans (by decide) hRf, Nat.le_trans (by decide) hRl⟩ hK hP (ci := 11) (q0 := 0) rfl rfl rfl hPc hKc hDc (fun _ _ _ _ h => h) (fun _ _ _ => trivial) rfl hl.1 rfl (Nat.le_of_ble_eq_true rfl) dX10_digest_214 ⟨hRc, hRs⟩) (Nat.le_refl _) (Nat.le_refl _) (fun r u H locs hw hK hP hD hS => ?_)
      obtain ⟨v1, v2, v3, hr9, rfl⟩ := hw
      obtain ⟨ns, hns, rfl⟩ : ∃ ns : Nat, ns = rs_nm K Fm To Rr Gp pn mo g1 ∧ r = nI ns := ⟨_, rfl, hr9⟩
      have hns8 : 1 ≤ ns ∧ ns ≤ 8000 := by
        have h9 := hnc g1
        rw [hns]; unfold rs_nm; split <;> omega
      have hP : va_P D vcl (mW h0 q cB cI cZ (upd (upd (upd I 25 v1) 26 v2) 27 v3) F) H := hP
      have hD : va_D A (mW h0 q cB cI cZ (upd (upd (upd I 25 v1) 26 v2) 27 v3) F) := hD
      refine lv_istore (lv' := [(4, .int (nI ns)), (3, .int (nI g1)), (1, .long hh), (0, .ref h0)]) hx hb dX10_digest_217 hl (by decide) rfl (fun ls hl => ?_)
      refine lv_ldc2 (v := 31) hx hb hown (hts _ k_1534) dX10_digest_219 ?_
      refine lv_lload_n hx hb dX10_digest_222 rfl (lv_at hl 2 rfl) ?_
      refine lv_lmul hx hb dX10_digest_223 ?_
      refine lv_iload hx hb dX10_digest_224 (lv_at hl 0 rfl) ?_
      refine lv_i2l (v := ((nI ns)).toInt64) hx hb dX10_digest_226 rfl ?_
      refine lv_ladd hx hb dX10_digest_227 ?_
      refine lv_lstore_n (lv' := [(1, .long ((31 * hh) + ((nI ns)).toInt64)), (4, .int (nI ns)), (3, .int (nI g1)), (0, .ref h0)]) hx hb dX10_digest_228 rfl hl (by decide) rfl (fun ls hl => ?_)
      refine lv_iconst (v := 0) hx hb dX10_digest_229 (by decide) ?_
      refine lv_istore (lv' := [(5, .int 0), (1, .long ((31 * hh) + ((nI ns)).toInt64)), (4, .int (nI ns)), (3, .int (nI g1)), (0, .ref h0)]) hx hb dX10_digest_230 hl (by decide) rfl (fun ls hl => ?_)
      refine ldg_h (I := I) (F := F) (pn := pn) (lk := lk) (gs := gs) (pe := pe) (sl := sl) (K := K) (Fm := Fm) (To := To) (Rr := Rr) (mo := mo) (Gp := Gp) (g1 := g1) (ns := ns) hpv hI2 hI14 hI20 hI19 hlk hgs hmo1 hmo hSS hG hnc hlk0 (by omega) hns (Nat.le_trans (by decide) hRf) (Nat.le_trans (by decide) hRl) hRc hRs hA hf hK ns 0 _ _ _ _ _ _ ls (by omega) hP hD hS (lv_sub hl (l' := [(5, .int 0), (4, .int (nI ns)), (3, .int (nI g1)), (1, .long ((31 * hh) + ((nI ns)).toInt64)), (0, .ref h0)]) [0, 2, 3, 1, 4] rfl) (fun hh2 v25 v26 v27 H locs ls hP hD hS hl => ?_)
      refine lv_iinc (v := (nI (g1 + 1))) (lv' := [(3, .int (nI (g1 + 1))), (1, .long hh2), (0, .ref h0)]) hx hb dX10_digest_275 hl (k := 0) rfl (nI_add g1 1) (by decide) rfl (fun ls hl => ?_)
      refine lv_goto (tgt := 204) hx hb dX10_digest_278 (by decide) ?_
      exact ih (g1 + 1) _ _ _ _ H locs ls (by omega) hP hD hS (lv_sub hl (l' := [(3, .int (nI (g1 + 1))), (1, .long hh2), (0, .ref h0)]) [0, 1, 2] rfl) kk
set_option maxHeartbeats 1000000 in
set_option maxRecDepth 100000 in
theorem r_digL (l : Launch) (D : va_G) (h0 : Nat) (q : Nat → Nat) (cB cI_ cZ : ClassId) (I : Nat → Int32) (F : Nat → Nat → Int32) (Es : List E5) (sl_ : Nat → Nat) (pn lk gs : Nat) (pe sl : Nat → Nat) (K : Nat → Int32) (Fm To Rr : Nat → Nat) (mo : Nat) (Gp : Nat → Nat) (hI3 : I 3 = nI Es.length) (hre : reR F Es sl_) (hpv : rp_ok F pn pe sl K Fm To Rr) (hI2 : I 2 = nI mo) (hI14 : I 14 = nI pn) (hI20 : I 20 = nI lk) (hI19 : 0 < lk → I 19 = nI gs) (hlk : lk ≤ 1) (hgs : gs ≤ 8000) (hmo1 : 10 ≤ mo) (hmo : mo ≤ 40) (hSS : rs_S Fm To pn ≤ 8000) (hG : ∀ p, p < pn → F 18 p = nI (Gp p) ∧ Gp p ≤ 8000) (hnc : ∀ g, rs_num K Fm To Rr Gp pn mo g ≤ 8000) (hlk0 : 0 < lk) : cL l D yX10_digest cX10_digest 7 (some .long) 6 200 0 0 [.ref h0] zT (mW h0 q cB cI_ cZ I F) (mT cB cI_ cZ) (fun r u => (∃ (I2 : Nat → Int32) (F2 : Nat → Nat → Int32), sm I I2 F F2 ∧ u = (mW h0 q cB cI_ cZ I2 F2, mT cB cI_ cZ))) := by
  refine q_sl (by decide) (Nat.le_of_ble_eq_true rfl) ?_
  intro p e s m below meth c A ls hAe hf hr hlocks hin hK hP hD hS hA hZ hl
  obtain ⟨hx, hb, hml, hown, hts⟩ := id hf
  have hl : lv_has ls 7 [(0, .ref h0)] := hl
  have hpn8 := hpv.1
  refine lv_ldc2 (v := 101) hx hb hown (hts _ k_1533) dX10_digest_0 ?_
  refine lv_lstore_n (lv' := [(1, .long 101), (0, .ref h0)]) hx hb dX10_digest_3 rfl hl (by decide) rfl (fun ls hl => ?_)
  refine lv_iconst (v := 0) hx hb dX10_digest_4 (by decide) ?_
  refine lv_istore_n (lv' := [(3, .int 0), (1, .long 101), (0, .ref h0)]) hx hb dX10_digest_5 rfl hl (by decide) rfl (fun ls hl => ?_)
  refine ldg_a (Es := Es) (sl := sl_) hI3 hre (Nat.le_of_ble_eq_true rfl) (Nat.le_of_ble_eq_true rfl) (Nat.le_of_ble_eq_true rfl) (Nat.le_of_ble_eq_true rfl) hA hf hK 6 0 _ _ _ ls (by omega) hP hD hS (lv_sub hl (l' := [(3, .int 0), (1, .long 101), (0, .ref h0)]) [0, 1, 2] rfl) (fun hh H locs ls hP hD hS hl => ?_)
  refine lv_iconst (v := 0) hx hb dX10_digest_31 (by decide) ?_
  refine lv_istore_n (lv' := [(3, .int 0), (1, .long hh), (0, .ref h0)]) hx hb dX10_digest_32 rfl hl (by decide) rfl (fun ls hl => ?_)
  refine ldg_b (Es := Es) (sl := sl_) hI3 hre (Nat.le_of_ble_eq_true rfl) (Nat.le_of_ble_eq_true rfl) (Nat.le_of_ble_eq_true rfl) (Nat.le_of_ble_eq_true rfl) hA hf hK _ 0 _ _ _ ls (Nat.zero_add _) hP hD hS (lv_sub hl (l' := [(3, .int 0), (1, .long hh), (0, .ref h0)]) [0, 1, 2] rfl) (fun hh H locs ls hP hD hS hl => ?_)
  refine lv_ldc2 (v := 31) hx hb hown (hts _ k_1534) dX10_digest_171 ?_
  refine lv_lload_n hx hb dX10_digest_174 rfl (lv_at hl 0 rfl) ?_
  refine lv_lmul hx hb dX10_digest_175 ?_
  refine lv_aload_n hx hb dX10_digest_176 rfl (lv_at hl 1 rfl) ?_
  refine q_ci (k := 0) (n := 0) hK hP hD hS hA (fun hPc hKc hDc => q_rV (As := []) (rest := [.long (31 * hh)]) hf (r_pages _ D h0 q cB cI_ cZ I F pn lk gs pe sl K Fm To Rr mo hpv hI2 hI14 hI20 hI19 hlk hmo hSS _) k_1383 k_1536 k_1381 k_1382 k_98 (nA := 0) (by decide +kernel) ⟨Nat.le_of_ble_eq_true rfl, Nat.le_of_ble_eq_true rfl⟩ hK hP (ci := 11) (q0 := 0) rfl rfl rfl hPc hKc hDc (fun _ _ _ _ h => h) (fun _ _ _ => trivial) rfl hl.1 rfl (Nat.le_of_ble_eq_true rfl) dX10_digest_177 ⟨Nat.le_of_ble_eq_true rfl, Nat.le_of_ble_eq_true rfl⟩) (by decide) (by decide) (fun r u H locs hw hK hP hD hS => ?_)
  obtain hw := hw
  obtain ⟨_, rfl, rfl⟩ := hw.resolve_right (fun z => by have h9 := z.1; omega)
  have hP : va_P D vcl (mW h0 q cB cI_ cZ I F) H := hP
  have hD : va_D A (mW h0 q cB cI_ cZ I F) := hD
  refine lv_i2l (v := ((nI gs)).toInt64) hx hb dX10_digest_180 rfl ?_
  refine lv_ladd hx hb dX10_digest_181 ?_
  refine lv_lstore_n (lv' := [(1, .long ((31 * hh) + ((nI gs)).toInt64)), (0, .ref h0)]) hx hb dX10_digest_182 rfl hl (by decide) rfl (fun ls hl => ?_)
  refine lv_aload_n hx hb dX10_digest_183 rfl (lv_at hl 1 rfl) ?_
  refine va_get (D := D) (ci := 11) (v := .int (I 20)) (C := RX10) (T := TX10) (N := 48) hx hb hts inX10 hown hK hP 0 rfl rfl 20 (by decide) (hts _ k_1164) (fun _ h9 => h9) rfl dX10_digest_184 ?_
  refine q_seti (y := (nI lk)) hI20 ?_
  refine lv_if_ne (tgt := 202) hx hb dX10_digest_187 (by decide) (fun c_1 => ?_) (fun c_1 => ?_)
  · have c_1 := q_nen (a := lk) (b := 0) (by omega) (by omega) c_1
    refine lv_iconst (v := 0) hx hb dX10_digest_202 (by decide) ?_
    refine lv_istore_n (lv' := [(3, .int 0), (1, .long ((31 * hh) + ((nI gs)).toInt64)), (0, .ref h0)]) hx hb dX10_digest_203 rfl hl (by decide) rfl (fun ls hl => ?_)
    have hy9 : I = upd (upd (upd I 25 (I 25)) 26 (I 26)) 27 (I 27) := by rw [upd_id9, upd_id9, upd_id9]
    obtain ⟨hP, hD⟩ := q_set5 hy9 hP hD
    refine ldg_g (I := I) (F := F) (pn := pn) (lk := lk) (gs := gs) (pe := pe) (sl := sl) (K := K) (Fm := Fm) (To := To) (Rr := Rr) (mo := mo) (Gp := Gp) hpv hI2 hI14 hI20 hI19 hlk hgs hmo1 hmo hSS hG hnc hlk0 (Nat.le_of_ble_eq_true rfl) (Nat.le_of_ble_eq_true rfl) (Nat.le_of_ble_eq_true rfl) (Nat.le_of_ble_eq_true rfl) hA hf hK gs 0 _ (I 25) (I 26) (I 27) _ _ ls (by omega) hP hD hS (lv_sub hl (l' := [(3, .int 0), (1, .long ((31 * hh) + ((nI gs)).toInt64)), (0, .ref h0)]) [0, 1, 2] rfl) (fun hh2 v25 v26 v27 H locs ls hP hD hS hl => ?_)
    have hP : va_P D vcl (mW h0 q cB cI_ cZ (upd (upd (upd I 25 v25) 26 v26) 27 v27) F) H := hP
    have hD : va_D A (mW h0 q cB cI_ cZ (upd (upd (upd I 25 v25) 26 v26) 27 v27) F) := hD
    refine lv_lload_n hx hb dX10_digest_281 rfl (lv_at hl 0 rfl) ?_
    exact q_zl hf hr hlocks hK hP hD hS (Nat.le_of_ble_eq_true rfl) (Nat.le_of_ble_eq_true rfl) ⟨(upd (upd (upd I 25 v25) 26 v26) 27 v27), F, ⟨⟨rfl, rfl, rfl⟩, ⟨rfl, rfl, rfl⟩, ⟨rfl, rfl, rfl, rfl, rfl, rfl, rfl, rfl, rfl, rfl, rfl⟩, rfl, rfl, rfl, rfl⟩, rfl⟩ dX10_digest_282
  · have c_1 := q_eqn (a := lk) (b := 0) (by omega) (by omega) c_1
    refine lv_ldc2 (v := 31) hx hb hown (hts _ k_1534) dX10_digest_190 ?_
    refine lv_lload_n hx hb dX10_digest_193 rfl (lv_at hl 0 rfl) ?_
    refine lv_lmul hx hb dX10_digest_194 ?_
    refine lv_aload_n hx hb dX10_digest_195 rfl (lv_at hl 1 rfl) ?_
    refine va_get (D := D) (ci := 11) (v := .int (I 29)) (C := RX10) (T := TX10) (N := 48) hx hb hts inX10 hown hK hP 0 rfl rfl 29 (by decide) (hts _ k_1173) (fun _ h9 => h9) rfl dX10_digest_196 ?_
    refine lv_i2l (v := ((I 29)).toInt64) hx hb dX10_digest_199 rfl ?_
    refine lv_ladd hx hb dX10_digest_200 ?_
    exact q_zl hf hr hlocks hK hP hD hS (Nat.le_of_ble_eq_true rfl) (Nat.le_of_ble_eq_true rfl) ⟨I, F, ⟨⟨rfl, rfl, rfl⟩, ⟨rfl, rfl, rfl⟩, ⟨rfl, rfl, rfl, rfl, rfl, rfl, rfl, rfl, rfl, rfl, rfl⟩, rfl, rfl, rfl, rfl⟩, rfl⟩ dX10_digest_201
set_option maxHeartbeats 1000000 in
set_option maxRecDepth 100000 in
theorem r_digU (l : Launch) (D : va_G) (h0 : Nat) (q : Nat → Nat) (cB cI_ cZ : ClassId) (I : Nat → Int32) (F : Nat → Nat → Int32) (Es : List E5) (sl_ : Nat → Nat) (pn lk : Nat) (pe sl : Nat → Nat) (K : Nat → Int32) (Fm To Rr : Nat → Nat) (mo : Nat) (hI3 : I 3 = nI Es.length) (hre : reR F Es sl_) (hpv : rp_ok F pn pe sl K Fm To Rr) (hI2 : I 2 = nI mo) (hI14 : I 14 = nI pn) (hI20 : I 20 = nI lk) (hlk : lk ≤ 1) (hmo : mo ≤ 40) (hSS : rs_S Fm To pn ≤ 8000) (hlk0 : lk = 0) : cL l D yX10_digest cX10_digest 7 (some .long) 6 200 0 0 [.ref h0] zT (mW h0 q cB cI_ cZ I F) (mT cB cI_ cZ) (fun r u => (∃ (I2 : Nat → Int32) (F2 : Nat → Nat → Int32), sm I I2 F F2 ∧ u = (mW h0 q cB cI_ cZ I2 F2, mT cB cI_ cZ))) := by
  refine q_sl (by decide) (Nat.le_of_ble_eq_true rfl) ?_
  intro p e s m below meth c A ls hAe hf hr hlocks hin hK hP hD hS hA hZ hl
  obtain ⟨hx, hb, hml, hown, hts⟩ := id hf
  have hl : lv_has ls 7 [(0, .ref h0)] := hl
  have hpn8 := hpv.1
  refine lv_ldc2 (v := 101) hx hb hown (hts _ k_1533) dX10_digest_0 ?_
  refine lv_lstore_n (lv' := [(1, .long 101), (0, .ref h0)]) hx hb dX10_digest_3 rfl hl (by decide) rfl (fun ls hl => ?_)
  refine lv_iconst (v := 0) hx hb dX10_digest_4 (by decide) ?_
  refine lv_istore_n (lv' := [(3, .int 0), (1, .long 101), (0, .ref h0)]) hx hb dX10_digest_5 rfl hl (by decide) rfl (fun ls hl => ?_)
  refine ldg_a (Es := Es) (sl := sl_) hI3 hre (Nat.le_of_ble_eq_true rfl) (Nat.le_of_ble_eq_true rfl) (Nat.le_of_ble_eq_true rfl) (Nat.le_of_ble_eq_true rfl) hA hf hK 6 0 _ _ _ ls (by omega) hP hD hS (lv_sub hl (l' := [(3, .int 0), (1, .long 101), (0, .ref h0)]) [0, 1, 2] rfl) (fun hh H locs ls hP hD hS hl => ?_)
  refine lv_iconst (v := 0) hx hb dX10_digest_31 (by decide) ?_
  refine lv_istore_n (lv' := [(3, .int 0), (1, .long hh), (0, .ref h0)]) hx hb dX10_digest_32 rfl hl (by decide) rfl (fun ls hl => ?_)
  refine ldg_b (Es := Es) (sl := sl_) hI3 hre (Nat.le_of_ble_eq_true rfl) (Nat.le_of_ble_eq_true rfl) (Nat.le_of_ble_eq_true rfl) (Nat.le_of_ble_eq_true rfl) hA hf hK _ 0 _ _ _ ls (Nat.zero_add _) hP hD hS (lv_sub hl (l' := [(3, .int 0), (1, .long hh), (0, .ref h0)]) [0, 1, 2] rfl) (fun hh H locs ls hP hD hS hl => ?_)
  refine lv_ldc2 (v := 31) hx hb hown (hts _ k_1534) dX10_digest_171 ?_
  refine lv_lload_n hx hb dX10_digest_174 rfl (lv_at hl 0 rfl) ?_
  refine lv_lmul hx hb dX10_digest_175 ?_
  refine lv_aload_n hx hb dX10_digest_176 rfl (lv_at hl 1 rfl) ?_
  refine q_ci (k := 0) (n := 0) hK hP hD hS hA (fun hPc hKc hDc => q_rV (As := []) (rest := [.long (31 * hh)]) hf (r_pages _ D h0 q cB cI_ cZ I F pn lk 0 pe sl K Fm To Rr mo hpv hI2 hI14 hI20 (fun h9 => absurd h9 (by omega)) hlk hmo hSS _) k_1383 k_1536 k_1381 k_1382 k_98 (nA := 0) (by decide +kernel) ⟨Nat.le_of_ble_eq_true rfl, Nat.le_of_ble_eq_true rfl⟩ hK hP (ci := 11) (q0 := 0) rfl rfl rfl hPc hKc hDc (fun _ _ _ _ h => h) (fun _ _ _ => trivial) rfl hl.1 rfl (Nat.le_of_ble_eq_true rfl) dX10_digest_177 ⟨Nat.le_of_ble_eq_true rfl, Nat.le_of_ble_eq_true rfl⟩) (by decide) (by decide) (fun r u H locs hw hK hP hD hS => ?_)
  obtain hw := hw
  obtain ⟨_, hr9, I2, F2, hsm, rfl⟩ := hw.resolve_left (fun z => by have h9 := z.1; omega)
  obtain ⟨pgn, rfl⟩ : ∃ pgn : Nat, r = nI pgn := ⟨_, hr9⟩
  have hP : va_P D vcl (mW h0 q cB cI_ cZ I2 F2) H := hP
  have hD : va_D A (mW h0 q cB cI_ cZ I2 F2) := hD
  refine lv_i2l (v := ((nI pgn)).toInt64) hx hb dX10_digest_180 rfl ?_
  refine lv_ladd hx hb dX10_digest_181 ?_
  refine lv_lstore_n (lv' := [(1, .long ((31 * hh) + ((nI pgn)).toInt64)), (0, .ref h0)]) hx hb dX10_digest_182 rfl hl (by decide) rfl (fun ls hl => ?_)
  refine lv_aload_n hx hb dX10_digest_183 rfl (lv_at hl 1 rfl) ?_
  refine va_get (D := D) (ci := 11) (v := .int (I2 20)) (C := RX10) (T := TX10) (N := 48) hx hb hts inX10 hown hK hP 0 rfl rfl 20 (by decide) (hts _ k_1164) (fun _ h9 => h9) rfl dX10_digest_184 ?_
  refine q_seti (y := (nI lk)) (hsm.2.1.2.2.trans hI20) ?_
  refine lv_if_ne (tgt := 202) hx hb dX10_digest_187 (by decide) (fun c_1 => ?_) (fun c_1 => ?_)
  · have c_1 := q_nen (a := lk) (b := 0) (by omega) (by omega) c_1
    exact False.elim (by omega)
  · have c_1 := q_eqn (a := lk) (b := 0) (by omega) (by omega) c_1
    refine lv_ldc2 (v := 31) hx hb hown (hts _ k_1534) dX10_digest_190 ?_
    refine lv_lload_n hx hb dX10_digest_193 rfl (lv_at hl 0 rfl) ?_
    refine lv_lmul hx hb dX10_digest_194 ?_
    refine lv_aload_n hx hb dX10_digest_195 rfl (lv_at hl 1 rfl) ?_
    refine va_get (D := D) (ci := 11) (v := .int (I2 29)) (C := RX10) (T := TX10) (N := 48) hx hb hts inX10 hown hK hP 0 rfl rfl 29 (by decide) (hts _ k_1173) (fun _ h9 => h9) rfl dX10_digest_196 ?_
    refine lv_i2l (v := ((I2 29)).toInt64) hx hb dX10_digest_199 rfl ?_
    refine lv_ladd hx hb dX10_digest_200 ?_
    exact q_zl hf hr hlocks hK hP hD hS (Nat.le_of_ble_eq_true rfl) (Nat.le_of_ble_eq_true rfl) ⟨I2, F2, hsm, rfl⟩ dX10_digest_201
