abbrev cX10_bestEnd : ByteArray := prog_12_method_33_code
def yX10_bestEnd : MethodName := ⟨RX10, "bestEnd", "(II)V"⟩
theorem k_1174 : (Cond.fieldLink RX10 71 "ScriptDeskModel" "startOf" "[I") ∈ gT := gT_i 1174 (by decide +kernel) rfl
theorem k_1175 : (Cond.fieldLink RX10 74 "ScriptDeskModel" "costs" "[I") ∈ gT := gT_i 1175 (by decide +kernel) rfl
theorem k_1176 : (Cond.fieldLink RX10 77 "ScriptDeskModel" "endP" "[I") ∈ gT := gT_i 1176 (by decide +kernel) rfl
theorem k_1177 : (Cond.fieldLink RX10 80 "ScriptDeskModel" "endR" "[I") ∈ gT := gT_i 1177 (by decide +kernel) rfl
theorem k_1178 : (Cond.fieldLink RX10 83 "ScriptDeskModel" "rowsOn" "[I") ∈ gT := gT_i 1178 (by decide +kernel) rfl
theorem dX10_bestEnd_31 : decode cX10_bestEnd 31 = .ok (.iload 5, 2) := by decide +kernel
theorem dX10_bestEnd_33 : decode cX10_bestEnd 33 = .ok (.aload_n 0, 1) := by decide +kernel
theorem dX10_bestEnd_34 : decode cX10_bestEnd 34 = .ok (.getfield 158, 3) := by decide +kernel
theorem dX10_bestEnd_37 : decode cX10_bestEnd 37 = .ok (.if_icmp .ge 327, 3) := by decide +kernel
theorem dX10_bestEnd_40 : decode cX10_bestEnd 40 = .ok (.iload 4, 2) := by decide +kernel
theorem dX10_bestEnd_42 : decode cX10_bestEnd 42 = .ok (.aload_n 0, 1) := by decide +kernel
theorem dX10_bestEnd_43 : decode cX10_bestEnd 43 = .ok (.getfield 13, 3) := by decide +kernel
theorem dX10_bestEnd_46 : decode cX10_bestEnd 46 = .ok (.if_icmp .gt 318, 3) := by decide +kernel
theorem dX10_bestEnd_49 : decode cX10_bestEnd 49 = .ok (.iload 4, 2) := by decide +kernel
theorem dX10_bestEnd_76 : decode cX10_bestEnd 76 = .ok (.iadd, 1) := by decide +kernel
theorem dX10_bestEnd_77 : decode cX10_bestEnd 77 = .ok (.istore 4, 2) := by decide +kernel
theorem dX10_bestEnd_79 : decode cX10_bestEnd 79 = .ok (.iinc 4 1, 3) := by decide +kernel
theorem dX10_bestEnd_82 : decode cX10_bestEnd 82 = .ok (.iinc 6 1, 3) := by decide +kernel
theorem dX10_bestEnd_85 : decode cX10_bestEnd 85 = .ok (.iload 6, 2) := by decide +kernel
theorem dX10_bestEnd_87 : decode cX10_bestEnd 87 = .ok (.aload_n 0, 1) := by decide +kernel
theorem dX10_bestEnd_88 : decode cX10_bestEnd 88 = .ok (.iload 5, 2) := by decide +kernel
theorem dX10_bestEnd_90 : decode cX10_bestEnd 90 = .ok (.invokevirtual 198, 3) := by decide +kernel
theorem dX10_bestEnd_93 : decode cX10_bestEnd 93 = .ok (.if_icmp .ne 7, 3) := by decide +kernel
theorem dX10_bestEnd_100 : decode cX10_bestEnd 100 = .ok (.iconst 0, 1) := by decide +kernel
theorem dX10_bestEnd_101 : decode cX10_bestEnd 101 = .ok (.istore 7, 2) := by decide +kernel
theorem dX10_bestEnd_103 : decode cX10_bestEnd 103 = .ok (.iload 4, 2) := by decide +kernel
theorem dX10_bestEnd_105 : decode cX10_bestEnd 105 = .ok (.aload_n 0, 1) := by decide +kernel
theorem dX10_bestEnd_106 : decode cX10_bestEnd 106 = .ok (.iload 5, 2) := by decide +kernel
theorem dX10_bestEnd_108 : decode cX10_bestEnd 108 = .ok (.iload 6, 2) := by decide +kernel
theorem dX10_bestEnd_110 : decode cX10_bestEnd 110 = .ok (.aload_n 0, 1) := by decide +kernel
theorem dX10_bestEnd_111 : decode cX10_bestEnd 111 = .ok (.getfield 158, 3) := by decide +kernel
theorem dX10_bestEnd_114 : decode cX10_bestEnd 114 = .ok (.invokevirtual 211, 3) := by decide +kernel
theorem dX10_bestEnd_117 : decode cX10_bestEnd 117 = .ok (.iadd, 1) := by decide +kernel
theorem dX10_bestEnd_118 : decode cX10_bestEnd 118 = .ok (.istore 8, 2) := by decide +kernel
theorem dX10_bestEnd_120 : decode cX10_bestEnd 120 = .ok (.iload 8, 2) := by decide +kernel
theorem dX10_bestEnd_122 : decode cX10_bestEnd 122 = .ok (.aload_n 0, 1) := by decide +kernel
theorem dX10_bestEnd_123 : decode cX10_bestEnd 123 = .ok (.getfield 13, 3) := by decide +kernel
theorem dX10_bestEnd_126 : decode cX10_bestEnd 126 = .ok (.if_icmp .gt 207, 3) := by decide +kernel
theorem dX10_bestEnd_333 : decode cX10_bestEnd 333 = .ok (.iload 5, 2) := by decide +kernel
theorem dX10_bestEnd_335 : decode cX10_bestEnd 335 = .ok (.iload 7, 2) := by decide +kernel
theorem dX10_bestEnd_337 : decode cX10_bestEnd 337 = .ok (.ifCond .eq 7, 3) := by decide +kernel
theorem dX10_bestEnd_344 : decode cX10_bestEnd 344 = .ok (.iconst 0, 1) := by decide +kernel
theorem dX10_bestEnd_345 : decode cX10_bestEnd 345 = .ok (.iadd, 1) := by decide +kernel
theorem dX10_bestEnd_346 : decode cX10_bestEnd 346 = .ok (.istore 5, 2) := by decide +kernel
theorem dX10_bestEnd_348 : decode cX10_bestEnd 348 = .ok (.iload 7, 2) := by decide +kernel
theorem dX10_bestEnd_350 : decode cX10_bestEnd 350 = .ok (.ifCond .eq 7, 3) := by decide +kernel
theorem dX10_bestEnd_357 : decode cX10_bestEnd 357 = .ok (.iload 6, 2) := by decide +kernel
theorem dX10_bestEnd_359 : decode cX10_bestEnd 359 = .ok (.istore 6, 2) := by decide +kernel
theorem dX10_bestEnd_361 : decode cX10_bestEnd 361 = .ok (.goto (-330), 3) := by decide +kernel
theorem dX10_bestEnd_129 : decode cX10_bestEnd 129 = .ok (.aload_n 0, 1) := by decide +kernel
theorem dX10_bestEnd_130 : decode cX10_bestEnd 130 = .ok (.iload_n 1, 1) := by decide +kernel
theorem dX10_bestEnd_131 : decode cX10_bestEnd 131 = .ok (.iload_n 2, 1) := by decide +kernel
theorem dX10_bestEnd_132 : decode cX10_bestEnd 132 = .ok (.iload 5, 2) := by decide +kernel
theorem dX10_bestEnd_134 : decode cX10_bestEnd 134 = .ok (.iload 6, 2) := by decide +kernel
theorem dX10_bestEnd_136 : decode cX10_bestEnd 136 = .ok (.aload_n 0, 1) := by decide +kernel
theorem dX10_bestEnd_137 : decode cX10_bestEnd 137 = .ok (.getfield 158, 3) := by decide +kernel
theorem dX10_bestEnd_140 : decode cX10_bestEnd 140 = .ok (.invokevirtual 214, 3) := by decide +kernel
theorem dX10_bestEnd_143 : decode cX10_bestEnd 143 = .ok (.ifCond .eq 190, 3) := by decide +kernel
theorem dX10_bestEnd_146 : decode cX10_bestEnd 146 = .ok (.aload_n 0, 1) := by decide +kernel
theorem dX10_bestEnd_147 : decode cX10_bestEnd 147 = .ok (.getfield 71, 3) := by decide +kernel
theorem dX10_bestEnd_150 : decode cX10_bestEnd 150 = .ok (.iload 5, 2) := by decide +kernel
theorem dX10_bestEnd_152 : decode cX10_bestEnd 152 = .ok (.iaload, 1) := by decide +kernel
theorem dX10_bestEnd_153 : decode cX10_bestEnd 153 = .ok (.iload 6, 2) := by decide +kernel
theorem dX10_bestEnd_155 : decode cX10_bestEnd 155 = .ok (.iadd, 1) := by decide +kernel
theorem dX10_bestEnd_156 : decode cX10_bestEnd 156 = .ok (.istore 9, 2) := by decide +kernel
theorem dX10_bestEnd_158 : decode cX10_bestEnd 158 = .ok (.iload 9, 2) := by decide +kernel
theorem dX10_bestEnd_160 : decode cX10_bestEnd 160 = .ok (.aload_n 0, 1) := by decide +kernel
theorem dX10_bestEnd_161 : decode cX10_bestEnd 161 = .ok (.getfield 71, 3) := by decide +kernel
theorem dX10_bestEnd_164 : decode cX10_bestEnd 164 = .ok (.aload_n 0, 1) := by decide +kernel
theorem dX10_bestEnd_165 : decode cX10_bestEnd 165 = .ok (.getfield 158, 3) := by decide +kernel
theorem dX10_bestEnd_168 : decode cX10_bestEnd 168 = .ok (.iaload, 1) := by decide +kernel
theorem dX10_bestEnd_169 : decode cX10_bestEnd 169 = .ok (.if_icmp .ne 7, 3) := by decide +kernel
theorem dX10_bestEnd_176 : decode cX10_bestEnd 176 = .ok (.iconst 0, 1) := by decide +kernel
theorem dX10_bestEnd_177 : decode cX10_bestEnd 177 = .ok (.istore 10, 2) := by decide +kernel
theorem dX10_bestEnd_179 : decode cX10_bestEnd 179 = .ok (.iload 10, 2) := by decide +kernel
theorem dX10_bestEnd_181 : decode cX10_bestEnd 181 = .ok (.ifCond .eq 7, 3) := by decide +kernel
theorem dX10_bestEnd_188 : decode cX10_bestEnd 188 = .ok (.aload_n 0, 1) := by decide +kernel
theorem dX10_bestEnd_189 : decode cX10_bestEnd 189 = .ok (.getfield 74, 3) := by decide +kernel
theorem dX10_bestEnd_192 : decode cX10_bestEnd 192 = .ok (.iload 9, 2) := by decide +kernel
theorem dX10_bestEnd_194 : decode cX10_bestEnd 194 = .ok (.iaload, 1) := by decide +kernel
theorem dX10_bestEnd_195 : decode cX10_bestEnd 195 = .ok (.istore 11, 2) := by decide +kernel
theorem dX10_bestEnd_197 : decode cX10_bestEnd 197 = .ok (.iload 11, 2) := by decide +kernel
theorem dX10_bestEnd_199 : decode cX10_bestEnd 199 = .ok (.iconst (-1), 1) := by decide +kernel
theorem dX10_bestEnd_200 : decode cX10_bestEnd 200 = .ok (.if_icmp .eq 133, 3) := by decide +kernel
theorem dX10_bestEnd_203 : decode cX10_bestEnd 203 = .ok (.iload 10, 2) := by decide +kernel
theorem dX10_bestEnd_205 : decode cX10_bestEnd 205 = .ok (.ifCond .eq 7, 3) := by decide +kernel
theorem dX10_bestEnd_212 : decode cX10_bestEnd 212 = .ok (.iload 11, 2) := by decide +kernel
theorem dX10_bestEnd_214 : decode cX10_bestEnd 214 = .ok (.aload_n 0, 1) := by decide +kernel
theorem dX10_bestEnd_215 : decode cX10_bestEnd 215 = .ok (.getfield 13, 3) := by decide +kernel
theorem dX10_bestEnd_218 : decode cX10_bestEnd 218 = .ok (.iload 8, 2) := by decide +kernel
theorem dX10_bestEnd_220 : decode cX10_bestEnd 220 = .ok (.isub, 1) := by decide +kernel
theorem dX10_bestEnd_221 : decode cX10_bestEnd 221 = .ok (.aload_n 0, 1) := by decide +kernel
theorem dX10_bestEnd_222 : decode cX10_bestEnd 222 = .ok (.getfield 13, 3) := by decide +kernel
theorem dX10_bestEnd_225 : decode cX10_bestEnd 225 = .ok (.iload 8, 2) := by decide +kernel
theorem dX10_bestEnd_227 : decode cX10_bestEnd 227 = .ok (.isub, 1) := by decide +kernel
theorem dX10_bestEnd_228 : decode cX10_bestEnd 228 = .ok (.imul, 1) := by decide +kernel
theorem dX10_bestEnd_229 : decode cX10_bestEnd 229 = .ok (.iadd, 1) := by decide +kernel
theorem dX10_bestEnd_230 : decode cX10_bestEnd 230 = .ok (.iload 7, 2) := by decide +kernel
theorem dX10_bestEnd_232 : decode cX10_bestEnd 232 = .ok (.ifCond .eq 7, 3) := by decide +kernel
theorem dX10_bestEnd_239 : decode cX10_bestEnd 239 = .ok (.aload_n 0, 1) := by decide +kernel
theorem dX10_bestEnd_240 : decode cX10_bestEnd 240 = .ok (.iload 5, 2) := by decide +kernel
theorem dX10_bestEnd_242 : decode cX10_bestEnd 242 = .ok (.invokevirtual 195, 3) := by decide +kernel
theorem dX10_bestEnd_245 : decode cX10_bestEnd 245 = .ok (.iconst 4, 1) := by decide +kernel
theorem dX10_bestEnd_246 : decode cX10_bestEnd 246 = .ok (.if_icmp .ne 8, 3) := by decide +kernel
theorem dX10_bestEnd_254 : decode cX10_bestEnd 254 = .ok (.bipush 10, 2) := by decide +kernel
theorem dX10_bestEnd_256 : decode cX10_bestEnd 256 = .ok (.iadd, 1) := by decide +kernel
theorem dX10_bestEnd_257 : decode cX10_bestEnd 257 = .ok (.istore 12, 2) := by decide +kernel
theorem dX10_bestEnd_259 : decode cX10_bestEnd 259 = .ok (.aload_n 0, 1) := by decide +kernel
theorem dX10_bestEnd_260 : decode cX10_bestEnd 260 = .ok (.getfield 74, 3) := by decide +kernel
theorem dX10_bestEnd_263 : decode cX10_bestEnd 263 = .ok (.iload_n 3, 1) := by decide +kernel
theorem dX10_bestEnd_264 : decode cX10_bestEnd 264 = .ok (.iaload, 1) := by decide +kernel
theorem dX10_bestEnd_265 : decode cX10_bestEnd 265 = .ok (.iconst (-1), 1) := by decide +kernel
theorem dX10_bestEnd_266 : decode cX10_bestEnd 266 = .ok (.if_icmp .eq 14, 3) := by decide +kernel
theorem dX10_bestEnd_280 : decode cX10_bestEnd 280 = .ok (.aload_n 0, 1) := by decide +kernel
theorem dX10_bestEnd_281 : decode cX10_bestEnd 281 = .ok (.getfield 74, 3) := by decide +kernel
theorem dX10_bestEnd_284 : decode cX10_bestEnd 284 = .ok (.iload_n 3, 1) := by decide +kernel
theorem dX10_bestEnd_285 : decode cX10_bestEnd 285 = .ok (.iload 12, 2) := by decide +kernel
theorem dX10_bestEnd_287 : decode cX10_bestEnd 287 = .ok (.iastore, 1) := by decide +kernel
theorem dX10_bestEnd_288 : decode cX10_bestEnd 288 = .ok (.aload_n 0, 1) := by decide +kernel
theorem dX10_bestEnd_289 : decode cX10_bestEnd 289 = .ok (.getfield 77, 3) := by decide +kernel
theorem dX10_bestEnd_292 : decode cX10_bestEnd 292 = .ok (.iload_n 3, 1) := by decide +kernel
theorem dX10_bestEnd_293 : decode cX10_bestEnd 293 = .ok (.iload 7, 2) := by decide +kernel
theorem dX10_bestEnd_295 : decode cX10_bestEnd 295 = .ok (.ifCond .eq 10, 3) := by decide +kernel
theorem dX10_bestEnd_305 : decode cX10_bestEnd 305 = .ok (.iload 5, 2) := by decide +kernel
theorem dX10_bestEnd_307 : decode cX10_bestEnd 307 = .ok (.iastore, 1) := by decide +kernel
theorem dX10_bestEnd_308 : decode cX10_bestEnd 308 = .ok (.aload_n 0, 1) := by decide +kernel
theorem dX10_bestEnd_309 : decode cX10_bestEnd 309 = .ok (.getfield 80, 3) := by decide +kernel
theorem dX10_bestEnd_312 : decode cX10_bestEnd 312 = .ok (.iload_n 3, 1) := by decide +kernel
theorem dX10_bestEnd_313 : decode cX10_bestEnd 313 = .ok (.iload 7, 2) := by decide +kernel
theorem dX10_bestEnd_315 : decode cX10_bestEnd 315 = .ok (.ifCond .eq 7, 3) := by decide +kernel
theorem dX10_bestEnd_322 : decode cX10_bestEnd 322 = .ok (.iload 6, 2) := by decide +kernel
theorem dX10_bestEnd_324 : decode cX10_bestEnd 324 = .ok (.iastore, 1) := by decide +kernel
theorem dX10_bestEnd_325 : decode cX10_bestEnd 325 = .ok (.aload_n 0, 1) := by decide +kernel
theorem dX10_bestEnd_326 : decode cX10_bestEnd 326 = .ok (.getfield 83, 3) := by decide +kernel
theorem dX10_bestEnd_329 : decode cX10_bestEnd 329 = .ok (.iload_n 3, 1) := by decide +kernel
theorem dX10_bestEnd_330 : decode cX10_bestEnd 330 = .ok (.iload 8, 2) := by decide +kernel
theorem dX10_bestEnd_332 : decode cX10_bestEnd 332 = .ok (.iastore, 1) := by decide +kernel
theorem dX10_bestEnd_269 : decode cX10_bestEnd 269 = .ok (.iload 12, 2) := by decide +kernel
theorem dX10_bestEnd_271 : decode cX10_bestEnd 271 = .ok (.aload_n 0, 1) := by decide +kernel
theorem dX10_bestEnd_272 : decode cX10_bestEnd 272 = .ok (.getfield 74, 3) := by decide +kernel
theorem dX10_bestEnd_275 : decode cX10_bestEnd 275 = .ok (.iload_n 3, 1) := by decide +kernel
theorem dX10_bestEnd_276 : decode cX10_bestEnd 276 = .ok (.iaload, 1) := by decide +kernel
theorem dX10_bestEnd_277 : decode cX10_bestEnd 277 = .ok (.if_icmp .gt 56, 3) := by decide +kernel
theorem dX10_bestEnd_249 : decode cX10_bestEnd 249 = .ok (.bipush 30, 2) := by decide +kernel
theorem dX10_bestEnd_251 : decode cX10_bestEnd 251 = .ok (.goto 5, 3) := by decide +kernel
theorem dX10_bestEnd_172 : decode cX10_bestEnd 172 = .ok (.iconst 1, 1) := by decide +kernel
theorem dX10_bestEnd_173 : decode cX10_bestEnd 173 = .ok (.goto 4, 3) := by decide +kernel
theorem dX10_bestEnd_184 : decode cX10_bestEnd 184 = .ok (.iconst 0, 1) := by decide +kernel
theorem dX10_bestEnd_185 : decode cX10_bestEnd 185 = .ok (.goto 10, 3) := by decide +kernel
theorem dX10_bestEnd_208 : decode cX10_bestEnd 208 = .ok (.iconst 0, 1) := by decide +kernel
theorem dX10_bestEnd_209 : decode cX10_bestEnd 209 = .ok (.goto 48, 3) := by decide +kernel
theorem dX10_bestEnd_96 : decode cX10_bestEnd 96 = .ok (.iconst 1, 1) := by decide +kernel
theorem dX10_bestEnd_97 : decode cX10_bestEnd 97 = .ok (.goto 4, 3) := by decide +kernel
theorem dX10_bestEnd_340 : decode cX10_bestEnd 340 = .ok (.iconst 1, 1) := by decide +kernel
theorem dX10_bestEnd_341 : decode cX10_bestEnd 341 = .ok (.goto 4, 3) := by decide +kernel
theorem dX10_bestEnd_353 : decode cX10_bestEnd 353 = .ok (.iconst 0, 1) := by decide +kernel
theorem dX10_bestEnd_354 : decode cX10_bestEnd 354 = .ok (.goto 5, 3) := by decide +kernel
theorem dX10_bestEnd_235 : decode cX10_bestEnd 235 = .ok (.iconst 0, 1) := by decide +kernel
theorem dX10_bestEnd_236 : decode cX10_bestEnd 236 = .ok (.goto 20, 3) := by decide +kernel
theorem dX10_bestEnd_298 : decode cX10_bestEnd 298 = .ok (.iload 5, 2) := by decide +kernel
theorem dX10_bestEnd_300 : decode cX10_bestEnd 300 = .ok (.iconst 1, 1) := by decide +kernel
theorem dX10_bestEnd_301 : decode cX10_bestEnd 301 = .ok (.iadd, 1) := by decide +kernel
theorem dX10_bestEnd_302 : decode cX10_bestEnd 302 = .ok (.goto 5, 3) := by decide +kernel
theorem dX10_bestEnd_318 : decode cX10_bestEnd 318 = .ok (.iconst 0, 1) := by decide +kernel
theorem dX10_bestEnd_319 : decode cX10_bestEnd 319 = .ok (.goto 5, 3) := by decide +kernel
theorem dX10_bestEnd_51 : decode cX10_bestEnd 51 = .ok (.iload 5, 2) := by decide +kernel
theorem dX10_bestEnd_53 : decode cX10_bestEnd 53 = .ok (.iload_n 1, 1) := by decide +kernel
theorem dX10_bestEnd_54 : decode cX10_bestEnd 54 = .ok (.if_icmp .le 21, 3) := by decide +kernel
theorem dX10_bestEnd_75 : decode cX10_bestEnd 75 = .ok (.iconst 0, 1) := by decide +kernel
theorem dX10_bestEnd_57 : decode cX10_bestEnd 57 = .ok (.iload 6, 2) := by decide +kernel
theorem dX10_bestEnd_59 : decode cX10_bestEnd 59 = .ok (.ifCond .ne 16, 3) := by decide +kernel
theorem dX10_bestEnd_62 : decode cX10_bestEnd 62 = .ok (.aload_n 0, 1) := by decide +kernel
theorem dX10_bestEnd_63 : decode cX10_bestEnd 63 = .ok (.iload 5, 2) := by decide +kernel
theorem dX10_bestEnd_65 : decode cX10_bestEnd 65 = .ok (.invokevirtual 208, 3) := by decide +kernel
theorem dX10_bestEnd_68 : decode cX10_bestEnd 68 = .ok (.ifCond .eq 7, 3) := by decide +kernel
theorem dX10_bestEnd_71 : decode cX10_bestEnd 71 = .ok (.iconst 1, 1) := by decide +kernel
theorem dX10_bestEnd_72 : decode cX10_bestEnd 72 = .ok (.goto 4, 3) := by decide +kernel
abbrev Q4 : Type := Nat × Nat × Nat × Nat
def bk_try (b : Option Q4) (co p2 i2 tt : Nat) : Option Q4 := match b with
  | none => some (co, p2, i2, tt)
  | some y => if co ≤ y.1 then some (co, p2, i2, tt) else some y
def bk_new (C : Nat → Option Q4) (to_ sen mo kc : Nat) (b : Option Q4) (p2 i2 tt : Nat) : Option Q4 := if to_ = sen then bk_try b 0 p2 i2 tt else match C to_ with
  | none => b
  | some x => bk_try b (x.1 + (mo - tt) * (mo - tt) + kc) p2 i2 tt
/-- the best end of a page that begins at (p0, r0) -/
noncomputable def bk_lay (C : Nat → Option Q4) (K : Nat → Int32) (Fm To Rr : Nat → Nat) (p0 r0 en mo : Nat) : Nat → Nat → Nat → Nat → Option Q4 → Option Q4
  | 0, _, _, _, b => b
  | f + 1, p, i, rows, b => pif (p < en ∧ rows + pb (p0 < p ∧ i = 0 ∧ rp_he (K p) (Fm p)) + 1 ≤ mo)
      (bk_lay C K Fm To Rr p0 r0 en mo f (if i + 1 = To p - Fm p then p + 1 else p) (if i + 1 = To p - Fm p then 0 else i + 1) (rows + pb (p0 < p ∧ i = 0 ∧ rp_he (K p) (Fm p)) + 1)
        (pif (rows + pb (p0 < p ∧ i = 0 ∧ rp_he (K p) (Fm p)) + 1 + pb (rp_rb (K p) (Fm p) (To p) (Rr p) p (i + 1) en) ≤ mo ∧ rp_me (K p) (To p - Fm p) p0 r0 p (i + 1) en)
          (bk_new C (rs_S Fm To p + (i + 1)) (rs_S Fm To en) mo (if i + 1 = To p - Fm p then 0 else pif (K p = 4) 30 10) b (if i + 1 = To p - Fm p then p + 1 else p) (if i + 1 = To p - Fm p then 0 else i + 1) (rows + pb (p0 < p ∧ i = 0 ∧ rp_he (K p) (Fm p)) + 1 + pb (rp_rb (K p) (Fm p) (To p) (Rr p) p (i + 1) en))) b)) b
theorem bk_stop {C : Nat → Option Q4} {K : Nat → Int32} {Fm To Rr : Nat → Nat} {p0 r0 en mo f p i rows : Nat} {b : Option Q4} (h : ¬ (p < en ∧ rows + 1 ≤ mo)) : bk_lay C K Fm To Rr p0 r0 en mo f p i rows b = b := by
  cases f with
  | zero => rfl
  | succ f => exact pif_n (fun z => h ⟨z.1, by omega⟩)
theorem bk_out {C : Nat → Option Q4} {K : Nat → Int32} {Fm To Rr : Nat → Nat} {p0 r0 en mo f f2 p i rows p2 i2 dd : Nat} {b : Option Q4} (edd : dd = pb (p0 < p ∧ i = 0 ∧ rp_he (K p) (Fm p))) (h : ¬ rows + dd + 1 ≤ mo) : bk_lay C K Fm To Rr p0 r0 en mo f2 p2 i2 (rows + dd + 1) b = bk_lay C K Fm To Rr p0 r0 en mo (f + 1) p i rows b := by
  rw [bk_stop (by omega)]
  rw [edd] at h
  exact (pif_n (fun z => h z.2)).symm
theorem bk_in {C : Nat → Option Q4} {K : Nat → Int32} {Fm To Rr : Nat → Nat} {p0 r0 en mo f p i rows dd tb mb p2 i2 : Nat} {b b2 : Option Q4} (h1 : p < en) (h2 : rows + dd + 1 ≤ mo) (edd : dd = pb (p0 < p ∧ i = 0 ∧ rp_he (K p) (Fm p))) (etb : tb = pb (rp_rb (K p) (Fm p) (To p) (Rr p) p (i + 1) en)) (emb : rows + dd + 1 + tb ≤ mo → mb = pb (rp_me (K p) (To p - Fm p) p0 r0 p (i + 1) en)) (ep : p2 = if i + 1 = To p - Fm p then p + 1 else p) (ei : i2 = if i + 1 = To p - Fm p then 0 else i + 1)
    (eb : b2 = if rows + dd + 1 + tb ≤ mo ∧ ¬ mb = 0 then bk_new C (rs_S Fm To p + (i + 1)) (rs_S Fm To en) mo (if i + 1 = To p - Fm p then 0 else pif (K p = 4) 30 10) b p2 i2 (rows + dd + 1 + tb) else b) : bk_lay C K Fm To Rr p0 r0 en mo f p2 i2 (rows + dd + 1) b2 = bk_lay C K Fm To Rr p0 r0 en mo (f + 1) p i rows b := by
  refine ((pif_p (by rw [← edd]; exact ⟨h1, h2⟩)).trans ?_).symm
  rw [← edd, ← etb, ← ep, ← ei, eb]
  by_cases hc : rows + dd + 1 + tb ≤ mo
  · have emb := emb hc
    by_cases hm : rp_me (K p) (To p - Fm p) p0 r0 p (i + 1) en
    · rw [pif_p ⟨hc, hm⟩, if_pos (show rows + dd + 1 + tb ≤ mo ∧ ¬ mb = 0 from ⟨hc, by rw [emb, pb_1 hm]; decide⟩)]
    · rw [pif_n (fun z => hm z.2), if_neg (show ¬ (rows + dd + 1 + tb ≤ mo ∧ ¬ mb = 0) from fun z => z.2 (emb.trans (pb_0 hm)))]
  · rw [pif_n (fun z => hc z.1), if_neg (show ¬ (rows + dd + 1 + tb ≤ mo ∧ ¬ mb = 0) from fun z => hc z.1)]
/-- what the four rows hold of an end -/
def bk_is (b : Option Q4) (v1 v2 v3 v4 : Int32) : Prop := match b with
  | none => v1 = -1
  | some y => v1 = nI y.1 ∧ v2 = nI y.2.1 ∧ v3 = nI y.2.2.1 ∧ v4 = nI y.2.2.2
/-- an end of a page that begins at place j: what it costs, where it is -/
def bk_ok (Fm To : Nat → Nat) (pn j : Nat) (b : Option Q4) : Prop := ∀ y, b = some y → y.1 ≤ 1640 * (rs_S Fm To pn - j) ∧ y.2.2.2 ≤ 40 ∧ y.2.1 ≤ pn ∧ (y.2.1 < pn → y.2.2.1 < To y.2.1 - Fm y.2.1) ∧ (y.2.1 = pn → y.2.2.1 = 0) ∧ j < rs_S Fm To y.2.1 + y.2.2.1
theorem bk_ok_n {Fm To : Nat → Nat} {pn j : Nat} : bk_ok Fm To pn j none := fun y h => by cases h
theorem bk_ok_try {Fm To : Nat → Nat} {pn j co p2 i2 tt : Nat} {b : Option Q4} (h : bk_ok Fm To pn j b) (h1 : co ≤ 1640 * (rs_S Fm To pn - j)) (h2 : tt ≤ 40) (h3 : p2 ≤ pn) (h4 : p2 < pn → i2 < To p2 - Fm p2) (h5 : p2 = pn → i2 = 0) (h6 : j < rs_S Fm To p2 + i2) : bk_ok Fm To pn j (bk_try b co p2 i2 tt) := by
  have h9 : bk_ok Fm To pn j (some (co, p2, i2, tt)) := fun y e => by cases e; exact ⟨h1, h2, h3, h4, h5, h6⟩
  cases b with
  | none => exact h9
  | some y =>
    show bk_ok Fm To pn j (if co ≤ y.1 then some (co, p2, i2, tt) else some y)
    by_cases hc : co ≤ y.1
    · rw [if_pos hc]; exact h9
    · rw [if_neg hc]; exact h
theorem bk_try_n {co p2 i2 tt : Nat} : bk_try none co p2 i2 tt = some (co, p2, i2, tt) := rfl
theorem bk_try_p {co p2 i2 tt : Nat} {y : Q4} (h : co ≤ y.1) : bk_try (some y) co p2 i2 tt = some (co, p2, i2, tt) := if_pos h
theorem bk_try_g {co p2 i2 tt : Nat} {y : Q4} (h : ¬ co ≤ y.1) : bk_try (some y) co p2 i2 tt = some y := if_neg h
theorem rs_S_le {Fm To : Nat → Nat} {p pn : Nat} (h : p < pn) : rs_S Fm To p + (To p - Fm p) ≤ rs_S Fm To pn := by
  have h2 := rs_S_mono Fm To (pn - (p + 1)) (p + 1)
  rw [show p + 1 + (pn - (p + 1)) = pn by omega] at h2
  exact h2
def bk_tab (Fm To : Nat → Nat) (pn : Nat) (C : Nat → Option Q4) (lo : Nat) (f1 f2 f3 f4 : Nat → Int32) : Prop := ∀ j, lo ≤ j → j < rs_S Fm To pn → bk_is (C j) (f1 j) (f2 j) (f3 j) (f4 j) ∧ bk_ok Fm To pn j (C j)
theorem bk_tab_k {Fm To : Nat → Nat} {pn lo : Nat} {C : Nat → Option Q4} {f1 f2 f3 f4 : Nat → Int32} {v1 v2 v3 v4 : Int32} (h : bk_tab Fm To pn C (lo + 1) f1 f2 f3 f4) : bk_tab Fm To pn C (lo + 1) (upd f1 lo v1) (upd f2 lo v2) (upd f3 lo v3) (upd f4 lo v4) := by
  intro j h3 h4
  have e : j ≠ lo := by omega
  rw [pk_un e, pk_un e, pk_un e, pk_un e]; exact h j h3 h4
theorem bk_tab_s {Fm To : Nat → Nat} {pn lo : Nat} {C : Nat → Option Q4} {f1 f2 f3 f4 : Nat → Int32} {b : Option Q4} (h : bk_tab Fm To pn C (lo + 1) f1 f2 f3 f4) (h1 : bk_is b (f1 lo) (f2 lo) (f3 lo) (f4 lo)) (h2 : bk_ok Fm To pn lo b) : bk_tab Fm To pn (va_up C lo b) lo f1 f2 f3 f4 := by
  intro j h3 h4
  by_cases e : j = lo
  · rw [e, va_up_self]; exact ⟨h1, h2⟩
  · rw [va_up_ne _ _ e]; exact h j (by omega) h4
theorem bk_uu {f : Nat → Int32} {a : Nat} {v w : Int32} : upd (upd f a v) a w = upd f a w := by
  funext j
  by_cases e : j = a
  · rw [e, pk_us, pk_us]
  · rw [pk_un e, pk_un e, pk_un e]
theorem rs_S_1 {Fm To : Nat → Nat} {p i : Nat} (h : i < To p - Fm p) : rs_S Fm To (if i + 1 = To p - Fm p then p + 1 else p) + (if i + 1 = To p - Fm p then 0 else i + 1) = rs_S Fm To p + (i + 1) := by
  by_cases hz : i + 1 = To p - Fm p
  · rw [if_pos hz, if_pos hz]
    show rs_S Fm To p + (To p - Fm p) + 0 = _
    omega
  · rw [if_neg hz, if_neg hz]
theorem q_nem {a : Nat} {v : Int32} (hv : v < 0) (ha : a < 2 ^ 31) : ¬ nI a = v := fun h => nI_pos ha (h ▸ hv)
theorem bk_new_l {C : Nat → Option Q4} {to_ sen mo kc p2 i2 tt : Nat} {b : Option Q4} (h : to_ = sen) : bk_new C to_ sen mo kc b p2 i2 tt = bk_try b 0 p2 i2 tt := if_pos h
theorem bk_new_n {C : Nat → Option Q4} {to_ sen mo kc p2 i2 tt : Nat} {b : Option Q4} (h : ¬ to_ = sen) (hc : C to_ = none) : bk_new C to_ sen mo kc b p2 i2 tt = b := by
  unfold bk_new
  rw [if_neg h, hc]
theorem bk_new_s {C : Nat → Option Q4} {to_ sen mo kc kc2 p2 i2 tt : Nat} {b : Option Q4} {x : Q4} (h : ¬ to_ = sen) (hc : C to_ = some x) (hk : kc = kc2) : bk_new C to_ sen mo kc b p2 i2 tt = bk_try b (x.1 + (mo - tt) * (mo - tt) + kc2) p2 i2 tt := by
  unfold bk_new
  rw [if_neg h, hc, hk]
set_option maxHeartbeats 1000000 in
set_option maxRecDepth 100000 in
theorem lb_end {p : Program} {l : Launch} {e : Env} {R : Room} {s : State} {m : MethodId} {args : Array Value} {below : List Frame} {meth : Method} {c : Code} {cells slots : Nat} {Q : State → Prop} {D : va_G} {A : Nat → Prop} {h0 : Nat} {q : Nat → Nat} {cB cI cZ : ClassId} {I : Nat → Int32} {F : Nat → Nat → Int32} {pn : Nat} {pe sl : Nat → Nat} {K : Nat → Int32} {Fm To Rr : Nat → Nat} {p0 r0 at_ mo : Nat} {C : Nat → Option Q4} (hpv : rp_ok F pn pe sl K Fm To Rr) (hI2 : I 2 = nI mo) (hI14 : I 14 = nI pn) (hmo : mo ≤ 40) (hp0 : p0 < pn) (hr0 : r0 ≤ 121) (hat : at_ = rs_S Fm To p0 + r0) (hSS : rs_S Fm To pn ≤ 8000) (hSt : ∀ p, p ≤ pn → F 30 p = nI (rs_S Fm To p)) (hRf : 3 ≤ R.frames) (hRl : 80 ≤ R.locals) (hRc : cells ≤ R.cells) (hRs : slots ≤ R.slots) (hA : ∀ q : Nat, s.heap.size ≤ q → A q) (hf : CallFix p m c cX10_bestEnd 13 s args gT yX10_bestEnd.cls) (hK : va_K D vcl (mT cB cI cZ) s) :
    ∀ (k : Nat) (pq : Nat) (i : Nat) (rows : Nat) (f31 : Nat → Int32) (f32 : Nat → Int32) (f33 : Nat → Int32) (f34 : Nat → Int32) (b : Option Q4) (H : Heap) (locs : List Loc) (ls : Array Slot), mo + 1 ≤ rows + k → rows ≤ mo + 2 → pq ≤ pn → (pq < pn → i < To pq - Fm pq) → bk_is b (f31 at_) (f32 at_) (f33 at_) (f34 at_) → bk_ok Fm To pn at_ b → (pq = p0 → r0 ≤ i) → p0 ≤ pq → at_ ≤ rs_S Fm To pq + i → bk_tab Fm To pn C (at_ + 1) f31 f32 f33 f34 →  va_P D vcl (mW h0 q cB cI cZ I (va_up (va_up (va_up (va_up F 31 f31) 32 f32) 33 f33) 34 f34)) H → va_D A (mW h0 q cB cI cZ I (va_up (va_up (va_up (va_up F 31 f31) 32 f32) 33 f33) 34 f34)) → va_S A s.heap H locs → lv_has ls 13 [(6, .int (nI i)), (5, .int (nI pq)), (4, .int (nI rows)), (3, .int (nI at_)), (2, .int (nI r0)), (1, .int (nI p0)), (0, .ref h0)] →
    (∀ (b2 : Option Q4) (w1 : Nat → Int32) (w2 : Nat → Int32) (w3 : Nat → Int32) (w4 : Nat → Int32) (H : Heap) (locs : List Loc) (ls : Array Slot), b2 = bk_lay C K Fm To Rr p0 r0 pn mo k pq i rows b → bk_is b2 (w1 at_) (w2 at_) (w3 at_) (w4 at_) → bk_ok Fm To pn at_ b2 → bk_tab Fm To pn C (at_ + 1) w1 w2 w3 w4 → va_P D vcl (mW h0 q cB cI cZ I (va_up (va_up (va_up (va_up F 31 w1) 32 w2) 33 w3) 34 w4)) H → va_D A (mW h0 q cB cI cZ I (va_up (va_up (va_up (va_up F 31 w1) 32 w2) 33 w3) 34 w4)) → va_S A s.heap H locs → lv_has ls 13 [(0, .ref h0)] → W p l e R s m args below meth c H locs cells slots Q (F0 m 364 ls [])) →
    W p l e R s m args below meth c H locs cells slots Q (F0 m 31 ls []) := by
  obtain ⟨hx, hb, hml, hown, hts⟩ := id hf
  have hpn8 := hpv.1
  intro k
  induction k with
  | zero =>
    intro pq i rows f31 f32 f33 f34 b H locs ls hik hrw hpq hiZ hb9 hbo hri hppq hat2 hC hP hD hS hl kk
    refine lv_iload hx hb dX10_bestEnd_31 (lv_at hl 1 rfl) ?_
    refine lv_aload_n hx hb dX10_bestEnd_33 rfl (lv_at hl 6 rfl) ?_
    refine va_get (D := D) (ci := 11) (v := .int (I 14)) (C := RX10) (T := TX10) (N := 48) hx hb hts inX10 hown hK hP 0 rfl rfl 14 (by decide) (hts _ k_1158) (fun _ h9 => h9) rfl dX10_bestEnd_34 ?_
    refine q_seti (y := (nI pn)) hI14 ?_
    refine lv_icmp_ge (tgt := 364) hx hb dX10_bestEnd_37 (by decide) (fun c_1 => ?_) (fun c_1 => ?_)
    · have c_1 := q_le (a := pn) (b := pq) (by omega) (by omega) c_1
      exact kk b f31 f32 f33 f34 H locs ls (bk_stop (by omega)).symm hb9 hbo hC hP hD hS (lv_sub hl (l' := [(0, .ref h0)]) [6] rfl)
    · have c_1 := q_nle (a := pn) (b := pq) (by omega) (by omega) c_1
      have hZ := hiZ (by omega)
      have hpvq := hpv.2 pq (by omega)
      have hs1 := rs_S_end (Fm := Fm) (To := To) (show pq ≤ pn by omega) hiZ (fun z => absurd z (by omega))
      have hs2 := rs_S_1 hZ
      have hs3 := rs_S_le (Fm := Fm) (To := To) (show pq < pn by omega)
      refine lv_iload hx hb dX10_bestEnd_40 (lv_at hl 2 rfl) ?_
      refine lv_aload_n hx hb dX10_bestEnd_42 rfl (lv_at hl 6 rfl) ?_
      refine va_get (D := D) (ci := 11) (v := .int (I 2)) (C := RX10) (T := TX10) (N := 48) hx hb hts inX10 hown hK hP 0 rfl rfl 2 (by decide) (hts _ k_1146) (fun _ h9 => h9) rfl dX10_bestEnd_43 ?_
      refine q_seti (y := (nI mo)) hI2 ?_
      refine lv_icmp_gt (tgt := 364) hx hb dX10_bestEnd_46 (by decide) (fun c_2 => ?_) (fun c_2 => ?_)
      · have c_2 := q_lt (a := mo) (b := rows) (by omega) (by omega) c_2
        exact kk b f31 f32 f33 f34 H locs ls (bk_stop (by omega)).symm hb9 hbo hC hP hD hS (lv_sub hl (l' := [(0, .ref h0)]) [6] rfl)
      · have c_2 := q_nlt (a := mo) (b := rows) (by omega) (by omega) c_2
        exact absurd hik (by omega)
  | succ k ih =>
    intro pq i rows f31 f32 f33 f34 b H locs ls hik hrw hpq hiZ hb9 hbo hri hppq hat2 hC hP hD hS hl kk
    refine lv_iload hx hb dX10_bestEnd_31 (lv_at hl 1 rfl) ?_
    refine lv_aload_n hx hb dX10_bestEnd_33 rfl (lv_at hl 6 rfl) ?_
    refine va_get (D := D) (ci := 11) (v := .int (I 14)) (C := RX10) (T := TX10) (N := 48) hx hb hts inX10 hown hK hP 0 rfl rfl 14 (by decide) (hts _ k_1158) (fun _ h9 => h9) rfl dX10_bestEnd_34 ?_
    refine q_seti (y := (nI pn)) hI14 ?_
    refine lv_icmp_ge (tgt := 364) hx hb dX10_bestEnd_37 (by decide) (fun c_1 => ?_) (fun c_1 => ?_)
    · have c_1 := q_le (a := pn) (b := pq) (by omega) (by omega) c_1
      exact kk b f31 f32 f33 f34 H locs ls (bk_stop (by omega)).symm hb9 hbo hC hP hD hS (lv_sub hl (l' := [(0, .ref h0)]) [6] rfl)
    · have c_1 := q_nle (a := pn) (b := pq) (by omega) (by omega) c_1
      have hZ := hiZ (by omega)
      have hpvq := hpv.2 pq (by omega)
      have hs1 := rs_S_end (Fm := Fm) (To := To) (show pq ≤ pn by omega) hiZ (fun z => absurd z (by omega))
      have hs2 := rs_S_1 hZ
      have hs3 := rs_S_le (Fm := Fm) (To := To) (show pq < pn by omega)
      refine lv_iload hx hb dX10_bestEnd_40 (lv_at hl 2 rfl) ?_
      refine lv_aload_n hx hb dX10_bestEnd_42 rfl (lv_at hl 6 rfl) ?_
      refine va_get (D := D) (ci := 11) (v := .int (I 2)) (C := RX10) (T := TX10) (N := 48) hx hb hts inX10 hown hK hP 0 rfl rfl 2 (by decide) (hts _ k_1146) (fun _ h9 => h9) rfl dX10_bestEnd_43 ?_
      refine q_seti (y := (nI mo)) hI2 ?_
      refine lv_icmp_gt (tgt := 364) hx hb dX10_bestEnd_46 (by decide) (fun c_2 => ?_) (fun c_2 => ?_)
      · have c_2 := q_lt (a := mo) (b := rows) (by omega) (by omega) c_2
        exact kk b f31 f32 f33 f34 H locs ls (bk_stop (by omega)).symm hb9 hbo hC hP hD hS (lv_sub hl (l' := [(0, .ref h0)]) [6] rfl)
      · have c_2 := q_nlt (a := mo) (b := rows) (by omega) (by omega) c_2
        refine lv_iload hx hb dX10_bestEnd_49 (lv_at hl 2 rfl) ?_
        have key : ∀ (dd : Nat) (H : Heap) (locs : List Loc) (ls : Array Slot), dd = pb (p0 < pq ∧ i = 0 ∧ rp_he (K pq) (Fm pq)) → va_P D vcl (mW h0 q cB cI cZ I (va_up (va_up (va_up (va_up F 31 f31) 32 f32) 33 f33) 34 f34)) H → va_D A (mW h0 q cB cI cZ I (va_up (va_up (va_up (va_up F 31 f31) 32 f32) 33 f33) 34 f34)) → va_S A s.heap H locs → lv_has ls 13 [(6, .int (nI i)), (5, .int (nI pq)), (4, .int (nI rows)), (3, .int (nI at_)), (2, .int (nI r0)), (1, .int (nI p0)), (0, .ref h0)] → W p l e R s m args below meth c H locs cells slots Q (F0 m 76 ls [.int (nI dd), .int (nI rows)]) := by
          intro dd H locs ls edd hP hD hS hl
          have hdd := pb_le (p0 < pq ∧ i = 0 ∧ rp_he (K pq) (Fm pq))
          rw [← edd] at hdd
          refine lv_iadd hx hb dX10_bestEnd_76 ?_
          refine q_seti (y := nI (rows + dd)) (nI_add rows dd) ?_
          refine lv_istore (lv' := [(4, .int (nI (rows + dd))), (6, .int (nI i)), (5, .int (nI pq)), (3, .int (nI at_)), (2, .int (nI r0)), (1, .int (nI p0)), (0, .ref h0)]) hx hb dX10_bestEnd_77 hl (by decide) rfl (fun ls hl => ?_)
          refine lv_iinc (v := (nI ((rows + dd) + 1))) (lv' := [(4, .int (nI ((rows + dd) + 1))), (6, .int (nI i)), (5, .int (nI pq)), (3, .int (nI at_)), (2, .int (nI r0)), (1, .int (nI p0)), (0, .ref h0)]) hx hb dX10_bestEnd_79 hl (k := 0) rfl (nI_add (rows + dd) 1) (by decide) rfl (fun ls hl => ?_)
          refine lv_iinc (v := (nI (i + 1))) (lv' := [(6, .int (nI (i + 1))), (4, .int (nI ((rows + dd) + 1))), (5, .int (nI pq)), (3, .int (nI at_)), (2, .int (nI r0)), (1, .int (nI p0)), (0, .ref h0)]) hx hb dX10_bestEnd_82 hl (k := 1) rfl (nI_add i 1) (by decide) rfl (fun ls hl => ?_)
          refine lv_iload hx hb dX10_bestEnd_85 (lv_at hl 0 rfl) ?_
          refine lv_aload_n hx hb dX10_bestEnd_87 rfl (lv_at hl 6 rfl) ?_
          refine lv_iload hx hb dX10_bestEnd_88 (lv_at hl 2 rfl) ?_
          refine q_ci (k := cells) (n := slots) hK hP hD hS hA (fun hPc hKc hDc => q_rV (As := [.int (nI pq)]) (rest := [.int (nI (i + 1))]) hf (r_size _ D h0 q cB cI cZ I (va_up (va_up (va_up (va_up F 31 f31) 32 f32) 33 f33) 34 f34) pn pe sl K Fm To Rr pq hpv (by omega) _) k_1391 k_1388 k_1390 k_62 k_98 (nA := 1) (by decide +kernel) ⟨Nat.le_trans (by decide) hRf, Nat.le_trans (by decide) hRl⟩ hK hP (ci := 11) (q0 := 0) rfl rfl rfl hPc hKc hDc (fun _ _ _ _ h => h) (fun _ _ _ => trivial) rfl hl.1 rfl (Nat.le_of_ble_eq_true rfl) dX10_bestEnd_90 ⟨hRc, hRs⟩) (Nat.le_refl _) (Nat.le_refl _) (fun r u H locs hw hK hP hD hS => ?_)
          obtain ⟨rfl, rfl⟩ := hw
          have hP : va_P D vcl (mW h0 q cB cI cZ I (va_up (va_up (va_up (va_up F 31 f31) 32 f32) 33 f33) 34 f34)) H := hP
          have hD : va_D A (mW h0 q cB cI cZ I (va_up (va_up (va_up (va_up F 31 f31) 32 f32) 33 f33) 34 f34)) := hD
          refine lv_icmp_ne (tgt := 100) hx hb dX10_bestEnd_93 (by decide) (fun c_3 => ?_) (fun c_3 => ?_)
          · have c_3 := q_nen (a := i + 1) (b := To pq - Fm pq) (by omega) (by omega) c_3
            refine lv_iconst (v := 0) hx hb dX10_bestEnd_100 (by decide) ?_
            refine lv_istore (lv' := [(7, .int 0), (6, .int (nI (i + 1))), (4, .int (nI ((rows + dd) + 1))), (5, .int (nI pq)), (3, .int (nI at_)), (2, .int (nI r0)), (1, .int (nI p0)), (0, .ref h0)]) hx hb dX10_bestEnd_101 hl (by decide) rfl (fun ls hl => ?_)
            refine lv_iload hx hb dX10_bestEnd_103 (lv_at hl 2 rfl) ?_
            refine lv_aload_n hx hb dX10_bestEnd_105 rfl (lv_at hl 7 rfl) ?_
            refine lv_iload hx hb dX10_bestEnd_106 (lv_at hl 3 rfl) ?_
            refine lv_iload hx hb dX10_bestEnd_108 (lv_at hl 1 rfl) ?_
            refine lv_aload_n hx hb dX10_bestEnd_110 rfl (lv_at hl 7 rfl) ?_
            refine va_get (D := D) (ci := 11) (v := .int (I 14)) (C := RX10) (T := TX10) (N := 48) hx hb hts inX10 hown hK hP 0 rfl rfl 14 (by decide) (hts _ k_1158) (fun _ h9 => h9) rfl dX10_bestEnd_111 ?_
            refine q_seti (y := (nI pn)) hI14 ?_
            refine q_ci (k := cells) (n := slots) hK hP hD hS hA (fun hPc hKc hDc => q_rV (As := [.int (nI pq), .int (nI (i + 1)), .int (nI pn)]) (rest := [.int (nI ((rows + dd) + 1))]) hf (r_rowsBehind _ D h0 q cB cI cZ I (va_up (va_up (va_up (va_up F 31 f31) 32 f32) 33 f33) 34 f34) pn pe sl K Fm To Rr pq (i + 1) pn hpv (by omega) (by omega) (by omega) (by omega) _) k_1411 k_1408 k_1410 k_67 k_98 (nA := 3) (by decide +kernel) ⟨Nat.le_trans (by decide) hRf, Nat.le_trans (by decide) hRl⟩ hK hP (ci := 11) (q0 := 0) rfl rfl rfl hPc hKc hDc (fun _ _ _ _ h => h) (fun _ _ _ => trivial) rfl hl.1 rfl (Nat.le_of_ble_eq_true rfl) dX10_bestEnd_114 ⟨hRc, hRs⟩) (Nat.le_refl _) (Nat.le_refl _) (fun r u H locs hw hK hP hD hS => ?_)
            obtain ⟨rfl, rfl⟩ := pb_of (P := rp_rb (K pq) (Fm pq) (To pq) (Rr pq) pq (i + 1) pn) hw
            obtain ⟨tb, etb⟩ : ∃ x, x = pb (rp_rb (K pq) (Fm pq) (To pq) (Rr pq) pq (i + 1) pn) := ⟨_, rfl⟩
            have htb := pb_le (rp_rb (K pq) (Fm pq) (To pq) (Rr pq) pq (i + 1) pn)
            rw [← etb] at htb
            refine q_seti (y := nI tb) (congrArg nI etb.symm) ?_
            have hP : va_P D vcl (mW h0 q cB cI cZ I (va_up (va_up (va_up (va_up F 31 f31) 32 f32) 33 f33) 34 f34)) H := hP
            have hD : va_D A (mW h0 q cB cI cZ I (va_up (va_up (va_up (va_up F 31 f31) 32 f32) 33 f33) 34 f34)) := hD
            refine lv_iadd hx hb dX10_bestEnd_117 ?_
            refine q_seti (y := nI (((rows + dd) + 1) + tb)) (nI_add ((rows + dd) + 1) tb) ?_
            refine lv_istore (lv' := [(8, .int (nI (((rows + dd) + 1) + tb))), (7, .int 0), (6, .int (nI (i + 1))), (4, .int (nI ((rows + dd) + 1))), (5, .int (nI pq)), (3, .int (nI at_)), (2, .int (nI r0)), (1, .int (nI p0)), (0, .ref h0)]) hx hb dX10_bestEnd_118 hl (by decide) rfl (fun ls hl => ?_)
            refine lv_iload hx hb dX10_bestEnd_120 (lv_at hl 0 rfl) ?_
            refine lv_aload_n hx hb dX10_bestEnd_122 rfl (lv_at hl 8 rfl) ?_
            refine va_get (D := D) (ci := 11) (v := .int (I 2)) (C := RX10) (T := TX10) (N := 48) hx hb hts inX10 hown hK hP 0 rfl rfl 2 (by decide) (hts _ k_1146) (fun _ h9 => h9) rfl dX10_bestEnd_123 ?_
            refine q_seti (y := (nI mo)) hI2 ?_
            refine lv_icmp_gt (tgt := 333) hx hb dX10_bestEnd_126 (by decide) (fun c_4 => ?_) (fun c_4 => ?_)
            · have c_4 := q_lt (a := mo) (b := ((rows + dd) + 1) + tb) (by omega) (by omega) c_4
              refine lv_iload hx hb dX10_bestEnd_333 (lv_at hl 4 rfl) ?_
              refine lv_iload hx hb dX10_bestEnd_335 (lv_at hl 1 rfl) ?_
              refine lv_if_eq (tgt := 344) hx hb dX10_bestEnd_337 (by decide) (fun _ => ?_) (fun hno => absurd hno (by decide))
              refine lv_iconst (v := 0) hx hb dX10_bestEnd_344 (by decide) ?_
              refine lv_iadd hx hb dX10_bestEnd_345 ?_
              refine q_seti (y := nI (pq + 0)) (nI_add pq 0) ?_
              refine q_seti (y := nI pq) (congrArg nI (show pq + 0 = pq by omega)) ?_
              refine lv_istore (lv' := [(5, .int (nI pq)), (8, .int (nI (((rows + dd) + 1) + tb))), (7, .int 0), (6, .int (nI (i + 1))), (4, .int (nI ((rows + dd) + 1))), (3, .int (nI at_)), (2, .int (nI r0)), (1, .int (nI p0)), (0, .ref h0)]) hx hb dX10_bestEnd_346 hl (by decide) rfl (fun ls hl => ?_)
              refine lv_iload hx hb dX10_bestEnd_348 (lv_at hl 2 rfl) ?_
              refine lv_if_eq (tgt := 357) hx hb dX10_bestEnd_350 (by decide) (fun _ => ?_) (fun hno => absurd hno (by decide))
              refine lv_iload hx hb dX10_bestEnd_357 (lv_at hl 3 rfl) ?_
              refine lv_istore (lv' := [(6, .int (nI (i + 1))), (5, .int (nI pq)), (8, .int (nI (((rows + dd) + 1) + tb))), (7, .int 0), (4, .int (nI ((rows + dd) + 1))), (3, .int (nI at_)), (2, .int (nI r0)), (1, .int (nI p0)), (0, .ref h0)]) hx hb dX10_bestEnd_359 hl (by decide) rfl (fun ls hl => ?_)
              refine lv_goto (tgt := 31) hx hb dX10_bestEnd_361 (by decide) ?_
              have hgo : bk_lay C K Fm To Rr p0 r0 pn mo k pq (i + 1) (rows + dd + 1) b = bk_lay C K Fm To Rr p0 r0 pn mo (k + 1) pq i rows b := by
                by_cases hq : rows + dd + 1 ≤ mo
                · exact bk_in (mb := 0) (by omega) hq edd etb (fun z => absurd z (by omega)) (if_neg (by omega)).symm (if_neg (by omega)).symm (if_neg (by omega)).symm
                · exact bk_out edd hq
              exact ih pq (i + 1) (rows + dd + 1) f31 f32 f33 f34 b H locs ls (by omega) (by omega) (by omega) (fun _ => by omega) hb9 hbo (fun z => by have := hri z; omega) (by omega) (by omega) hC hP hD hS (lv_sub hl (l' := [(6, .int (nI (i + 1))), (5, .int (nI pq)), (4, .int (nI ((rows + dd) + 1))), (3, .int (nI at_)), (2, .int (nI r0)), (1, .int (nI p0)), (0, .ref h0)]) [0, 1, 4, 5, 6, 7, 8] rfl) (fun b3 w1 w2 w3 w4 H locs ls a1 => kk b3 w1 w2 w3 w4 H locs ls (a1.trans hgo))
            · have c_4 := q_nlt (a := mo) (b := ((rows + dd) + 1) + tb) (by omega) (by omega) c_4
              refine lv_aload_n hx hb dX10_bestEnd_129 rfl (lv_at hl 8 rfl) ?_
              refine lv_iload_n hx hb dX10_bestEnd_130 rfl (lv_at hl 7 rfl) ?_
              refine lv_iload_n hx hb dX10_bestEnd_131 rfl (lv_at hl 6 rfl) ?_
              refine lv_iload hx hb dX10_bestEnd_132 (lv_at hl 4 rfl) ?_
              refine lv_iload hx hb dX10_bestEnd_134 (lv_at hl 2 rfl) ?_
              refine lv_aload_n hx hb dX10_bestEnd_136 rfl (lv_at hl 8 rfl) ?_
              refine va_get (D := D) (ci := 11) (v := .int (I 14)) (C := RX10) (T := TX10) (N := 48) hx hb hts inX10 hown hK hP 0 rfl rfl 14 (by decide) (hts _ k_1158) (fun _ h9 => h9) rfl dX10_bestEnd_137 ?_
              refine q_seti (y := (nI pn)) hI14 ?_
              refine q_ci (k := cells) (n := slots) hK hP hD hS hA (fun hPc hKc hDc => q_rV (As := [.int (nI p0), .int (nI r0), .int (nI pq), .int (nI (i + 1)), .int (nI pn)]) (rest := []) hf (r_mayEnd _ D h0 q cB cI cZ I (va_up (va_up (va_up (va_up F 31 f31) 32 f32) 33 f33) 34 f34) pn pe sl K Fm To Rr p0 r0 pq (i + 1) pn hpv (by omega) (by omega) (by omega) (by omega) (fun z => by have := hri z; omega) (by omega) (by omega) _) k_1415 k_1412 k_1414 k_68 k_98 (nA := 5) (by decide +kernel) ⟨Nat.le_trans (by decide) hRf, Nat.le_trans (by decide) hRl⟩ hK hP (ci := 11) (q0 := 0) rfl rfl rfl hPc hKc hDc (fun _ _ _ _ h => h) (fun _ _ _ => trivial) rfl hl.1 rfl (Nat.le_of_ble_eq_true rfl) dX10_bestEnd_140 ⟨hRc, hRs⟩) (Nat.le_refl _) (Nat.le_refl _) (fun r u H locs hw hK hP hD hS => ?_)
              obtain ⟨rfl, rfl⟩ := pb_of (P := rp_me (K pq) (To pq - Fm pq) p0 r0 pq (i + 1) pn) hw
              obtain ⟨mb, emb⟩ : ∃ x, x = pb (rp_me (K pq) (To pq - Fm pq) p0 r0 pq (i + 1) pn) := ⟨_, rfl⟩
              have hmb := pb_le (rp_me (K pq) (To pq - Fm pq) p0 r0 pq (i + 1) pn)
              rw [← emb] at hmb
              refine q_seti (y := nI mb) (congrArg nI emb.symm) ?_
              have hP : va_P D vcl (mW h0 q cB cI cZ I (va_up (va_up (va_up (va_up F 31 f31) 32 f32) 33 f33) 34 f34)) H := hP
              have hD : va_D A (mW h0 q cB cI cZ I (va_up (va_up (va_up (va_up F 31 f31) 32 f32) 33 f33) 34 f34)) := hD
              refine lv_if_eq (tgt := 333) hx hb dX10_bestEnd_143 (by decide) (fun c_5 => ?_) (fun c_5 => ?_)
              · have c_5 := q_eqn (a := mb) (b := 0) (by omega) (by omega) c_5
                refine lv_iload hx hb dX10_bestEnd_333 (lv_at hl 4 rfl) ?_
                refine lv_iload hx hb dX10_bestEnd_335 (lv_at hl 1 rfl) ?_
                refine lv_if_eq (tgt := 344) hx hb dX10_bestEnd_337 (by decide) (fun _ => ?_) (fun hno => absurd hno (by decide))
                refine lv_iconst (v := 0) hx hb dX10_bestEnd_344 (by decide) ?_
                refine lv_iadd hx hb dX10_bestEnd_345 ?_
                refine q_seti (y := nI (pq + 0)) (nI_add pq 0) ?_
                refine q_seti (y := nI pq) (congrArg nI (show pq + 0 = pq by omega)) ?_
                refine lv_istore (lv' := [(5, .int (nI pq)), (8, .int (nI (((rows + dd) + 1) + tb))), (7, .int 0), (6, .int (nI (i + 1))), (4, .int (nI ((rows + dd) + 1))), (3, .int (nI at_)), (2, .int (nI r0)), (1, .int (nI p0)), (0, .ref h0)]) hx hb dX10_bestEnd_346 hl (by decide) rfl (fun ls hl => ?_)
                refine lv_iload hx hb dX10_bestEnd_348 (lv_at hl 2 rfl) ?_
                refine lv_if_eq (tgt := 357) hx hb dX10_bestEnd_350 (by decide) (fun _ => ?_) (fun hno => absurd hno (by decide))
                refine lv_iload hx hb dX10_bestEnd_357 (lv_at hl 3 rfl) ?_
                refine lv_istore (lv' := [(6, .int (nI (i + 1))), (5, .int (nI pq)), (8, .int (nI (((rows + dd) + 1) + tb))), (7, .int 0), (4, .int (nI ((rows + dd) + 1))), (3, .int (nI at_)), (2, .int (nI r0)), (1, .int (nI p0)), (0, .ref h0)]) hx hb dX10_bestEnd_359 hl (by decide) rfl (fun ls hl => ?_)
                refine lv_goto (tgt := 31) hx hb dX10_bestEnd_361 (by decide) ?_
                exact ih pq (i + 1) (rows + dd + 1) f31 f32 f33 f34 b H locs ls (by omega) (by omega) (by omega) (fun _ => by omega) hb9 hbo (fun z => by have := hri z; omega) (by omega) (by omega) hC hP hD hS (lv_sub hl (l' := [(6, .int (nI (i + 1))), (5, .int (nI pq)), (4, .int (nI ((rows + dd) + 1))), (3, .int (nI at_)), (2, .int (nI r0)), (1, .int (nI p0)), (0, .ref h0)]) [0, 1, 4, 5, 6, 7, 8] rfl) (fun b3 w1 w2 w3 w4 H locs ls a1 => kk b3 w1 w2 w3 w4 H locs ls (a1.trans (bk_in (by omega) (by omega) edd etb (fun _ => emb) (if_neg (by omega)).symm (if_neg (by omega)).symm (if_neg (by omega)).symm)))
              · have c_5 := q_nen (a := mb) (b := 0) (by omega) (by omega) c_5
                refine lv_aload_n hx hb dX10_bestEnd_146 rfl (lv_at hl 8 rfl) ?_
                refine va_get (D := D) (ci := 11) (v := .ref (q 30)) (C := RX10) (T := TX10) (N := 48) hx hb hts inX10 hown hK hP 0 rfl rfl 30 (by decide) (hts _ k_1174) (fun _ h9 => h9) rfl dX10_bestEnd_147 ?_
                refine lv_iload hx hb dX10_bestEnd_150 (lv_at hl 4 rfl) ?_
                refine q_ild (X := pq) (f := (F 30)) hx hb hK hP 19 1 rfl rfl (by omega) (by decide) dX10_bestEnd_152 ?_
                refine q_seti (y := (nI (rs_S Fm To pq))) (hSt pq (by omega)) ?_
                refine lv_iload hx hb dX10_bestEnd_153 (lv_at hl 2 rfl) ?_
                refine lv_iadd hx hb dX10_bestEnd_155 ?_
                refine q_seti (y := nI ((rs_S Fm To pq) + (i + 1))) (nI_add (rs_S Fm To pq) (i + 1)) ?_
                refine q_seti (y := nI (rs_S Fm To pq + (i + 1))) (congrArg nI (show (rs_S Fm To pq) + (i + 1) = rs_S Fm To pq + (i + 1) by omega)) ?_
                refine lv_istore (lv' := [(9, .int (nI (rs_S Fm To pq + (i + 1)))), (8, .int (nI (((rows + dd) + 1) + tb))), (7, .int 0), (6, .int (nI (i + 1))), (4, .int (nI ((rows + dd) + 1))), (5, .int (nI pq)), (3, .int (nI at_)), (2, .int (nI r0)), (1, .int (nI p0)), (0, .ref h0)]) hx hb dX10_bestEnd_156 hl (by decide) rfl (fun ls hl => ?_)
                refine lv_iload hx hb dX10_bestEnd_158 (lv_at hl 0 rfl) ?_
                refine lv_aload_n hx hb dX10_bestEnd_160 rfl (lv_at hl 9 rfl) ?_
                refine va_get (D := D) (ci := 11) (v := .ref (q 30)) (C := RX10) (T := TX10) (N := 48) hx hb hts inX10 hown hK hP 0 rfl rfl 30 (by decide) (hts _ k_1174) (fun _ h9 => h9) rfl dX10_bestEnd_161 ?_
                refine lv_aload_n hx hb dX10_bestEnd_164 rfl (lv_at hl 9 rfl) ?_
                refine va_get (D := D) (ci := 11) (v := .int (I 14)) (C := RX10) (T := TX10) (N := 48) hx hb hts inX10 hown hK hP 0 rfl rfl 14 (by decide) (hts _ k_1158) (fun _ h9 => h9) rfl dX10_bestEnd_165 ?_
                refine q_seti (y := (nI pn)) hI14 ?_
                refine q_ild (X := pn) (f := (F 30)) hx hb hK hP 19 1 rfl rfl (by omega) (by decide) dX10_bestEnd_168 ?_
                refine q_seti (y := (nI (rs_S Fm To pn))) (hSt pn (by omega)) ?_
                refine lv_icmp_ne (tgt := 176) hx hb dX10_bestEnd_169 (by decide) (fun c_6 => ?_) (fun c_6 => ?_)
                · have c_6 := q_nen (a := rs_S Fm To pq + (i + 1)) (b := rs_S Fm To pn) (by omega) (by omega) c_6
                  refine lv_iconst (v := 0) hx hb dX10_bestEnd_176 (by decide) ?_
                  refine lv_istore (lv' := [(10, .int 0), (9, .int (nI (rs_S Fm To pq + (i + 1)))), (8, .int (nI (((rows + dd) + 1) + tb))), (7, .int 0), (6, .int (nI (i + 1))), (4, .int (nI ((rows + dd) + 1))), (5, .int (nI pq)), (3, .int (nI at_)), (2, .int (nI r0)), (1, .int (nI p0)), (0, .ref h0)]) hx hb dX10_bestEnd_177 hl (by decide) rfl (fun ls hl => ?_)
                  refine lv_iload hx hb dX10_bestEnd_179 (lv_at hl 0 rfl) ?_
                  refine lv_if_eq (tgt := 188) hx hb dX10_bestEnd_181 (by decide) (fun _ => ?_) (fun hno => absurd hno (by decide))
                  have hCt := hC (rs_S Fm To pq + (i + 1)) (by omega) (by omega)
                  rcases hcx : C (rs_S Fm To pq + (i + 1)) with _ | x
                  · rw [hcx] at hCt
                    refine lv_aload_n hx hb dX10_bestEnd_188 rfl (lv_at hl 10 rfl) ?_
                    refine va_get (D := D) (ci := 11) (v := .ref (q 31)) (C := RX10) (T := TX10) (N := 48) hx hb hts inX10 hown hK hP 0 rfl rfl 31 (by decide) (hts _ k_1175) (fun _ h9 => h9) rfl dX10_bestEnd_189 ?_
                    refine lv_iload hx hb dX10_bestEnd_192 (lv_at hl 1 rfl) ?_
                    refine q_ild (X := rs_S Fm To pq + (i + 1)) (f := f31) hx hb hK hP 20 1 rfl rfl (by omega) (by decide) dX10_bestEnd_194 ?_
                    refine q_seti (y := (-1)) hCt.1 ?_
                    refine lv_istore (lv' := [(11, .int (-1)), (10, .int 0), (9, .int (nI (rs_S Fm To pq + (i + 1)))), (8, .int (nI (((rows + dd) + 1) + tb))), (7, .int 0), (6, .int (nI (i + 1))), (4, .int (nI ((rows + dd) + 1))), (5, .int (nI pq)), (3, .int (nI at_)), (2, .int (nI r0)), (1, .int (nI p0)), (0, .ref h0)]) hx hb dX10_bestEnd_195 hl (by decide) rfl (fun ls hl => ?_)
                    refine lv_iload hx hb dX10_bestEnd_197 (lv_at hl 0 rfl) ?_
                    refine lv_iconst (v := (-1)) hx hb dX10_bestEnd_199 (by decide) ?_
                    refine lv_icmp_eq (tgt := 333) hx hb dX10_bestEnd_200 (by decide) (fun _ => ?_) (fun hno => absurd hno (by decide))
                    refine lv_iload hx hb dX10_bestEnd_333 (lv_at hl 7 rfl) ?_
                    refine lv_iload hx hb dX10_bestEnd_335 (lv_at hl 4 rfl) ?_
                    refine lv_if_eq (tgt := 344) hx hb dX10_bestEnd_337 (by decide) (fun _ => ?_) (fun hno => absurd hno (by decide))
                    refine lv_iconst (v := 0) hx hb dX10_bestEnd_344 (by decide) ?_
                    refine lv_iadd hx hb dX10_bestEnd_345 ?_
                    refine q_seti (y := nI (pq + 0)) (nI_add pq 0) ?_
                    refine q_seti (y := nI pq) (congrArg nI (show pq + 0 = pq by omega)) ?_
                    refine lv_istore (lv' := [(5, .int (nI pq)), (11, .int (-1)), (10, .int 0), (9, .int (nI (rs_S Fm To pq + (i + 1)))), (8, .int (nI (((rows + dd) + 1) + tb))), (7, .int 0), (6, .int (nI (i + 1))), (4, .int (nI ((rows + dd) + 1))), (3, .int (nI at_)), (2, .int (nI r0)), (1, .int (nI p0)), (0, .ref h0)]) hx hb dX10_bestEnd_346 hl (by decide) rfl (fun ls hl => ?_)
                    refine lv_iload hx hb dX10_bestEnd_348 (lv_at hl 5 rfl) ?_
                    refine lv_if_eq (tgt := 357) hx hb dX10_bestEnd_350 (by decide) (fun _ => ?_) (fun hno => absurd hno (by decide))
                    refine lv_iload hx hb dX10_bestEnd_357 (lv_at hl 6 rfl) ?_
                    refine lv_istore (lv' := [(6, .int (nI (i + 1))), (5, .int (nI pq)), (11, .int (-1)), (10, .int 0), (9, .int (nI (rs_S Fm To pq + (i + 1)))), (8, .int (nI (((rows + dd) + 1) + tb))), (7, .int 0), (4, .int (nI ((rows + dd) + 1))), (3, .int (nI at_)), (2, .int (nI r0)), (1, .int (nI p0)), (0, .ref h0)]) hx hb dX10_bestEnd_359 hl (by decide) rfl (fun ls hl => ?_)
                    refine lv_goto (tgt := 31) hx hb dX10_bestEnd_361 (by decide) ?_
                    exact ih pq (i + 1) (rows + dd + 1) f31 f32 f33 f34 b H locs ls (by omega) (by omega) (by omega) (fun _ => by omega) hb9 hbo (fun z => by have := hri z; omega) (by omega) (by omega) hC hP hD hS (lv_sub hl (l' := [(6, .int (nI (i + 1))), (5, .int (nI pq)), (4, .int (nI ((rows + dd) + 1))), (3, .int (nI at_)), (2, .int (nI r0)), (1, .int (nI p0)), (0, .ref h0)]) [0, 1, 7, 8, 9, 10, 11] rfl) (fun b3 w1 w2 w3 w4 H locs ls a1 => kk b3 w1 w2 w3 w4 H locs ls (a1.trans (bk_in (by omega) (by omega) edd etb (fun _ => emb) (if_neg (by omega)).symm (if_neg (by omega)).symm ((if_pos (by omega)).trans (bk_new_n (by omega) hcx)).symm)))
                  · rw [hcx] at hCt
                    have hcb := (hCt.2 x rfl).1
                    have hsq := Nat.mul_le_mul (show mo - (rows + dd + 1 + tb) ≤ 40 by omega) (show mo - (rows + dd + 1 + tb) ≤ 40 by omega)
                    refine lv_aload_n hx hb dX10_bestEnd_188 rfl (lv_at hl 10 rfl) ?_
                    refine va_get (D := D) (ci := 11) (v := .ref (q 31)) (C := RX10) (T := TX10) (N := 48) hx hb hts inX10 hown hK hP 0 rfl rfl 31 (by decide) (hts _ k_1175) (fun _ h9 => h9) rfl dX10_bestEnd_189 ?_
                    refine lv_iload hx hb dX10_bestEnd_192 (lv_at hl 1 rfl) ?_
                    refine q_ild (X := rs_S Fm To pq + (i + 1)) (f := f31) hx hb hK hP 20 1 rfl rfl (by omega) (by decide) dX10_bestEnd_194 ?_
                    refine q_seti (y := (nI (x.1))) hCt.1.1 ?_
                    refine lv_istore (lv' := [(11, .int (nI (x.1))), (10, .int 0), (9, .int (nI (rs_S Fm To pq + (i + 1)))), (8, .int (nI (((rows + dd) + 1) + tb))), (7, .int 0), (6, .int (nI (i + 1))), (4, .int (nI ((rows + dd) + 1))), (5, .int (nI pq)), (3, .int (nI at_)), (2, .int (nI r0)), (1, .int (nI p0)), (0, .ref h0)]) hx hb dX10_bestEnd_195 hl (by decide) rfl (fun ls hl => ?_)
                    refine lv_iload hx hb dX10_bestEnd_197 (lv_at hl 0 rfl) ?_
                    refine lv_iconst (v := (-1)) hx hb dX10_bestEnd_199 (by decide) ?_
                    refine lv_icmp_eq (tgt := 333) hx hb dX10_bestEnd_200 (by decide) (fun hno => absurd hno (q_nem (by decide) (by omega))) (fun _ => ?_)
                    refine lv_iload hx hb dX10_bestEnd_203 (lv_at hl 1 rfl) ?_
                    refine lv_if_eq (tgt := 212) hx hb dX10_bestEnd_205 (by decide) (fun _ => ?_) (fun hno => absurd hno (by decide))
                    refine lv_iload hx hb dX10_bestEnd_212 (lv_at hl 0 rfl) ?_
                    refine lv_aload_n hx hb dX10_bestEnd_214 rfl (lv_at hl 11 rfl) ?_
                    refine va_get (D := D) (ci := 11) (v := .int (I 2)) (C := RX10) (T := TX10) (N := 48) hx hb hts inX10 hown hK hP 0 rfl rfl 2 (by decide) (hts _ k_1146) (fun _ h9 => h9) rfl dX10_bestEnd_215 ?_
                    refine q_seti (y := (nI mo)) hI2 ?_
                    refine lv_iload hx hb dX10_bestEnd_218 (lv_at hl 3 rfl) ?_
                    refine lv_isub hx hb dX10_bestEnd_220 ?_
                    refine q_seti (y := nI (mo - (((rows + dd) + 1) + tb))) (pk_sub (a := mo) (b := ((rows + dd) + 1) + tb) (by omega)) ?_
                    refine lv_aload_n hx hb dX10_bestEnd_221 rfl (lv_at hl 11 rfl) ?_
                    refine va_get (D := D) (ci := 11) (v := .int (I 2)) (C := RX10) (T := TX10) (N := 48) hx hb hts inX10 hown hK hP 0 rfl rfl 2 (by decide) (hts _ k_1146) (fun _ h9 => h9) rfl dX10_bestEnd_222 ?_
                    refine q_seti (y := (nI mo)) hI2 ?_
                    refine lv_iload hx hb dX10_bestEnd_225 (lv_at hl 3 rfl) ?_
                    refine lv_isub hx hb dX10_bestEnd_227 ?_
                    refine q_seti (y := nI (mo - (((rows + dd) + 1) + tb))) (pk_sub (a := mo) (b := ((rows + dd) + 1) + tb) (by omega)) ?_
                    refine lv_imul hx hb dX10_bestEnd_228 ?_
                    refine q_seti (y := nI ((mo - (((rows + dd) + 1) + tb)) * (mo - (((rows + dd) + 1) + tb)))) (pk_mul (mo - (((rows + dd) + 1) + tb)) (mo - (((rows + dd) + 1) + tb))) ?_
                    refine lv_iadd hx hb dX10_bestEnd_229 ?_
                    refine q_seti (y := nI ((x.1) + ((mo - (((rows + dd) + 1) + tb)) * (mo - (((rows + dd) + 1) + tb))))) (nI_add (x.1) ((mo - (((rows + dd) + 1) + tb)) * (mo - (((rows + dd) + 1) + tb)))) ?_
                    refine lv_iload hx hb dX10_bestEnd_230 (lv_at hl 4 rfl) ?_
                    refine lv_if_eq (tgt := 239) hx hb dX10_bestEnd_232 (by decide) (fun _ => ?_) (fun hno => absurd hno (by decide))
                    refine lv_aload_n hx hb dX10_bestEnd_239 rfl (lv_at hl 11 rfl) ?_
                    refine lv_iload hx hb dX10_bestEnd_240 (lv_at hl 7 rfl) ?_
                    refine q_ci (k := cells) (n := slots) hK hP hD hS hA (fun hPc hKc hDc => q_rV (As := [.int (nI pq)]) (rest := [.int (nI ((x.1) + ((mo - (((rows + dd) + 1) + tb)) * (mo - (((rows + dd) + 1) + tb)))))]) hf (r_kindOf _ D h0 q cB cI cZ I (va_up (va_up (va_up (va_up F 31 f31) 32 f32) 33 f33) 34 f34) pn pe sl K Fm To Rr pq hpv (by omega) _) k_1403 k_1400 k_1402 k_65 k_98 (nA := 1) (by decide +kernel) ⟨Nat.le_trans (by decide) hRf, Nat.le_trans (by decide) hRl⟩ hK hP (ci := 11) (q0 := 0) rfl rfl rfl hPc hKc hDc (fun _ _ _ _ h => h) (fun _ _ _ => trivial) rfl hl.1 rfl (Nat.le_of_ble_eq_true rfl) dX10_bestEnd_242 ⟨hRc, hRs⟩) (Nat.le_refl _) (Nat.le_refl _) (fun r u H locs hw hK hP hD hS => ?_)
                    obtain ⟨rfl, rfl⟩ := hw
                    have hP : va_P D vcl (mW h0 q cB cI cZ I (va_up (va_up (va_up (va_up F 31 f31) 32 f32) 33 f33) 34 f34)) H := hP
                    have hD : va_D A (mW h0 q cB cI cZ I (va_up (va_up (va_up (va_up F 31 f31) 32 f32) 33 f33) 34 f34)) := hD
                    refine lv_iconst (v := 4) hx hb dX10_bestEnd_245 (by decide) ?_
                    refine lv_icmp_ne (tgt := 254) hx hb dX10_bestEnd_246 (by decide) (fun c_7 => ?_) (fun c_7 => ?_)
                    · refine lv_bipush (v := 10) hx hb dX10_bestEnd_254 (by decide) ?_
                      refine lv_iadd hx hb dX10_bestEnd_256 ?_
                      refine q_seti (y := nI (((x.1) + ((mo - (((rows + dd) + 1) + tb)) * (mo - (((rows + dd) + 1) + tb)))) + 10)) (nI_add ((x.1) + ((mo - (((rows + dd) + 1) + tb)) * (mo - (((rows + dd) + 1) + tb)))) 10) ?_
                      refine lv_istore (lv' := [(12, .int (nI (((x.1) + ((mo - (((rows + dd) + 1) + tb)) * (mo - (((rows + dd) + 1) + tb)))) + 10))), (11, .int (nI (x.1))), (10, .int 0), (9, .int (nI (rs_S Fm To pq + (i + 1)))), (8, .int (nI (((rows + dd) + 1) + tb))), (7, .int 0), (6, .int (nI (i + 1))), (4, .int (nI ((rows + dd) + 1))), (5, .int (nI pq)), (3, .int (nI at_)), (2, .int (nI r0)), (1, .int (nI p0)), (0, .ref h0)]) hx hb dX10_bestEnd_257 hl (by decide) rfl (fun ls hl => ?_)
                      rcases b with _ | y
                      · have hbb := hb9
                        refine lv_aload_n hx hb dX10_bestEnd_259 rfl (lv_at hl 12 rfl) ?_
                        refine va_get (D := D) (ci := 11) (v := .ref (q 31)) (C := RX10) (T := TX10) (N := 48) hx hb hts inX10 hown hK hP 0 rfl rfl 31 (by decide) (hts _ k_1175) (fun _ h9 => h9) rfl dX10_bestEnd_260 ?_
                        refine lv_iload_n hx hb dX10_bestEnd_263 rfl (lv_at hl 9 rfl) ?_
                        refine q_ild (X := at_) (f := f31) hx hb hK hP 20 1 rfl rfl (by omega) (by decide) dX10_bestEnd_264 ?_
                        refine q_seti (y := (-1)) hb9 ?_
                        refine lv_iconst (v := (-1)) hx hb dX10_bestEnd_265 (by decide) ?_
                        refine lv_icmp_eq (tgt := 280) hx hb dX10_bestEnd_266 (by decide) (fun _ => ?_) (fun hno => absurd hno (by decide))
                        refine lv_aload_n hx hb dX10_bestEnd_280 rfl (lv_at hl 12 rfl) ?_
                        refine va_get (D := D) (ci := 11) (v := .ref (q 31)) (C := RX10) (T := TX10) (N := 48) hx hb hts inX10 hown hK hP 0 rfl rfl 31 (by decide) (hts _ k_1175) (fun _ h9 => h9) rfl dX10_bestEnd_281 ?_
                        refine lv_iload_n hx hb dX10_bestEnd_284 rfl (lv_at hl 9 rfl) ?_
                        refine lv_iload hx hb dX10_bestEnd_285 (lv_at hl 0 rfl) ?_
                        refine q_ist (X := at_) (f := f31) (x := (nI (((x.1) + ((mo - (((rows + dd) + 1) + tb)) * (mo - (((rows + dd) + 1) + tb)))) + 10))) hx hb hK hP hD hS 20 1 rfl rfl (by omega) (by decide) dX10_bestEnd_287 (fun H locs hP hD hS => ?_)
                        have hP : va_P D vcl (mW h0 q cB cI cZ I (va_up (va_up (va_up (va_up F 31 (upd f31 at_ (nI (((x.1) + ((mo - (((rows + dd) + 1) + tb)) * (mo - (((rows + dd) + 1) + tb)))) + 10)))) 32 f32) 33 f33) 34 f34)) H := hP
                        have hD : va_D A (mW h0 q cB cI cZ I (va_up (va_up (va_up (va_up F 31 (upd f31 at_ (nI (((x.1) + ((mo - (((rows + dd) + 1) + tb)) * (mo - (((rows + dd) + 1) + tb)))) + 10)))) 32 f32) 33 f33) 34 f34)) := hD
                        refine lv_aload_n hx hb dX10_bestEnd_288 rfl (lv_at hl 12 rfl) ?_
                        refine va_get (D := D) (ci := 11) (v := .ref (q 32)) (C := RX10) (T := TX10) (N := 48) hx hb hts inX10 hown hK hP 0 rfl rfl 32 (by decide) (hts _ k_1176) (fun _ h9 => h9) rfl dX10_bestEnd_289 ?_
                        refine lv_iload_n hx hb dX10_bestEnd_292 rfl (lv_at hl 9 rfl) ?_
                        refine lv_iload hx hb dX10_bestEnd_293 (lv_at hl 5 rfl) ?_
                        refine lv_if_eq (tgt := 305) hx hb dX10_bestEnd_295 (by decide) (fun _ => ?_) (fun hno => absurd hno (by decide))
                        refine lv_iload hx hb dX10_bestEnd_305 (lv_at hl 8 rfl) ?_
                        refine q_ist (X := at_) (f := f32) (x := (nI pq)) hx hb hK hP hD hS 21 1 rfl rfl (by omega) (by decide) dX10_bestEnd_307 (fun H locs hP hD hS => ?_)
                        have hP : va_P D vcl (mW h0 q cB cI cZ I (va_up (va_up (va_up (va_up F 31 (upd f31 at_ (nI (((x.1) + ((mo - (((rows + dd) + 1) + tb)) * (mo - (((rows + dd) + 1) + tb)))) + 10)))) 32 (upd f32 at_ (nI pq))) 33 f33) 34 f34)) H := hP
                        have hD : va_D A (mW h0 q cB cI cZ I (va_up (va_up (va_up (va_up F 31 (upd f31 at_ (nI (((x.1) + ((mo - (((rows + dd) + 1) + tb)) * (mo - (((rows + dd) + 1) + tb)))) + 10)))) 32 (upd f32 at_ (nI pq))) 33 f33) 34 f34)) := hD
                        refine lv_aload_n hx hb dX10_bestEnd_308 rfl (lv_at hl 12 rfl) ?_
                        refine va_get (D := D) (ci := 11) (v := .ref (q 33)) (C := RX10) (T := TX10) (N := 48) hx hb hts inX10 hown hK hP 0 rfl rfl 33 (by decide) (hts _ k_1177) (fun _ h9 => h9) rfl dX10_bestEnd_309 ?_
                        refine lv_iload_n hx hb dX10_bestEnd_312 rfl (lv_at hl 9 rfl) ?_
                        refine lv_iload hx hb dX10_bestEnd_313 (lv_at hl 5 rfl) ?_
                        refine lv_if_eq (tgt := 322) hx hb dX10_bestEnd_315 (by decide) (fun _ => ?_) (fun hno => absurd hno (by decide))
                        refine lv_iload hx hb dX10_bestEnd_322 (lv_at hl 6 rfl) ?_
                        refine q_ist (X := at_) (f := f33) (x := (nI (i + 1))) hx hb hK hP hD hS 22 1 rfl rfl (by omega) (by decide) dX10_bestEnd_324 (fun H locs hP hD hS => ?_)
                        have hP : va_P D vcl (mW h0 q cB cI cZ I (va_up (va_up (va_up (va_up F 31 (upd f31 at_ (nI (((x.1) + ((mo - (((rows + dd) + 1) + tb)) * (mo - (((rows + dd) + 1) + tb)))) + 10)))) 32 (upd f32 at_ (nI pq))) 33 (upd f33 at_ (nI (i + 1)))) 34 f34)) H := hP
                        have hD : va_D A (mW h0 q cB cI cZ I (va_up (va_up (va_up (va_up F 31 (upd f31 at_ (nI (((x.1) + ((mo - (((rows + dd) + 1) + tb)) * (mo - (((rows + dd) + 1) + tb)))) + 10)))) 32 (upd f32 at_ (nI pq))) 33 (upd f33 at_ (nI (i + 1)))) 34 f34)) := hD
                        refine lv_aload_n hx hb dX10_bestEnd_325 rfl (lv_at hl 12 rfl) ?_
                        refine va_get (D := D) (ci := 11) (v := .ref (q 34)) (C := RX10) (T := TX10) (N := 48) hx hb hts inX10 hown hK hP 0 rfl rfl 34 (by decide) (hts _ k_1178) (fun _ h9 => h9) rfl dX10_bestEnd_326 ?_
                        refine lv_iload_n hx hb dX10_bestEnd_329 rfl (lv_at hl 9 rfl) ?_
                        refine lv_iload hx hb dX10_bestEnd_330 (lv_at hl 4 rfl) ?_
                        refine q_ist (X := at_) (f := f34) (x := (nI (((rows + dd) + 1) + tb))) hx hb hK hP hD hS 23 1 rfl rfl (by omega) (by decide) dX10_bestEnd_332 (fun H locs hP hD hS => ?_)
                        have hP : va_P D vcl (mW h0 q cB cI cZ I (va_up (va_up (va_up (va_up F 31 (upd f31 at_ (nI (((x.1) + ((mo - (((rows + dd) + 1) + tb)) * (mo - (((rows + dd) + 1) + tb)))) + 10)))) 32 (upd f32 at_ (nI pq))) 33 (upd f33 at_ (nI (i + 1)))) 34 (upd f34 at_ (nI (((rows + dd) + 1) + tb))))) H := hP
                        have hD : va_D A (mW h0 q cB cI cZ I (va_up (va_up (va_up (va_up F 31 (upd f31 at_ (nI (((x.1) + ((mo - (((rows + dd) + 1) + tb)) * (mo - (((rows + dd) + 1) + tb)))) + 10)))) 32 (upd f32 at_ (nI pq))) 33 (upd f33 at_ (nI (i + 1)))) 34 (upd f34 at_ (nI (((rows + dd) + 1) + tb))))) := hD
                        refine lv_iload hx hb dX10_bestEnd_333 (lv_at hl 8 rfl) ?_
                        refine lv_iload hx hb dX10_bestEnd_335 (lv_at hl 5 rfl) ?_
                        refine lv_if_eq (tgt := 344) hx hb dX10_bestEnd_337 (by decide) (fun _ => ?_) (fun hno => absurd hno (by decide))
                        refine lv_iconst (v := 0) hx hb dX10_bestEnd_344 (by decide) ?_
                        refine lv_iadd hx hb dX10_bestEnd_345 ?_
                        refine q_seti (y := nI (pq + 0)) (nI_add pq 0) ?_
                        refine q_seti (y := nI pq) (congrArg nI (show pq + 0 = pq by omega)) ?_
                        refine lv_istore (lv' := [(5, .int (nI pq)), (12, .int (nI (((x.1) + ((mo - (((rows + dd) + 1) + tb)) * (mo - (((rows + dd) + 1) + tb)))) + 10))), (11, .int (nI (x.1))), (10, .int 0), (9, .int (nI (rs_S Fm To pq + (i + 1)))), (8, .int (nI (((rows + dd) + 1) + tb))), (7, .int 0), (6, .int (nI (i + 1))), (4, .int (nI ((rows + dd) + 1))), (3, .int (nI at_)), (2, .int (nI r0)), (1, .int (nI p0)), (0, .ref h0)]) hx hb dX10_bestEnd_346 hl (by decide) rfl (fun ls hl => ?_)
                        refine lv_iload hx hb dX10_bestEnd_348 (lv_at hl 6 rfl) ?_
                        refine lv_if_eq (tgt := 357) hx hb dX10_bestEnd_350 (by decide) (fun _ => ?_) (fun hno => absurd hno (by decide))
                        refine lv_iload hx hb dX10_bestEnd_357 (lv_at hl 7 rfl) ?_
                        refine lv_istore (lv' := [(6, .int (nI (i + 1))), (5, .int (nI pq)), (12, .int (nI (((x.1) + ((mo - (((rows + dd) + 1) + tb)) * (mo - (((rows + dd) + 1) + tb)))) + 10))), (11, .int (nI (x.1))), (10, .int 0), (9, .int (nI (rs_S Fm To pq + (i + 1)))), (8, .int (nI (((rows + dd) + 1) + tb))), (7, .int 0), (4, .int (nI ((rows + dd) + 1))), (3, .int (nI at_)), (2, .int (nI r0)), (1, .int (nI p0)), (0, .ref h0)]) hx hb dX10_bestEnd_359 hl (by decide) rfl (fun ls hl => ?_)
                        refine lv_goto (tgt := 31) hx hb dX10_bestEnd_361 (by decide) ?_
                        have hP := hP
                        exact ih pq (i + 1) (rows + dd + 1) (upd f31 at_ (nI (((x.1) + ((mo - (((rows + dd) + 1) + tb)) * (mo - (((rows + dd) + 1) + tb)))) + 10))) (upd f32 at_ (nI pq)) (upd f33 at_ (nI (i + 1))) (upd f34 at_ (nI (((rows + dd) + 1) + tb))) (some ((x.1 + (mo - (rows + dd + 1 + tb)) * (mo - (rows + dd + 1 + tb)) + 10), pq, i + 1, (rows + dd + 1 + tb))) H locs ls (by omega) (by omega) (by omega) (fun _ => by omega) ⟨pk_us, pk_us, pk_us, pk_us⟩ (fun y2 e2 => by cases e2; exact ⟨by show (x.1 + (mo - (rows + dd + 1 + tb)) * (mo - (rows + dd + 1 + tb)) + 10) ≤ 1640 * (rs_S Fm To pn - at_); omega, by show rows + dd + 1 + tb ≤ 40; omega, by show pq ≤ pn; omega, (fun _ => by show i + 1 < To pq - Fm pq; omega), (fun z => absurd (show pq = pn from z) (by omega)), by show at_ < rs_S Fm To pq + (i + 1); omega⟩) (fun z => by have := hri z; omega) (by omega) (by omega) (bk_tab_k hC) hP hD hS (lv_sub hl (l' := [(6, .int (nI (i + 1))), (5, .int (nI pq)), (4, .int (nI ((rows + dd) + 1))), (3, .int (nI at_)), (2, .int (nI r0)), (1, .int (nI p0)), (0, .ref h0)]) [0, 1, 8, 9, 10, 11, 12] rfl) (fun b3 w1 w2 w3 w4 H locs ls a1 => kk b3 w1 w2 w3 w4 H locs ls (a1.trans (bk_in (by omega) (by omega) edd etb (fun _ => emb) (if_neg (by omega)).symm (if_neg (by omega)).symm ((if_pos (by omega)).trans ((bk_new_s (by omega) hcx ((if_neg (by omega)).trans (pif_n c_7))).trans bk_try_n)).symm)))
                      · have hbb := (hbo y rfl).1
                        refine lv_aload_n hx hb dX10_bestEnd_259 rfl (lv_at hl 12 rfl) ?_
                        refine va_get (D := D) (ci := 11) (v := .ref (q 31)) (C := RX10) (T := TX10) (N := 48) hx hb hts inX10 hown hK hP 0 rfl rfl 31 (by decide) (hts _ k_1175) (fun _ h9 => h9) rfl dX10_bestEnd_260 ?_
                        refine lv_iload_n hx hb dX10_bestEnd_263 rfl (lv_at hl 9 rfl) ?_
                        refine q_ild (X := at_) (f := f31) hx hb hK hP 20 1 rfl rfl (by omega) (by decide) dX10_bestEnd_264 ?_
                        refine q_seti (y := (nI (y.1))) hb9.1 ?_
                        refine lv_iconst (v := (-1)) hx hb dX10_bestEnd_265 (by decide) ?_
                        refine lv_icmp_eq (tgt := 280) hx hb dX10_bestEnd_266 (by decide) (fun hno => absurd hno (q_nem (by decide) (by omega))) (fun _ => ?_)
                        refine lv_iload hx hb dX10_bestEnd_269 (lv_at hl 0 rfl) ?_
                        refine lv_aload_n hx hb dX10_bestEnd_271 rfl (lv_at hl 12 rfl) ?_
                        refine va_get (D := D) (ci := 11) (v := .ref (q 31)) (C := RX10) (T := TX10) (N := 48) hx hb hts inX10 hown hK hP 0 rfl rfl 31 (by decide) (hts _ k_1175) (fun _ h9 => h9) rfl dX10_bestEnd_272 ?_
                        refine lv_iload_n hx hb dX10_bestEnd_275 rfl (lv_at hl 9 rfl) ?_
                        refine q_ild (X := at_) (f := f31) hx hb hK hP 20 1 rfl rfl (by omega) (by decide) dX10_bestEnd_276 ?_
                        refine q_seti (y := (nI (y.1))) hb9.1 ?_
                        refine lv_icmp_gt (tgt := 333) hx hb dX10_bestEnd_277 (by decide) (fun c_8 => ?_) (fun c_8 => ?_)
                        · have c_8 := q_lt (a := y.1) (b := ((x.1) + ((mo - (((rows + dd) + 1) + tb)) * (mo - (((rows + dd) + 1) + tb)))) + 10) (by omega) (by omega) c_8
                          refine lv_iload hx hb dX10_bestEnd_333 (lv_at hl 8 rfl) ?_
                          refine lv_iload hx hb dX10_bestEnd_335 (lv_at hl 5 rfl) ?_
                          refine lv_if_eq (tgt := 344) hx hb dX10_bestEnd_337 (by decide) (fun _ => ?_) (fun hno => absurd hno (by decide))
                          refine lv_iconst (v := 0) hx hb dX10_bestEnd_344 (by decide) ?_
                          refine lv_iadd hx hb dX10_bestEnd_345 ?_
                          refine q_seti (y := nI (pq + 0)) (nI_add pq 0) ?_
                          refine q_seti (y := nI pq) (congrArg nI (show pq + 0 = pq by omega)) ?_
                          refine lv_istore (lv' := [(5, .int (nI pq)), (12, .int (nI (((x.1) + ((mo - (((rows + dd) + 1) + tb)) * (mo - (((rows + dd) + 1) + tb)))) + 10))), (11, .int (nI (x.1))), (10, .int 0), (9, .int (nI (rs_S Fm To pq + (i + 1)))), (8, .int (nI (((rows + dd) + 1) + tb))), (7, .int 0), (6, .int (nI (i + 1))), (4, .int (nI ((rows + dd) + 1))), (3, .int (nI at_)), (2, .int (nI r0)), (1, .int (nI p0)), (0, .ref h0)]) hx hb dX10_bestEnd_346 hl (by decide) rfl (fun ls hl => ?_)
                          refine lv_iload hx hb dX10_bestEnd_348 (lv_at hl 6 rfl) ?_
                          refine lv_if_eq (tgt := 357) hx hb dX10_bestEnd_350 (by decide) (fun _ => ?_) (fun hno => absurd hno (by decide))
                          refine lv_iload hx hb dX10_bestEnd_357 (lv_at hl 7 rfl) ?_
                          refine lv_istore (lv' := [(6, .int (nI (i + 1))), (5, .int (nI pq)), (12, .int (nI (((x.1) + ((mo - (((rows + dd) + 1) + tb)) * (mo - (((rows + dd) + 1) + tb)))) + 10))), (11, .int (nI (x.1))), (10, .int 0), (9, .int (nI (rs_S Fm To pq + (i + 1)))), (8, .int (nI (((rows + dd) + 1) + tb))), (7, .int 0), (4, .int (nI ((rows + dd) + 1))), (3, .int (nI at_)), (2, .int (nI r0)), (1, .int (nI p0)), (0, .ref h0)]) hx hb dX10_bestEnd_359 hl (by decide) rfl (fun ls hl => ?_)
                          refine lv_goto (tgt := 31) hx hb dX10_bestEnd_361 (by decide) ?_
                          exact ih pq (i + 1) (rows + dd + 1) f31 f32 f33 f34 (some y) H locs ls (by omega) (by omega) (by omega) (fun _ => by omega) hb9 hbo (fun z => by have := hri z; omega) (by omega) (by omega) hC hP hD hS (lv_sub hl (l' := [(6, .int (nI (i + 1))), (5, .int (nI pq)), (4, .int (nI ((rows + dd) + 1))), (3, .int (nI at_)), (2, .int (nI r0)), (1, .int (nI p0)), (0, .ref h0)]) [0, 1, 8, 9, 10, 11, 12] rfl) (fun b3 w1 w2 w3 w4 H locs ls a1 => kk b3 w1 w2 w3 w4 H locs ls (a1.trans (bk_in (by omega) (by omega) edd etb (fun _ => emb) (if_neg (by omega)).symm (if_neg (by omega)).symm ((if_pos (by omega)).trans ((bk_new_s (by omega) hcx ((if_neg (by omega)).trans (pif_n c_7))).trans (bk_try_g (by omega)))).symm)))
                        · have c_8 := q_nlt (a := y.1) (b := ((x.1) + ((mo - (((rows + dd) + 1) + tb)) * (mo - (((rows + dd) + 1) + tb)))) + 10) (by omega) (by omega) c_8
                          refine lv_aload_n hx hb dX10_bestEnd_280 rfl (lv_at hl 12 rfl) ?_
                          refine va_get (D := D) (ci := 11) (v := .ref (q 31)) (C := RX10) (T := TX10) (N := 48) hx hb hts inX10 hown hK hP 0 rfl rfl 31 (by decide) (hts _ k_1175) (fun _ h9 => h9) rfl dX10_bestEnd_281 ?_
                          refine lv_iload_n hx hb dX10_bestEnd_284 rfl (lv_at hl 9 rfl) ?_
                          refine lv_iload hx hb dX10_bestEnd_285 (lv_at hl 0 rfl) ?_
                          refine q_ist (X := at_) (f := f31) (x := (nI (((x.1) + ((mo - (((rows + dd) + 1) + tb)) * (mo - (((rows + dd) + 1) + tb)))) + 10))) hx hb hK hP hD hS 20 1 rfl rfl (by omega) (by decide) dX10_bestEnd_287 (fun H locs hP hD hS => ?_)
                          have hP : va_P D vcl (mW h0 q cB cI cZ I (va_up (va_up (va_up (va_up F 31 (upd f31 at_ (nI (((x.1) + ((mo - (((rows + dd) + 1) + tb)) * (mo - (((rows + dd) + 1) + tb)))) + 10)))) 32 f32) 33 f33) 34 f34)) H := hP
                          have hD : va_D A (mW h0 q cB cI cZ I (va_up (va_up (va_up (va_up F 31 (upd f31 at_ (nI (((x.1) + ((mo - (((rows + dd) + 1) + tb)) * (mo - (((rows + dd) + 1) + tb)))) + 10)))) 32 f32) 33 f33) 34 f34)) := hD
                          refine lv_aload_n hx hb dX10_bestEnd_288 rfl (lv_at hl 12 rfl) ?_
                          refine va_get (D := D) (ci := 11) (v := .ref (q 32)) (C := RX10) (T := TX10) (N := 48) hx hb hts inX10 hown hK hP 0 rfl rfl 32 (by decide) (hts _ k_1176) (fun _ h9 => h9) rfl dX10_bestEnd_289 ?_
                          refine lv_iload_n hx hb dX10_bestEnd_292 rfl (lv_at hl 9 rfl) ?_
                          refine lv_iload hx hb dX10_bestEnd_293 (lv_at hl 5 rfl) ?_
                          refine lv_if_eq (tgt := 305) hx hb dX10_bestEnd_295 (by decide) (fun _ => ?_) (fun hno => absurd hno (by decide))
                          refine lv_iload hx hb dX10_bestEnd_305 (lv_at hl 8 rfl) ?_
                          refine q_ist (X := at_) (f := f32) (x := (nI pq)) hx hb hK hP hD hS 21 1 rfl rfl (by omega) (by decide) dX10_bestEnd_307 (fun H locs hP hD hS => ?_)
                          have hP : va_P D vcl (mW h0 q cB cI cZ I (va_up (va_up (va_up (va_up F 31 (upd f31 at_ (nI (((x.1) + ((mo - (((rows + dd) + 1) + tb)) * (mo - (((rows + dd) + 1) + tb)))) + 10)))) 32 (upd f32 at_ (nI pq))) 33 f33) 34 f34)) H := hP
                          have hD : va_D A (mW h0 q cB cI cZ I (va_up (va_up (va_up (va_up F 31 (upd f31 at_ (nI (((x.1) + ((mo - (((rows + dd) + 1) + tb)) * (mo - (((rows + dd) + 1) + tb)))) + 10)))) 32 (upd f32 at_ (nI pq))) 33 f33) 34 f34)) := hD
                          refine lv_aload_n hx hb dX10_bestEnd_308 rfl (lv_at hl 12 rfl) ?_
                          refine va_get (D := D) (ci := 11) (v := .ref (q 33)) (C := RX10) (T := TX10) (N := 48) hx hb hts inX10 hown hK hP 0 rfl rfl 33 (by decide) (hts _ k_1177) (fun _ h9 => h9) rfl dX10_bestEnd_309 ?_
                          refine lv_iload_n hx hb dX10_bestEnd_312 rfl (lv_at hl 9 rfl) ?_
                          refine lv_iload hx hb dX10_bestEnd_313 (lv_at hl 5 rfl) ?_
                          refine lv_if_eq (tgt := 322) hx hb dX10_bestEnd_315 (by decide) (fun _ => ?_) (fun hno => absurd hno (by decide))
                          refine lv_iload hx hb dX10_bestEnd_322 (lv_at hl 6 rfl) ?_
                          refine q_ist (X := at_) (f := f33) (x := (nI (i + 1))) hx hb hK hP hD hS 22 1 rfl rfl (by omega) (by decide) dX10_bestEnd_324 (fun H locs hP hD hS => ?_)
                          have hP : va_P D vcl (mW h0 q cB cI cZ I (va_up (va_up (va_up (va_up F 31 (upd f31 at_ (nI (((x.1) + ((mo - (((rows + dd) + 1) + tb)) * (mo - (((rows + dd) + 1) + tb)))) + 10)))) 32 (upd f32 at_ (nI pq))) 33 (upd f33 at_ (nI (i + 1)))) 34 f34)) H := hP
                          have hD : va_D A (mW h0 q cB cI cZ I (va_up (va_up (va_up (va_up F 31 (upd f31 at_ (nI (((x.1) + ((mo - (((rows + dd) + 1) + tb)) * (mo - (((rows + dd) + 1) + tb)))) + 10)))) 32 (upd f32 at_ (nI pq))) 33 (upd f33 at_ (nI (i + 1)))) 34 f34)) := hD
                          refine lv_aload_n hx hb dX10_bestEnd_325 rfl (lv_at hl 12 rfl) ?_
                          refine va_get (D := D) (ci := 11) (v := .ref (q 34)) (C := RX10) (T := TX10) (N := 48) hx hb hts inX10 hown hK hP 0 rfl rfl 34 (by decide) (hts _ k_1178) (fun _ h9 => h9) rfl dX10_bestEnd_326 ?_
                          refine lv_iload_n hx hb dX10_bestEnd_329 rfl (lv_at hl 9 rfl) ?_
                          refine lv_iload hx hb dX10_bestEnd_330 (lv_at hl 4 rfl) ?_
                          refine q_ist (X := at_) (f := f34) (x := (nI (((rows + dd) + 1) + tb))) hx hb hK hP hD hS 23 1 rfl rfl (by omega) (by decide) dX10_bestEnd_332 (fun H locs hP hD hS => ?_)
                          have hP : va_P D vcl (mW h0 q cB cI cZ I (va_up (va_up (va_up (va_up F 31 (upd f31 at_ (nI (((x.1) + ((mo - (((rows + dd) + 1) + tb)) * (mo - (((rows + dd) + 1) + tb)))) + 10)))) 32 (upd f32 at_ (nI pq))) 33 (upd f33 at_ (nI (i + 1)))) 34 (upd f34 at_ (nI (((rows + dd) + 1) + tb))))) H := hP
                          have hD : va_D A (mW h0 q cB cI cZ I (va_up (va_up (va_up (va_up F 31 (upd f31 at_ (nI (((x.1) + ((mo - (((rows + dd) + 1) + tb)) * (mo - (((rows + dd) + 1) + tb)))) + 10)))) 32 (upd f32 at_ (nI pq))) 33 (upd f33 at_ (nI (i + 1)))) 34 (upd f34 at_ (nI (((rows + dd) + 1) + tb))))) := hD
                          refine lv_iload hx hb dX10_bestEnd_333 (lv_at hl 8 rfl) ?_
                          refine lv_iload hx hb dX10_bestEnd_335 (lv_at hl 5 rfl) ?_
                          refine lv_if_eq (tgt := 344) hx hb dX10_bestEnd_337 (by decide) (fun _ => ?_) (fun hno => absurd hno (by decide))
                          refine lv_iconst (v := 0) hx hb dX10_bestEnd_344 (by decide) ?_
                          refine lv_iadd hx hb dX10_bestEnd_345 ?_
                          refine q_seti (y := nI (pq + 0)) (nI_add pq 0) ?_
                          refine q_seti (y := nI pq) (congrArg nI (show pq + 0 = pq by omega)) ?_
                          refine lv_istore (lv' := [(5, .int (nI pq)), (12, .int (nI (((x.1) + ((mo - (((rows + dd) + 1) + tb)) * (mo - (((rows + dd) + 1) + tb)))) + 10))), (11, .int (nI (x.1))), (10, .int 0), (9, .int (nI (rs_S Fm To pq + (i + 1)))), (8, .int (nI (((rows + dd) + 1) + tb))), (7, .int 0), (6, .int (nI (i + 1))), (4, .int (nI ((rows + dd) + 1))), (3, .int (nI at_)), (2, .int (nI r0)), (1, .int (nI p0)), (0, .ref h0)]) hx hb dX10_bestEnd_346 hl (by decide) rfl (fun ls hl => ?_)
                          refine lv_iload hx hb dX10_bestEnd_348 (lv_at hl 6 rfl) ?_
                          refine lv_if_eq (tgt := 357) hx hb dX10_bestEnd_350 (by decide) (fun _ => ?_) (fun hno => absurd hno (by decide))
                          refine lv_iload hx hb dX10_bestEnd_357 (lv_at hl 7 rfl) ?_
                          refine lv_istore (lv' := [(6, .int (nI (i + 1))), (5, .int (nI pq)), (12, .int (nI (((x.1) + ((mo - (((rows + dd) + 1) + tb)) * (mo - (((rows + dd) + 1) + tb)))) + 10))), (11, .int (nI (x.1))), (10, .int 0), (9, .int (nI (rs_S Fm To pq + (i + 1)))), (8, .int (nI (((rows + dd) + 1) + tb))), (7, .int 0), (4, .int (nI ((rows + dd) + 1))), (3, .int (nI at_)), (2, .int (nI r0)), (1, .int (nI p0)), (0, .ref h0)]) hx hb dX10_bestEnd_359 hl (by decide) rfl (fun ls hl => ?_)
                          refine lv_goto (tgt := 31) hx hb dX10_bestEnd_361 (by decide) ?_
                          have hP := hP
                          exact ih pq (i + 1) (rows + dd + 1) (upd f31 at_ (nI (((x.1) + ((mo - (((rows + dd) + 1) + tb)) * (mo - (((rows + dd) + 1) + tb)))) + 10))) (upd f32 at_ (nI pq)) (upd f33 at_ (nI (i + 1))) (upd f34 at_ (nI (((rows + dd) + 1) + tb))) (some ((x.1 + (mo - (rows + dd + 1 + tb)) * (mo - (rows + dd + 1 + tb)) + 10), pq, i + 1, (rows + dd + 1 + tb))) H locs ls (by omega) (by omega) (by omega) (fun _ => by omega) ⟨pk_us, pk_us, pk_us, pk_us⟩ (fun y2 e2 => by cases e2; exact ⟨by show (x.1 + (mo - (rows + dd + 1 + tb)) * (mo - (rows + dd + 1 + tb)) + 10) ≤ 1640 * (rs_S Fm To pn - at_); omega, by show rows + dd + 1 + tb ≤ 40; omega, by show pq ≤ pn; omega, (fun _ => by show i + 1 < To pq - Fm pq; omega), (fun z => absurd (show pq = pn from z) (by omega)), by show at_ < rs_S Fm To pq + (i + 1); omega⟩) (fun z => by have := hri z; omega) (by omega) (by omega) (bk_tab_k hC) hP hD hS (lv_sub hl (l' := [(6, .int (nI (i + 1))), (5, .int (nI pq)), (4, .int (nI ((rows + dd) + 1))), (3, .int (nI at_)), (2, .int (nI r0)), (1, .int (nI p0)), (0, .ref h0)]) [0, 1, 8, 9, 10, 11, 12] rfl) (fun b3 w1 w2 w3 w4 H locs ls a1 => kk b3 w1 w2 w3 w4 H locs ls (a1.trans (bk_in (by omega) (by omega) edd etb (fun _ => emb) (if_neg (by omega)).symm (if_neg (by omega)).symm ((if_pos (by omega)).trans ((bk_new_s (by omega) hcx ((if_neg (by omega)).trans (pif_n c_7))).trans (bk_try_p (by omega)))).symm)))
                    · refine lv_bipush (v := 30) hx hb dX10_bestEnd_249 (by decide) ?_
                      refine lv_goto (tgt := 256) hx hb dX10_bestEnd_251 (by decide) ?_
                      refine lv_iadd hx hb dX10_bestEnd_256 ?_
                      refine q_seti (y := nI (((x.1) + ((mo - (((rows + dd) + 1) + tb)) * (mo - (((rows + dd) + 1) + tb)))) + 30)) (nI_add ((x.1) + ((mo - (((rows + dd) + 1) + tb)) * (mo - (((rows + dd) + 1) + tb)))) 30) ?_
                      refine lv_istore (lv' := [(12, .int (nI (((x.1) + ((mo - (((rows + dd) + 1) + tb)) * (mo - (((rows + dd) + 1) + tb)))) + 30))), (11, .int (nI (x.1))), (10, .int 0), (9, .int (nI (rs_S Fm To pq + (i + 1)))), (8, .int (nI (((rows + dd) + 1) + tb))), (7, .int 0), (6, .int (nI (i + 1))), (4, .int (nI ((rows + dd) + 1))), (5, .int (nI pq)), (3, .int (nI at_)), (2, .int (nI r0)), (1, .int (nI p0)), (0, .ref h0)]) hx hb dX10_bestEnd_257 hl (by decide) rfl (fun ls hl => ?_)
                      rcases b with _ | y
                      · have hbb := hb9
                        refine lv_aload_n hx hb dX10_bestEnd_259 rfl (lv_at hl 12 rfl) ?_
                        refine va_get (D := D) (ci := 11) (v := .ref (q 31)) (C := RX10) (T := TX10) (N := 48) hx hb hts inX10 hown hK hP 0 rfl rfl 31 (by decide) (hts _ k_1175) (fun _ h9 => h9) rfl dX10_bestEnd_260 ?_
                        refine lv_iload_n hx hb dX10_bestEnd_263 rfl (lv_at hl 9 rfl) ?_
                        refine q_ild (X := at_) (f := f31) hx hb hK hP 20 1 rfl rfl (by omega) (by decide) dX10_bestEnd_264 ?_
                        refine q_seti (y := (-1)) hb9 ?_
                        refine lv_iconst (v := (-1)) hx hb dX10_bestEnd_265 (by decide) ?_
                        refine lv_icmp_eq (tgt := 280) hx hb dX10_bestEnd_266 (by decide) (fun _ => ?_) (fun hno => absurd hno (by decide))
                        refine lv_aload_n hx hb dX10_bestEnd_280 rfl (lv_at hl 12 rfl) ?_
                        refine va_get (D := D) (ci := 11) (v := .ref (q 31)) (C := RX10) (T := TX10) (N := 48) hx hb hts inX10 hown hK hP 0 rfl rfl 31 (by decide) (hts _ k_1175) (fun _ h9 => h9) rfl dX10_bestEnd_281 ?_
                        refine lv_iload_n hx hb dX10_bestEnd_284 rfl (lv_at hl 9 rfl) ?_
                        refine lv_iload hx hb dX10_bestEnd_285 (lv_at hl 0 rfl) ?_
                        refine q_ist (X := at_) (f := f31) (x := (nI (((x.1) + ((mo - (((rows + dd) + 1) + tb)) * (mo - (((rows + dd) + 1) + tb)))) + 30))) hx hb hK hP hD hS 20 1 rfl rfl (by omega) (by decide) dX10_bestEnd_287 (fun H locs hP hD hS => ?_)
                        have hP : va_P D vcl (mW h0 q cB cI cZ I (va_up (va_up (va_up (va_up F 31 (upd f31 at_ (nI (((x.1) + ((mo - (((rows + dd) + 1) + tb)) * (mo - (((rows + dd) + 1) + tb)))) + 30)))) 32 f32) 33 f33) 34 f34)) H := hP
                        have hD : va_D A (mW h0 q cB cI cZ I (va_up (va_up (va_up (va_up F 31 (upd f31 at_ (nI (((x.1) + ((mo - (((rows + dd) + 1) + tb)) * (mo - (((rows + dd) + 1) + tb)))) + 30)))) 32 f32) 33 f33) 34 f34)) := hD
                        refine lv_aload_n hx hb dX10_bestEnd_288 rfl (lv_at hl 12 rfl) ?_
                        refine va_get (D := D) (ci := 11) (v := .ref (q 32)) (C := RX10) (T := TX10) (N := 48) hx hb hts inX10 hown hK hP 0 rfl rfl 32 (by decide) (hts _ k_1176) (fun _ h9 => h9) rfl dX10_bestEnd_289 ?_
                        refine lv_iload_n hx hb dX10_bestEnd_292 rfl (lv_at hl 9 rfl) ?_
                        refine lv_iload hx hb dX10_bestEnd_293 (lv_at hl 5 rfl) ?_
                        refine lv_if_eq (tgt := 305) hx hb dX10_bestEnd_295 (by decide) (fun _ => ?_) (fun hno => absurd hno (by decide))
                        refine lv_iload hx hb dX10_bestEnd_305 (lv_at hl 8 rfl) ?_
                        refine q_ist (X := at_) (f := f32) (x := (nI pq)) hx hb hK hP hD hS 21 1 rfl rfl (by omega) (by decide) dX10_bestEnd_307 (fun H locs hP hD hS => ?_)
                        have hP : va_P D vcl (mW h0 q cB cI cZ I (va_up (va_up (va_up (va_up F 31 (upd f31 at_ (nI (((x.1) + ((mo - (((rows + dd) + 1) + tb)) * (mo - (((rows + dd) + 1) + tb)))) + 30)))) 32 (upd f32 at_ (nI pq))) 33 f33) 34 f34)) H := hP
                        have hD : va_D A (mW h0 q cB cI cZ I (va_up (va_up (va_up (va_up F 31 (upd f31 at_ (nI (((x.1) + ((mo - (((rows + dd) + 1) + tb)) * (mo - (((rows + dd) + 1) + tb)))) + 30)))) 32 (upd f32 at_ (nI pq))) 33 f33) 34 f34)) := hD
                        refine lv_aload_n hx hb dX10_bestEnd_308 rfl (lv_at hl 12 rfl) ?_
                        refine va_get (D := D) (ci := 11) (v := .ref (q 33)) (C := RX10) (T := TX10) (N := 48) hx hb hts inX10 hown hK hP 0 rfl rfl 33 (by decide) (hts _ k_1177) (fun _ h9 => h9) rfl dX10_bestEnd_309 ?_
                        refine lv_iload_n hx hb dX10_bestEnd_312 rfl (lv_at hl 9 rfl) ?_
                        refine lv_iload hx hb dX10_bestEnd_313 (lv_at hl 5 rfl) ?_
                        refine lv_if_eq (tgt := 322) hx hb dX10_bestEnd_315 (by decide) (fun _ => ?_) (fun hno => absurd hno (by decide))
                        refine lv_iload hx hb dX10_bestEnd_322 (lv_at hl 6 rfl) ?_
                        refine q_ist (X := at_) (f := f33) (x := (nI (i + 1))) hx hb hK hP hD hS 22 1 rfl rfl (by omega) (by decide) dX10_bestEnd_324 (fun H locs hP hD hS => ?_)
                        have hP : va_P D vcl (mW h0 q cB cI cZ I (va_up (va_up (va_up (va_up F 31 (upd f31 at_ (nI (((x.1) + ((mo - (((rows + dd) + 1) + tb)) * (mo - (((rows + dd) + 1) + tb)))) + 30)))) 32 (upd f32 at_ (nI pq))) 33 (upd f33 at_ (nI (i + 1)))) 34 f34)) H := hP
                        have hD : va_D A (mW h0 q cB cI cZ I (va_up (va_up (va_up (va_up F 31 (upd f31 at_ (nI (((x.1) + ((mo - (((rows + dd) + 1) + tb)) * (mo - (((rows + dd) + 1) + tb)))) + 30)))) 32 (upd f32 at_ (nI pq))) 33 (upd f33 at_ (nI (i + 1)))) 34 f34)) := hD
                        refine lv_aload_n hx hb dX10_bestEnd_325 rfl (lv_at hl 12 rfl) ?_
                        refine va_get (D := D) (ci := 11) (v := .ref (q 34)) (C := RX10) (T := TX10) (N := 48) hx hb hts inX10 hown hK hP 0 rfl rfl 34 (by decide) (hts _ k_1178) (fun _ h9 => h9) rfl dX10_bestEnd_326 ?_
                        refine lv_iload_n hx hb dX10_bestEnd_329 rfl (lv_at hl 9 rfl) ?_
                        refine lv_iload hx hb dX10_bestEnd_330 (lv_at hl 4 rfl) ?_
                        refine q_ist (X := at_) (f := f34) (x := (nI (((rows + dd) + 1) + tb))) hx hb hK hP hD hS 23 1 rfl rfl (by omega) (by decide) dX10_bestEnd_332 (fun H locs hP hD hS => ?_)
                        have hP : va_P D vcl (mW h0 q cB cI cZ I (va_up (va_up (va_up (va_up F 31 (upd f31 at_ (nI (((x.1) + ((mo - (((rows + dd) + 1) + tb)) * (mo - (((rows + dd) + 1) + tb)))) + 30)))) 32 (upd f32 at_ (nI pq))) 33 (upd f33 at_ (nI (i + 1)))) 34 (upd f34 at_ (nI (((rows + dd) + 1) + tb))))) H := hP
                        have hD : va_D A (mW h0 q cB cI cZ I (va_up (va_up (va_up (va_up F 31 (upd f31 at_ (nI (((x.1) + ((mo - (((rows + dd) + 1) + tb)) * (mo - (((rows + dd) + 1) + tb)))) + 30)))) 32 (upd f32 at_ (nI pq))) 33 (upd f33 at_ (nI (i + 1)))) 34 (upd f34 at_ (nI (((rows + dd) + 1) + tb))))) := hD
                        refine lv_iload hx hb dX10_bestEnd_333 (lv_at hl 8 rfl) ?_
                        refine lv_iload hx hb dX10_bestEnd_335 (lv_at hl 5 rfl) ?_
                        refine lv_if_eq (tgt := 344) hx hb dX10_bestEnd_337 (by decide) (fun _ => ?_) (fun hno => absurd hno (by decide))
                        refine lv_iconst (v := 0) hx hb dX10_bestEnd_344 (by decide) ?_
                        refine lv_iadd hx hb dX10_bestEnd_345 ?_
                        refine q_seti (y := nI (pq + 0)) (nI_add pq 0) ?_
                        refine q_seti (y := nI pq) (congrArg nI (show pq + 0 = pq by omega)) ?_
                        refine lv_istore (lv' := [(5, .int (nI pq)), (12, .int (nI (((x.1) + ((mo - (((rows + dd) + 1) + tb)) * (mo - (((rows + dd) + 1) + tb)))) + 30))), (11, .int (nI (x.1))), (10, .int 0), (9, .int (nI (rs_S Fm To pq + (i + 1)))), (8, .int (nI (((rows + dd) + 1) + tb))), (7, .int 0), (6, .int (nI (i + 1))), (4, .int (nI ((rows + dd) + 1))), (3, .int (nI at_)), (2, .int (nI r0)), (1, .int (nI p0)), (0, .ref h0)]) hx hb dX10_bestEnd_346 hl (by decide) rfl (fun ls hl => ?_)
                        refine lv_iload hx hb dX10_bestEnd_348 (lv_at hl 6 rfl) ?_
                        refine lv_if_eq (tgt := 357) hx hb dX10_bestEnd_350 (by decide) (fun _ => ?_) (fun hno => absurd hno (by decide))
                        refine lv_iload hx hb dX10_bestEnd_357 (lv_at hl 7 rfl) ?_
                        refine lv_istore (lv' := [(6, .int (nI (i + 1))), (5, .int (nI pq)), (12, .int (nI (((x.1) + ((mo - (((rows + dd) + 1) + tb)) * (mo - (((rows + dd) + 1) + tb)))) + 30))), (11, .int (nI (x.1))), (10, .int 0), (9, .int (nI (rs_S Fm To pq + (i + 1)))), (8, .int (nI (((rows + dd) + 1) + tb))), (7, .int 0), (4, .int (nI ((rows + dd) + 1))), (3, .int (nI at_)), (2, .int (nI r0)), (1, .int (nI p0)), (0, .ref h0)]) hx hb dX10_bestEnd_359 hl (by decide) rfl (fun ls hl => ?_)
                        refine lv_goto (tgt := 31) hx hb dX10_bestEnd_361 (by decide) ?_
                        have hP := hP
                        exact ih pq (i + 1) (rows + dd + 1) (upd f31 at_ (nI (((x.1) + ((mo - (((rows + dd) + 1) + tb)) * (mo - (((rows + dd) + 1) + tb)))) + 30))) (upd f32 at_ (nI pq)) (upd f33 at_ (nI (i + 1))) (upd f34 at_ (nI (((rows + dd) + 1) + tb))) (some ((x.1 + (mo - (rows + dd + 1 + tb)) * (mo - (rows + dd + 1 + tb)) + 30), pq, i + 1, (rows + dd + 1 + tb))) H locs ls (by omega) (by omega) (by omega) (fun _ => by omega) ⟨pk_us, pk_us, pk_us, pk_us⟩ (fun y2 e2 => by cases e2; exact ⟨by show (x.1 + (mo - (rows + dd + 1 + tb)) * (mo - (rows + dd + 1 + tb)) + 30) ≤ 1640 * (rs_S Fm To pn - at_); omega, by show rows + dd + 1 + tb ≤ 40; omega, by show pq ≤ pn; omega, (fun _ => by show i + 1 < To pq - Fm pq; omega), (fun z => absurd (show pq = pn from z) (by omega)), by show at_ < rs_S Fm To pq + (i + 1); omega⟩) (fun z => by have := hri z; omega) (by omega) (by omega) (bk_tab_k hC) hP hD hS (lv_sub hl (l' := [(6, .int (nI (i + 1))), (5, .int (nI pq)), (4, .int (nI ((rows + dd) + 1))), (3, .int (nI at_)), (2, .int (nI r0)), (1, .int (nI p0)), (0, .ref h0)]) [0, 1, 8, 9, 10, 11, 12] rfl) (fun b3 w1 w2 w3 w4 H locs ls a1 => kk b3 w1 w2 w3 w4 H locs ls (a1.trans (bk_in (by omega) (by omega) edd etb (fun _ => emb) (if_neg (by omega)).symm (if_neg (by omega)).symm ((if_pos (by omega)).trans ((bk_new_s (by omega) hcx ((if_neg (by omega)).trans (pif_p c_7))).trans bk_try_n)).symm)))
                      · have hbb := (hbo y rfl).1
                        refine lv_aload_n hx hb dX10_bestEnd_259 rfl (lv_at hl 12 rfl) ?_
                        refine va_get (D := D) (ci := 11) (v := .ref (q 31)) (C := RX10) (T := TX10) (N := 48) hx hb hts inX10 hown hK hP 0 rfl rfl 31 (by decide) (hts _ k_1175) (fun _ h9 => h9) rfl dX10_bestEnd_260 ?_
                        refine lv_iload_n hx hb dX10_bestEnd_263 rfl (lv_at hl 9 rfl) ?_
                        refine q_ild (X := at_) (f := f31) hx hb hK hP 20 1 rfl rfl (by omega) (by decide) dX10_bestEnd_264 ?_
                        refine q_seti (y := (nI (y.1))) hb9.1 ?_
                        refine lv_iconst (v := (-1)) hx hb dX10_bestEnd_265 (by decide) ?_
                        refine lv_icmp_eq (tgt := 280) hx hb dX10_bestEnd_266 (by decide) (fun hno => absurd hno (q_nem (by decide) (by omega))) (fun _ => ?_)
                        refine lv_iload hx hb dX10_bestEnd_269 (lv_at hl 0 rfl) ?_
                        refine lv_aload_n hx hb dX10_bestEnd_271 rfl (lv_at hl 12 rfl) ?_
                        refine va_get (D := D) (ci := 11) (v := .ref (q 31)) (C := RX10) (T := TX10) (N := 48) hx hb hts inX10 hown hK hP 0 rfl rfl 31 (by decide) (hts _ k_1175) (fun _ h9 => h9) rfl dX10_bestEnd_272 ?_
                        refine lv_iload_n hx hb dX10_bestEnd_275 rfl (lv_at hl 9 rfl) ?_
                        refine q_ild (X := at_) (f := f31) hx hb hK hP 20 1 rfl rfl (by omega) (by decide) dX10_bestEnd_276 ?_
                        refine q_seti (y := (nI (y.1))) hb9.1 ?_
                        refine lv_icmp_gt (tgt := 333) hx hb dX10_bestEnd_277 (by decide) (fun c_9 => ?_) (fun c_9 => ?_)
                        · have c_9 := q_lt (a := y.1) (b := ((x.1) + ((mo - (((rows + dd) + 1) + tb)) * (mo - (((rows + dd) + 1) + tb)))) + 30) (by omega) (by omega) c_9
                          refine lv_iload hx hb dX10_bestEnd_333 (lv_at hl 8 rfl) ?_
                          refine lv_iload hx hb dX10_bestEnd_335 (lv_at hl 5 rfl) ?_
                          refine lv_if_eq (tgt := 344) hx hb dX10_bestEnd_337 (by decide) (fun _ => ?_) (fun hno => absurd hno (by decide))
                          refine lv_iconst (v := 0) hx hb dX10_bestEnd_344 (by decide) ?_
                          refine lv_iadd hx hb dX10_bestEnd_345 ?_
                          refine q_seti (y := nI (pq + 0)) (nI_add pq 0) ?_
                          refine q_seti (y := nI pq) (congrArg nI (show pq + 0 = pq by omega)) ?_
                          refine lv_istore (lv' := [(5, .int (nI pq)), (12, .int (nI (((x.1) + ((mo - (((rows + dd) + 1) + tb)) * (mo - (((rows + dd) + 1) + tb)))) + 30))), (11, .int (nI (x.1))), (10, .int 0), (9, .int (nI (rs_S Fm To pq + (i + 1)))), (8, .int (nI (((rows + dd) + 1) + tb))), (7, .int 0), (6, .int (nI (i + 1))), (4, .int (nI ((rows + dd) + 1))), (3, .int (nI at_)), (2, .int (nI r0)), (1, .int (nI p0)), (0, .ref h0)]) hx hb dX10_bestEnd_346 hl (by decide) rfl (fun ls hl => ?_)
                          refine lv_iload hx hb dX10_bestEnd_348 (lv_at hl 6 rfl) ?_
                          refine lv_if_eq (tgt := 357) hx hb dX10_bestEnd_350 (by decide) (fun _ => ?_) (fun hno => absurd hno (by decide))
                          refine lv_iload hx hb dX10_bestEnd_357 (lv_at hl 7 rfl) ?_
                          refine lv_istore (lv' := [(6, .int (nI (i + 1))), (5, .int (nI pq)), (12, .int (nI (((x.1) + ((mo - (((rows + dd) + 1) + tb)) * (mo - (((rows + dd) + 1) + tb)))) + 30))), (11, .int (nI (x.1))), (10, .int 0), (9, .int (nI (rs_S Fm To pq + (i + 1)))), (8, .int (nI (((rows + dd) + 1) + tb))), (7, .int 0), (4, .int (nI ((rows + dd) + 1))), (3, .int (nI at_)), (2, .int (nI r0)), (1, .int (nI p0)), (0, .ref h0)]) hx hb dX10_bestEnd_359 hl (by decide) rfl (fun ls hl => ?_)
                          refine lv_goto (tgt := 31) hx hb dX10_bestEnd_361 (by decide) ?_
                          exact ih pq (i + 1) (rows + dd + 1) f31 f32 f33 f34 (some y) H locs ls (by omega) (by omega) (by omega) (fun _ => by omega) hb9 hbo (fun z => by have := hri z; omega) (by omega) (by omega) hC hP hD hS (lv_sub hl (l' := [(6, .int (nI (i + 1))), (5, .int (nI pq)), (4, .int (nI ((rows + dd) + 1))), (3, .int (nI at_)), (2, .int (nI r0)), (1, .int (nI p0)), (0, .ref h0)]) [0, 1, 8, 9, 10, 11, 12] rfl) (fun b3 w1 w2 w3 w4 H locs ls a1 => kk b3 w1 w2 w3 w4 H locs ls (a1.trans (bk_in (by omega) (by omega) edd etb (fun _ => emb) (if_neg (by omega)).symm (if_neg (by omega)).symm ((if_pos (by omega)).trans ((bk_new_s (by omega) hcx ((if_neg (by omega)).trans (pif_p c_7))).trans (bk_try_g (by omega)))).symm)))
                        · have c_9 := q_nlt (a := y.1) (b := ((x.1) + ((mo - (((rows + dd) + 1) + tb)) * (mo - (((rows + dd) + 1) + tb)))) + 30) (by omega) (by omega) c_9
                          refine lv_aload_n hx hb dX10_bestEnd_280 rfl (lv_at hl 12 rfl) ?_
                          refine va_get (D := D) (ci := 11) (v := .ref (q 31)) (C := RX10) (T := TX10) (N := 48) hx hb hts inX10 hown hK hP 0 rfl rfl 31 (by decide) (hts _ k_1175) (fun _ h9 => h9) rfl dX10_bestEnd_281 ?_
                          refine lv_iload_n hx hb dX10_bestEnd_284 rfl (lv_at hl 9 rfl) ?_
                          refine lv_iload hx hb dX10_bestEnd_285 (lv_at hl 0 rfl) ?_
                          refine q_ist (X := at_) (f := f31) (x := (nI (((x.1) + ((mo - (((rows + dd) + 1) + tb)) * (mo - (((rows + dd) + 1) + tb)))) + 30))) hx hb hK hP hD hS 20 1 rfl rfl (by omega) (by decide) dX10_bestEnd_287 (fun H locs hP hD hS => ?_)
                          have hP : va_P D vcl (mW h0 q cB cI cZ I (va_up (va_up (va_up (va_up F 31 (upd f31 at_ (nI (((x.1) + ((mo - (((rows + dd) + 1) + tb)) * (mo - (((rows + dd) + 1) + tb)))) + 30)))) 32 f32) 33 f33) 34 f34)) H := hP
                          have hD : va_D A (mW h0 q cB cI cZ I (va_up (va_up (va_up (va_up F 31 (upd f31 at_ (nI (((x.1) + ((mo - (((rows + dd) + 1) + tb)) * (mo - (((rows + dd) + 1) + tb)))) + 30)))) 32 f32) 33 f33) 34 f34)) := hD
                          refine lv_aload_n hx hb dX10_bestEnd_288 rfl (lv_at hl 12 rfl) ?_
                          refine va_get (D := D) (ci := 11) (v := .ref (q 32)) (C := RX10) (T := TX10) (N := 48) hx hb hts inX10 hown hK hP 0 rfl rfl 32 (by decide) (hts _ k_1176) (fun _ h9 => h9) rfl dX10_bestEnd_289 ?_
                          refine lv_iload_n hx hb dX10_bestEnd_292 rfl (lv_at hl 9 rfl) ?_
                          refine lv_iload hx hb dX10_bestEnd_293 (lv_at hl 5 rfl) ?_
                          refine lv_if_eq (tgt := 305) hx hb dX10_bestEnd_295 (by decide) (fun _ => ?_) (fun hno => absurd hno (by decide))
                          refine lv_iload hx hb dX10_bestEnd_305 (lv_at hl 8 rfl) ?_
                          refine q_ist (X := at_) (f := f32) (x := (nI pq)) hx hb hK hP hD hS 21 1 rfl rfl (by omega) (by decide) dX10_bestEnd_307 (fun H locs hP hD hS => ?_)
                          have hP : va_P D vcl (mW h0 q cB cI cZ I (va_up (va_up (va_up (va_up F 31 (upd f31 at_ (nI (((x.1) + ((mo - (((rows + dd) + 1) + tb)) * (mo - (((rows + dd) + 1) + tb)))) + 30)))) 32 (upd f32 at_ (nI pq))) 33 f33) 34 f34)) H := hP
                          have hD : va_D A (mW h0 q cB cI cZ I (va_up (va_up (va_up (va_up F 31 (upd f31 at_ (nI (((x.1) + ((mo - (((rows + dd) + 1) + tb)) * (mo - (((rows + dd) + 1) + tb)))) + 30)))) 32 (upd f32 at_ (nI pq))) 33 f33) 34 f34)) := hD
                          refine lv_aload_n hx hb dX10_bestEnd_308 rfl (lv_at hl 12 rfl) ?_
                          refine va_get (D := D) (ci := 11) (v := .ref (q 33)) (C := RX10) (T := TX10) (N := 48) hx hb hts inX10 hown hK hP 0 rfl rfl 33 (by decide) (hts _ k_1177) (fun _ h9 => h9) rfl dX10_bestEnd_309 ?_
                          refine lv_iload_n hx hb dX10_bestEnd_312 rfl (lv_at hl 9 rfl) ?_
                          refine lv_iload hx hb dX10_bestEnd_313 (lv_at hl 5 rfl) ?_
                          refine lv_if_eq (tgt := 322) hx hb dX10_bestEnd_315 (by decide) (fun _ => ?_) (fun hno => absurd hno (by decide))
                          refine lv_iload hx hb dX10_bestEnd_322 (lv_at hl 6 rfl) ?_
                          refine q_ist (X := at_) (f := f33) (x := (nI (i + 1))) hx hb hK hP hD hS 22 1 rfl rfl (by omega) (by decide) dX10_bestEnd_324 (fun H locs hP hD hS => ?_)
                          have hP : va_P D vcl (mW h0 q cB cI cZ I (va_up (va_up (va_up (va_up F 31 (upd f31 at_ (nI (((x.1) + ((mo - (((rows + dd) + 1) + tb)) * (mo - (((rows + dd) + 1) + tb)))) + 30)))) 32 (upd f32 at_ (nI pq))) 33 (upd f33 at_ (nI (i + 1)))) 34 f34)) H := hP
                          have hD : va_D A (mW h0 q cB cI cZ I (va_up (va_up (va_up (va_up F 31 (upd f31 at_ (nI (((x.1) + ((mo - (((rows + dd) + 1) + tb)) * (mo - (((rows + dd) + 1) + tb)))) + 30)))) 32 (upd f32 at_ (nI pq))) 33 (upd f33 at_ (nI (i + 1)))) 34 f34)) := hD
                          refine lv_aload_n hx hb dX10_bestEnd_325 rfl (lv_at hl 12 rfl) ?_
                          refine va_get (D := D) (ci := 11) (v := .ref (q 34)) (C := RX10) (T := TX10) (N := 48) hx hb hts inX10 hown hK hP 0 rfl rfl 34 (by decide) (hts _ k_1178) (fun _ h9 => h9) rfl dX10_bestEnd_326 ?_
                          refine lv_iload_n hx hb dX10_bestEnd_329 rfl (lv_at hl 9 rfl) ?_
                          refine lv_iload hx hb dX10_bestEnd_330 (lv_at hl 4 rfl) ?_
                          refine q_ist (X := at_) (f := f34) (x := (nI (((rows + dd) + 1) + tb))) hx hb hK hP hD hS 23 1 rfl rfl (by omega) (by decide) dX10_bestEnd_332 (fun H locs hP hD hS => ?_)
                          have hP : va_P D vcl (mW h0 q cB cI cZ I (va_up (va_up (va_up (va_up F 31 (upd f31 at_ (nI (((x.1) + ((mo - (((rows + dd) + 1) + tb)) * (mo - (((rows + dd) + 1) + tb)))) + 30)))) 32 (upd f32 at_ (nI pq))) 33 (upd f33 at_ (nI (i + 1)))) 34 (upd f34 at_ (nI (((rows + dd) + 1) + tb))))) H := hP
                          have hD : va_D A (mW h0 q cB cI cZ I (va_up (va_up (va_up (va_up F 31 (upd f31 at_ (nI (((x.1) + ((mo - (((rows + dd) + 1) + tb)) * (mo - (((rows + dd) + 1) + tb)))) + 30)))) 32 (upd f32 at_ (nI pq))) 33 (upd f33 at_ (nI (i + 1)))) 34 (upd f34 at_ (nI (((rows + dd) + 1) + tb))))) := hD
                          refine lv_iload hx hb dX10_bestEnd_333 (lv_at hl 8 rfl) ?_
                          refine lv_iload hx hb dX10_bestEnd_335 (lv_at hl 5 rfl) ?_
                          refine lv_if_eq (tgt := 344) hx hb dX10_bestEnd_337 (by decide) (fun _ => ?_) (fun hno => absurd hno (by decide))
                          refine lv_iconst (v := 0) hx hb dX10_bestEnd_344 (by decide) ?_
                          refine lv_iadd hx hb dX10_bestEnd_345 ?_
                          refine q_seti (y := nI (pq + 0)) (nI_add pq 0) ?_
                          refine q_seti (y := nI pq) (congrArg nI (show pq + 0 = pq by omega)) ?_
                          refine lv_istore (lv' := [(5, .int (nI pq)), (12, .int (nI (((x.1) + ((mo - (((rows + dd) + 1) + tb)) * (mo - (((rows + dd) + 1) + tb)))) + 30))), (11, .int (nI (x.1))), (10, .int 0), (9, .int (nI (rs_S Fm To pq + (i + 1)))), (8, .int (nI (((rows + dd) + 1) + tb))), (7, .int 0), (6, .int (nI (i + 1))), (4, .int (nI ((rows + dd) + 1))), (3, .int (nI at_)), (2, .int (nI r0)), (1, .int (nI p0)), (0, .ref h0)]) hx hb dX10_bestEnd_346 hl (by decide) rfl (fun ls hl => ?_)
                          refine lv_iload hx hb dX10_bestEnd_348 (lv_at hl 6 rfl) ?_
                          refine lv_if_eq (tgt := 357) hx hb dX10_bestEnd_350 (by decide) (fun _ => ?_) (fun hno => absurd hno (by decide))
                          refine lv_iload hx hb dX10_bestEnd_357 (lv_at hl 7 rfl) ?_
                          refine lv_istore (lv' := [(6, .int (nI (i + 1))), (5, .int (nI pq)), (12, .int (nI (((x.1) + ((mo - (((rows + dd) + 1) + tb)) * (mo - (((rows + dd) + 1) + tb)))) + 30))), (11, .int (nI (x.1))), (10, .int 0), (9, .int (nI (rs_S Fm To pq + (i + 1)))), (8, .int (nI (((rows + dd) + 1) + tb))), (7, .int 0), (4, .int (nI ((rows + dd) + 1))), (3, .int (nI at_)), (2, .int (nI r0)), (1, .int (nI p0)), (0, .ref h0)]) hx hb dX10_bestEnd_359 hl (by decide) rfl (fun ls hl => ?_)
                          refine lv_goto (tgt := 31) hx hb dX10_bestEnd_361 (by decide) ?_
                          have hP := hP
                          exact ih pq (i + 1) (rows + dd + 1) (upd f31 at_ (nI (((x.1) + ((mo - (((rows + dd) + 1) + tb)) * (mo - (((rows + dd) + 1) + tb)))) + 30))) (upd f32 at_ (nI pq)) (upd f33 at_ (nI (i + 1))) (upd f34 at_ (nI (((rows + dd) + 1) + tb))) (some ((x.1 + (mo - (rows + dd + 1 + tb)) * (mo - (rows + dd + 1 + tb)) + 30), pq, i + 1, (rows + dd + 1 + tb))) H locs ls (by omega) (by omega) (by omega) (fun _ => by omega) ⟨pk_us, pk_us, pk_us, pk_us⟩ (fun y2 e2 => by cases e2; exact ⟨by show (x.1 + (mo - (rows + dd + 1 + tb)) * (mo - (rows + dd + 1 + tb)) + 30) ≤ 1640 * (rs_S Fm To pn - at_); omega, by show rows + dd + 1 + tb ≤ 40; omega, by show pq ≤ pn; omega, (fun _ => by show i + 1 < To pq - Fm pq; omega), (fun z => absurd (show pq = pn from z) (by omega)), by show at_ < rs_S Fm To pq + (i + 1); omega⟩) (fun z => by have := hri z; omega) (by omega) (by omega) (bk_tab_k hC) hP hD hS (lv_sub hl (l' := [(6, .int (nI (i + 1))), (5, .int (nI pq)), (4, .int (nI ((rows + dd) + 1))), (3, .int (nI at_)), (2, .int (nI r0)), (1, .int (nI p0)), (0, .ref h0)]) [0, 1, 8, 9, 10, 11, 12] rfl) (fun b3 w1 w2 w3 w4 H locs ls a1 => kk b3 w1 w2 w3 w4 H locs ls (a1.trans (bk_in (by omega) (by omega) edd etb (fun _ => emb) (if_neg (by omega)).symm (if_neg (by omega)).symm ((if_pos (by omega)).trans ((bk_new_s (by omega) hcx ((if_neg (by omega)).trans (pif_p c_7))).trans (bk_try_p (by omega)))).symm)))
                · have c_6 := q_eqn (a := rs_S Fm To pq + (i + 1)) (b := rs_S Fm To pn) (by omega) (by omega) c_6
                  refine lv_iconst (v := 1) hx hb dX10_bestEnd_172 (by decide) ?_
                  refine lv_goto (tgt := 177) hx hb dX10_bestEnd_173 (by decide) ?_
                  refine lv_istore (lv' := [(10, .int 1), (9, .int (nI (rs_S Fm To pq + (i + 1)))), (8, .int (nI (((rows + dd) + 1) + tb))), (7, .int 0), (6, .int (nI (i + 1))), (4, .int (nI ((rows + dd) + 1))), (5, .int (nI pq)), (3, .int (nI at_)), (2, .int (nI r0)), (1, .int (nI p0)), (0, .ref h0)]) hx hb dX10_bestEnd_177 hl (by decide) rfl (fun ls hl => ?_)
                  refine lv_iload hx hb dX10_bestEnd_179 (lv_at hl 0 rfl) ?_
                  refine lv_if_eq (tgt := 188) hx hb dX10_bestEnd_181 (by decide) (fun hno => absurd hno (by decide)) (fun _ => ?_)
                  refine lv_iconst (v := 0) hx hb dX10_bestEnd_184 (by decide) ?_
                  refine lv_goto (tgt := 195) hx hb dX10_bestEnd_185 (by decide) ?_
                  refine lv_istore (lv' := [(11, .int 0), (10, .int 1), (9, .int (nI (rs_S Fm To pq + (i + 1)))), (8, .int (nI (((rows + dd) + 1) + tb))), (7, .int 0), (6, .int (nI (i + 1))), (4, .int (nI ((rows + dd) + 1))), (5, .int (nI pq)), (3, .int (nI at_)), (2, .int (nI r0)), (1, .int (nI p0)), (0, .ref h0)]) hx hb dX10_bestEnd_195 hl (by decide) rfl (fun ls hl => ?_)
                  refine lv_iload hx hb dX10_bestEnd_197 (lv_at hl 0 rfl) ?_
                  refine lv_iconst (v := (-1)) hx hb dX10_bestEnd_199 (by decide) ?_
                  refine lv_icmp_eq (tgt := 333) hx hb dX10_bestEnd_200 (by decide) (fun hno => absurd hno (by decide)) (fun _ => ?_)
                  refine lv_iload hx hb dX10_bestEnd_203 (lv_at hl 1 rfl) ?_
                  refine lv_if_eq (tgt := 212) hx hb dX10_bestEnd_205 (by decide) (fun hno => absurd hno (by decide)) (fun _ => ?_)
                  refine lv_iconst (v := 0) hx hb dX10_bestEnd_208 (by decide) ?_
                  refine lv_goto (tgt := 257) hx hb dX10_bestEnd_209 (by decide) ?_
                  refine lv_istore (lv' := [(12, .int 0), (11, .int 0), (10, .int 1), (9, .int (nI (rs_S Fm To pq + (i + 1)))), (8, .int (nI (((rows + dd) + 1) + tb))), (7, .int 0), (6, .int (nI (i + 1))), (4, .int (nI ((rows + dd) + 1))), (5, .int (nI pq)), (3, .int (nI at_)), (2, .int (nI r0)), (1, .int (nI p0)), (0, .ref h0)]) hx hb dX10_bestEnd_257 hl (by decide) rfl (fun ls hl => ?_)
                  rcases b with _ | y
                  · have hbb := hb9
                    refine lv_aload_n hx hb dX10_bestEnd_259 rfl (lv_at hl 12 rfl) ?_
                    refine va_get (D := D) (ci := 11) (v := .ref (q 31)) (C := RX10) (T := TX10) (N := 48) hx hb hts inX10 hown hK hP 0 rfl rfl 31 (by decide) (hts _ k_1175) (fun _ h9 => h9) rfl dX10_bestEnd_260 ?_
                    refine lv_iload_n hx hb dX10_bestEnd_263 rfl (lv_at hl 9 rfl) ?_
                    refine q_ild (X := at_) (f := f31) hx hb hK hP 20 1 rfl rfl (by omega) (by decide) dX10_bestEnd_264 ?_
                    refine q_seti (y := (-1)) hb9 ?_
                    refine lv_iconst (v := (-1)) hx hb dX10_bestEnd_265 (by decide) ?_
                    refine lv_icmp_eq (tgt := 280) hx hb dX10_bestEnd_266 (by decide) (fun _ => ?_) (fun hno => absurd hno (by decide))
                    refine lv_aload_n hx hb dX10_bestEnd_280 rfl (lv_at hl 12 rfl) ?_
                    refine va_get (D := D) (ci := 11) (v := .ref (q 31)) (C := RX10) (T := TX10) (N := 48) hx hb hts inX10 hown hK hP 0 rfl rfl 31 (by decide) (hts _ k_1175) (fun _ h9 => h9) rfl dX10_bestEnd_281 ?_
                    refine lv_iload_n hx hb dX10_bestEnd_284 rfl (lv_at hl 9 rfl) ?_
                    refine lv_iload hx hb dX10_bestEnd_285 (lv_at hl 0 rfl) ?_
                    refine q_ist (X := at_) (f := f31) (x := 0) hx hb hK hP hD hS 20 1 rfl rfl (by omega) (by decide) dX10_bestEnd_287 (fun H locs hP hD hS => ?_)
                    have hP : va_P D vcl (mW h0 q cB cI cZ I (va_up (va_up (va_up (va_up F 31 (upd f31 at_ 0)) 32 f32) 33 f33) 34 f34)) H := hP
                    have hD : va_D A (mW h0 q cB cI cZ I (va_up (va_up (va_up (va_up F 31 (upd f31 at_ 0)) 32 f32) 33 f33) 34 f34)) := hD
                    refine lv_aload_n hx hb dX10_bestEnd_288 rfl (lv_at hl 12 rfl) ?_
                    refine va_get (D := D) (ci := 11) (v := .ref (q 32)) (C := RX10) (T := TX10) (N := 48) hx hb hts inX10 hown hK hP 0 rfl rfl 32 (by decide) (hts _ k_1176) (fun _ h9 => h9) rfl dX10_bestEnd_289 ?_
                    refine lv_iload_n hx hb dX10_bestEnd_292 rfl (lv_at hl 9 rfl) ?_
                    refine lv_iload hx hb dX10_bestEnd_293 (lv_at hl 5 rfl) ?_
                    refine lv_if_eq (tgt := 305) hx hb dX10_bestEnd_295 (by decide) (fun _ => ?_) (fun hno => absurd hno (by decide))
                    refine lv_iload hx hb dX10_bestEnd_305 (lv_at hl 8 rfl) ?_
                    refine q_ist (X := at_) (f := f32) (x := (nI pq)) hx hb hK hP hD hS 21 1 rfl rfl (by omega) (by decide) dX10_bestEnd_307 (fun H locs hP hD hS => ?_)
                    have hP : va_P D vcl (mW h0 q cB cI cZ I (va_up (va_up (va_up (va_up F 31 (upd f31 at_ 0)) 32 (upd f32 at_ (nI pq))) 33 f33) 34 f34)) H := hP
                    have hD : va_D A (mW h0 q cB cI cZ I (va_up (va_up (va_up (va_up F 31 (upd f31 at_ 0)) 32 (upd f32 at_ (nI pq))) 33 f33) 34 f34)) := hD
                    refine lv_aload_n hx hb dX10_bestEnd_308 rfl (lv_at hl 12 rfl) ?_
                    refine va_get (D := D) (ci := 11) (v := .ref (q 33)) (C := RX10) (T := TX10) (N := 48) hx hb hts inX10 hown hK hP 0 rfl rfl 33 (by decide) (hts _ k_1177) (fun _ h9 => h9) rfl dX10_bestEnd_309 ?_
                    refine lv_iload_n hx hb dX10_bestEnd_312 rfl (lv_at hl 9 rfl) ?_
                    refine lv_iload hx hb dX10_bestEnd_313 (lv_at hl 5 rfl) ?_
                    refine lv_if_eq (tgt := 322) hx hb dX10_bestEnd_315 (by decide) (fun _ => ?_) (fun hno => absurd hno (by decide))
                    refine lv_iload hx hb dX10_bestEnd_322 (lv_at hl 6 rfl) ?_
                    refine q_ist (X := at_) (f := f33) (x := (nI (i + 1))) hx hb hK hP hD hS 22 1 rfl rfl (by omega) (by decide) dX10_bestEnd_324 (fun H locs hP hD hS => ?_)
                    have hP : va_P D vcl (mW h0 q cB cI cZ I (va_up (va_up (va_up (va_up F 31 (upd f31 at_ 0)) 32 (upd f32 at_ (nI pq))) 33 (upd f33 at_ (nI (i + 1)))) 34 f34)) H := hP
                    have hD : va_D A (mW h0 q cB cI cZ I (va_up (va_up (va_up (va_up F 31 (upd f31 at_ 0)) 32 (upd f32 at_ (nI pq))) 33 (upd f33 at_ (nI (i + 1)))) 34 f34)) := hD
                    refine lv_aload_n hx hb dX10_bestEnd_325 rfl (lv_at hl 12 rfl) ?_
                    refine va_get (D := D) (ci := 11) (v := .ref (q 34)) (C := RX10) (T := TX10) (N := 48) hx hb hts inX10 hown hK hP 0 rfl rfl 34 (by decide) (hts _ k_1178) (fun _ h9 => h9) rfl dX10_bestEnd_326 ?_
                    refine lv_iload_n hx hb dX10_bestEnd_329 rfl (lv_at hl 9 rfl) ?_
                    refine lv_iload hx hb dX10_bestEnd_330 (lv_at hl 4 rfl) ?_
                    refine q_ist (X := at_) (f := f34) (x := (nI (((rows + dd) + 1) + tb))) hx hb hK hP hD hS 23 1 rfl rfl (by omega) (by decide) dX10_bestEnd_332 (fun H locs hP hD hS => ?_)
                    have hP : va_P D vcl (mW h0 q cB cI cZ I (va_up (va_up (va_up (va_up F 31 (upd f31 at_ 0)) 32 (upd f32 at_ (nI pq))) 33 (upd f33 at_ (nI (i + 1)))) 34 (upd f34 at_ (nI (((rows + dd) + 1) + tb))))) H := hP
                    have hD : va_D A (mW h0 q cB cI cZ I (va_up (va_up (va_up (va_up F 31 (upd f31 at_ 0)) 32 (upd f32 at_ (nI pq))) 33 (upd f33 at_ (nI (i + 1)))) 34 (upd f34 at_ (nI (((rows + dd) + 1) + tb))))) := hD
                    refine lv_iload hx hb dX10_bestEnd_333 (lv_at hl 8 rfl) ?_
                    refine lv_iload hx hb dX10_bestEnd_335 (lv_at hl 5 rfl) ?_
                    refine lv_if_eq (tgt := 344) hx hb dX10_bestEnd_337 (by decide) (fun _ => ?_) (fun hno => absurd hno (by decide))
                    refine lv_iconst (v := 0) hx hb dX10_bestEnd_344 (by decide) ?_
                    refine lv_iadd hx hb dX10_bestEnd_345 ?_
                    refine q_seti (y := nI (pq + 0)) (nI_add pq 0) ?_
                    refine q_seti (y := nI pq) (congrArg nI (show pq + 0 = pq by omega)) ?_
                    refine lv_istore (lv' := [(5, .int (nI pq)), (12, .int 0), (11, .int 0), (10, .int 1), (9, .int (nI (rs_S Fm To pq + (i + 1)))), (8, .int (nI (((rows + dd) + 1) + tb))), (7, .int 0), (6, .int (nI (i + 1))), (4, .int (nI ((rows + dd) + 1))), (3, .int (nI at_)), (2, .int (nI r0)), (1, .int (nI p0)), (0, .ref h0)]) hx hb dX10_bestEnd_346 hl (by decide) rfl (fun ls hl => ?_)
                    refine lv_iload hx hb dX10_bestEnd_348 (lv_at hl 6 rfl) ?_
                    refine lv_if_eq (tgt := 357) hx hb dX10_bestEnd_350 (by decide) (fun _ => ?_) (fun hno => absurd hno (by decide))
                    refine lv_iload hx hb dX10_bestEnd_357 (lv_at hl 7 rfl) ?_
                    refine lv_istore (lv' := [(6, .int (nI (i + 1))), (5, .int (nI pq)), (12, .int 0), (11, .int 0), (10, .int 1), (9, .int (nI (rs_S Fm To pq + (i + 1)))), (8, .int (nI (((rows + dd) + 1) + tb))), (7, .int 0), (4, .int (nI ((rows + dd) + 1))), (3, .int (nI at_)), (2, .int (nI r0)), (1, .int (nI p0)), (0, .ref h0)]) hx hb dX10_bestEnd_359 hl (by decide) rfl (fun ls hl => ?_)
                    refine lv_goto (tgt := 31) hx hb dX10_bestEnd_361 (by decide) ?_
                    have hP := hP
                    exact ih pq (i + 1) (rows + dd + 1) (upd f31 at_ 0) (upd f32 at_ (nI pq)) (upd f33 at_ (nI (i + 1))) (upd f34 at_ (nI (((rows + dd) + 1) + tb))) (some (0, pq, i + 1, (rows + dd + 1 + tb))) H locs ls (by omega) (by omega) (by omega) (fun _ => by omega) ⟨pk_us, pk_us, pk_us, pk_us⟩ (fun y2 e2 => by cases e2; exact ⟨by show 0 ≤ 1640 * (rs_S Fm To pn - at_); omega, by show rows + dd + 1 + tb ≤ 40; omega, by show pq ≤ pn; omega, (fun _ => by show i + 1 < To pq - Fm pq; omega), (fun z => absurd (show pq = pn from z) (by omega)), by show at_ < rs_S Fm To pq + (i + 1); omega⟩) (fun z => by have := hri z; omega) (by omega) (by omega) (bk_tab_k hC) hP hD hS (lv_sub hl (l' := [(6, .int (nI (i + 1))), (5, .int (nI pq)), (4, .int (nI ((rows + dd) + 1))), (3, .int (nI at_)), (2, .int (nI r0)), (1, .int (nI p0)), (0, .ref h0)]) [0, 1, 8, 9, 10, 11, 12] rfl) (fun b3 w1 w2 w3 w4 H locs ls a1 => kk b3 w1 w2 w3 w4 H locs ls (a1.trans (bk_in (by omega) (by omega) edd etb (fun _ => emb) (if_neg (by omega)).symm (if_neg (by omega)).symm ((if_pos (by omega)).trans ((bk_new_l (by omega)).trans bk_try_n)).symm)))
                  · have hbb := (hbo y rfl).1
                    refine lv_aload_n hx hb dX10_bestEnd_259 rfl (lv_at hl 12 rfl) ?_
                    refine va_get (D := D) (ci := 11) (v := .ref (q 31)) (C := RX10) (T := TX10) (N := 48) hx hb hts inX10 hown hK hP 0 rfl rfl 31 (by decide) (hts _ k_1175) (fun _ h9 => h9) rfl dX10_bestEnd_260 ?_
                    refine lv_iload_n hx hb dX10_bestEnd_263 rfl (lv_at hl 9 rfl) ?_
                    refine q_ild (X := at_) (f := f31) hx hb hK hP 20 1 rfl rfl (by omega) (by decide) dX10_bestEnd_264 ?_
                    refine q_seti (y := (nI (y.1))) hb9.1 ?_
                    refine lv_iconst (v := (-1)) hx hb dX10_bestEnd_265 (by decide) ?_
                    refine lv_icmp_eq (tgt := 280) hx hb dX10_bestEnd_266 (by decide) (fun hno => absurd hno (q_nem (by decide) (by omega))) (fun _ => ?_)
                    refine lv_iload hx hb dX10_bestEnd_269 (lv_at hl 0 rfl) ?_
                    refine lv_aload_n hx hb dX10_bestEnd_271 rfl (lv_at hl 12 rfl) ?_
                    refine va_get (D := D) (ci := 11) (v := .ref (q 31)) (C := RX10) (T := TX10) (N := 48) hx hb hts inX10 hown hK hP 0 rfl rfl 31 (by decide) (hts _ k_1175) (fun _ h9 => h9) rfl dX10_bestEnd_272 ?_
                    refine lv_iload_n hx hb dX10_bestEnd_275 rfl (lv_at hl 9 rfl) ?_
                    refine q_ild (X := at_) (f := f31) hx hb hK hP 20 1 rfl rfl (by omega) (by decide) dX10_bestEnd_276 ?_
                    refine q_seti (y := (nI (y.1))) hb9.1 ?_
                    refine lv_icmp_gt (tgt := 333) hx hb dX10_bestEnd_277 (by decide) (fun c_10 => ?_) (fun c_10 => ?_)
                    · have c_10 := q_lt (a := y.1) (b := 0) (by omega) (by omega) c_10
                      refine lv_iload hx hb dX10_bestEnd_333 (lv_at hl 8 rfl) ?_
                      refine lv_iload hx hb dX10_bestEnd_335 (lv_at hl 5 rfl) ?_
                      refine lv_if_eq (tgt := 344) hx hb dX10_bestEnd_337 (by decide) (fun _ => ?_) (fun hno => absurd hno (by decide))
                      refine lv_iconst (v := 0) hx hb dX10_bestEnd_344 (by decide) ?_
                      refine lv_iadd hx hb dX10_bestEnd_345 ?_
                      refine q_seti (y := nI (pq + 0)) (nI_add pq 0) ?_
                      refine q_seti (y := nI pq) (congrArg nI (show pq + 0 = pq by omega)) ?_
                      refine lv_istore (lv' := [(5, .int (nI pq)), (12, .int 0), (11, .int 0), (10, .int 1), (9, .int (nI (rs_S Fm To pq + (i + 1)))), (8, .int (nI (((rows + dd) + 1) + tb))), (7, .int 0), (6, .int (nI (i + 1))), (4, .int (nI ((rows + dd) + 1))), (3, .int (nI at_)), (2, .int (nI r0)), (1, .int (nI p0)), (0, .ref h0)]) hx hb dX10_bestEnd_346 hl (by decide) rfl (fun ls hl => ?_)
                      refine lv_iload hx hb dX10_bestEnd_348 (lv_at hl 6 rfl) ?_
                      refine lv_if_eq (tgt := 357) hx hb dX10_bestEnd_350 (by decide) (fun _ => ?_) (fun hno => absurd hno (by decide))
                      refine lv_iload hx hb dX10_bestEnd_357 (lv_at hl 7 rfl) ?_
                      refine lv_istore (lv' := [(6, .int (nI (i + 1))), (5, .int (nI pq)), (12, .int 0), (11, .int 0), (10, .int 1), (9, .int (nI (rs_S Fm To pq + (i + 1)))), (8, .int (nI (((rows + dd) + 1) + tb))), (7, .int 0), (4, .int (nI ((rows + dd) + 1))), (3, .int (nI at_)), (2, .int (nI r0)), (1, .int (nI p0)), (0, .ref h0)]) hx hb dX10_bestEnd_359 hl (by decide) rfl (fun ls hl => ?_)
                      refine lv_goto (tgt := 31) hx hb dX10_bestEnd_361 (by decide) ?_
                      exact False.elim (by omega)
                    · have c_10 := q_nlt (a := y.1) (b := 0) (by omega) (by omega) c_10
                      refine lv_aload_n hx hb dX10_bestEnd_280 rfl (lv_at hl 12 rfl) ?_
                      refine va_get (D := D) (ci := 11) (v := .ref (q 31)) (C := RX10) (T := TX10) (N := 48) hx hb hts inX10 hown hK hP 0 rfl rfl 31 (by decide) (hts _ k_1175) (fun _ h9 => h9) rfl dX10_bestEnd_281 ?_
                      refine lv_iload_n hx hb dX10_bestEnd_284 rfl (lv_at hl 9 rfl) ?_
                      refine lv_iload hx hb dX10_bestEnd_285 (lv_at hl 0 rfl) ?_
                      refine q_ist (X := at_) (f := f31) (x := 0) hx hb hK hP hD hS 20 1 rfl rfl (by omega) (by decide) dX10_bestEnd_287 (fun H locs hP hD hS => ?_)
                      have hP : va_P D vcl (mW h0 q cB cI cZ I (va_up (va_up (va_up (va_up F 31 (upd f31 at_ 0)) 32 f32) 33 f33) 34 f34)) H := hP
                      have hD : va_D A (mW h0 q cB cI cZ I (va_up (va_up (va_up (va_up F 31 (upd f31 at_ 0)) 32 f32) 33 f33) 34 f34)) := hD
                      refine lv_aload_n hx hb dX10_bestEnd_288 rfl (lv_at hl 12 rfl) ?_
                      refine va_get (D := D) (ci := 11) (v := .ref (q 32)) (C := RX10) (T := TX10) (N := 48) hx hb hts inX10 hown hK hP 0 rfl rfl 32 (by decide) (hts _ k_1176) (fun _ h9 => h9) rfl dX10_bestEnd_289 ?_
                      refine lv_iload_n hx hb dX10_bestEnd_292 rfl (lv_at hl 9 rfl) ?_
                      refine lv_iload hx hb dX10_bestEnd_293 (lv_at hl 5 rfl) ?_
                      refine lv_if_eq (tgt := 305) hx hb dX10_bestEnd_295 (by decide) (fun _ => ?_) (fun hno => absurd hno (by decide))
                      refine lv_iload hx hb dX10_bestEnd_305 (lv_at hl 8 rfl) ?_
                      refine q_ist (X := at_) (f := f32) (x := (nI pq)) hx hb hK hP hD hS 21 1 rfl rfl (by omega) (by decide) dX10_bestEnd_307 (fun H locs hP hD hS => ?_)
                      have hP : va_P D vcl (mW h0 q cB cI cZ I (va_up (va_up (va_up (va_up F 31 (upd f31 at_ 0)) 32 (upd f32 at_ (nI pq))) 33 f33) 34 f34)) H := hP
                      have hD : va_D A (mW h0 q cB cI cZ I (va_up (va_up (va_up (va_up F 31 (upd f31 at_ 0)) 32 (upd f32 at_ (nI pq))) 33 f33) 34 f34)) := hD
                      refine lv_aload_n hx hb dX10_bestEnd_308 rfl (lv_at hl 12 rfl) ?_
                      refine va_get (D := D) (ci := 11) (v := .ref (q 33)) (C := RX10) (T := TX10) (N := 48) hx hb hts inX10 hown hK hP 0 rfl rfl 33 (by decide) (hts _ k_1177) (fun _ h9 => h9) rfl dX10_bestEnd_309 ?_
                      refine lv_iload_n hx hb dX10_bestEnd_312 rfl (lv_at hl 9 rfl) ?_
                      refine lv_iload hx hb dX10_bestEnd_313 (lv_at hl 5 rfl) ?_
                      refine lv_if_eq (tgt := 322) hx hb dX10_bestEnd_315 (by decide) (fun _ => ?_) (fun hno => absurd hno (by decide))
                      refine lv_iload hx hb dX10_bestEnd_322 (lv_at hl 6 rfl) ?_
                      refine q_ist (X := at_) (f := f33) (x := (nI (i + 1))) hx hb hK hP hD hS 22 1 rfl rfl (by omega) (by decide) dX10_bestEnd_324 (fun H locs hP hD hS => ?_)
                      have hP : va_P D vcl (mW h0 q cB cI cZ I (va_up (va_up (va_up (va_up F 31 (upd f31 at_ 0)) 32 (upd f32 at_ (nI pq))) 33 (upd f33 at_ (nI (i + 1)))) 34 f34)) H := hP
                      have hD : va_D A (mW h0 q cB cI cZ I (va_up (va_up (va_up (va_up F 31 (upd f31 at_ 0)) 32 (upd f32 at_ (nI pq))) 33 (upd f33 at_ (nI (i + 1)))) 34 f34)) := hD
                      refine lv_aload_n hx hb dX10_bestEnd_325 rfl (lv_at hl 12 rfl) ?_
                      refine va_get (D := D) (ci := 11) (v := .ref (q 34)) (C := RX10) (T := TX10) (N := 48) hx hb hts inX10 hown hK hP 0 rfl rfl 34 (by decide) (hts _ k_1178) (fun _ h9 => h9) rfl dX10_bestEnd_326 ?_
                      refine lv_iload_n hx hb dX10_bestEnd_329 rfl (lv_at hl 9 rfl) ?_
                      refine lv_iload hx hb dX10_bestEnd_330 (lv_at hl 4 rfl) ?_
                      refine q_ist (X := at_) (f := f34) (x := (nI (((rows + dd) + 1) + tb))) hx hb hK hP hD hS 23 1 rfl rfl (by omega) (by decide) dX10_bestEnd_332 (fun H locs hP hD hS => ?_)
                      have hP : va_P D vcl (mW h0 q cB cI cZ I (va_up (va_up (va_up (va_up F 31 (upd f31 at_ 0)) 32 (upd f32 at_ (nI pq))) 33 (upd f33 at_ (nI (i + 1)))) 34 (upd f34 at_ (nI (((rows + dd) + 1) + tb))))) H := hP
                      have hD : va_D A (mW h0 q cB cI cZ I (va_up (va_up (va_up (va_up F 31 (upd f31 at_ 0)) 32 (upd f32 at_ (nI pq))) 33 (upd f33 at_ (nI (i + 1)))) 34 (upd f34 at_ (nI (((rows + dd) + 1) + tb))))) := hD
                      refine lv_iload hx hb dX10_bestEnd_333 (lv_at hl 8 rfl) ?_
                      refine lv_iload hx hb dX10_bestEnd_335 (lv_at hl 5 rfl) ?_
                      refine lv_if_eq (tgt := 344) hx hb dX10_bestEnd_337 (by decide) (fun _ => ?_) (fun hno => absurd hno (by decide))
                      refine lv_iconst (v := 0) hx hb dX10_bestEnd_344 (by decide) ?_
                      refine lv_iadd hx hb dX10_bestEnd_345 ?_
                      refine q_seti (y := nI (pq + 0)) (nI_add pq 0) ?_
                      refine q_seti (y := nI pq) (congrArg nI (show pq + 0 = pq by omega)) ?_
                      refine lv_istore (lv' := [(5, .int (nI pq)), (12, .int 0), (11, .int 0), (10, .int 1), (9, .int (nI (rs_S Fm To pq + (i + 1)))), (8, .int (nI (((rows + dd) + 1) + tb))), (7, .int 0), (6, .int (nI (i + 1))), (4, .int (nI ((rows + dd) + 1))), (3, .int (nI at_)), (2, .int (nI r0)), (1, .int (nI p0)), (0, .ref h0)]) hx hb dX10_bestEnd_346 hl (by decide) rfl (fun ls hl => ?_)
                      refine lv_iload hx hb dX10_bestEnd_348 (lv_at hl 6 rfl) ?_
                      refine lv_if_eq (tgt := 357) hx hb dX10_bestEnd_350 (by decide) (fun _ => ?_) (fun hno => absurd hno (by decide))
                      refine lv_iload hx hb dX10_bestEnd_357 (lv_at hl 7 rfl) ?_
                      refine lv_istore (lv' := [(6, .int (nI (i + 1))), (5, .int (nI pq)), (12, .int 0), (11, .int 0), (10, .int 1), (9, .int (nI (rs_S Fm To pq + (i + 1)))), (8, .int (nI (((rows + dd) + 1) + tb))), (7, .int 0), (4, .int (nI ((rows + dd) + 1))), (3, .int (nI at_)), (2, .int (nI r0)), (1, .int (nI p0)), (0, .ref h0)]) hx hb dX10_bestEnd_359 hl (by decide) rfl (fun ls hl => ?_)
                      refine lv_goto (tgt := 31) hx hb dX10_bestEnd_361 (by decide) ?_
                      have hP := hP
                      exact ih pq (i + 1) (rows + dd + 1) (upd f31 at_ 0) (upd f32 at_ (nI pq)) (upd f33 at_ (nI (i + 1))) (upd f34 at_ (nI (((rows + dd) + 1) + tb))) (some (0, pq, i + 1, (rows + dd + 1 + tb))) H locs ls (by omega) (by omega) (by omega) (fun _ => by omega) ⟨pk_us, pk_us, pk_us, pk_us⟩ (fun y2 e2 => by cases e2; exact ⟨by show 0 ≤ 1640 * (rs_S Fm To pn - at_); omega, by show rows + dd + 1 + tb ≤ 40; omega, by show pq ≤ pn; omega, (fun _ => by show i + 1 < To pq - Fm pq; omega), (fun z => absurd (show pq = pn from z) (by omega)), by show at_ < rs_S Fm To pq + (i + 1); omega⟩) (fun z => by have := hri z; omega) (by omega) (by omega) (bk_tab_k hC) hP hD hS (lv_sub hl (l' := [(6, .int (nI (i + 1))), (5, .int (nI pq)), (4, .int (nI ((rows + dd) + 1))), (3, .int (nI at_)), (2, .int (nI r0)), (1, .int (nI p0)), (0, .ref h0)]) [0, 1, 8, 9, 10, 11, 12] rfl) (fun b3 w1 w2 w3 w4 H locs ls a1 => kk b3 w1 w2 w3 w4 H locs ls (a1.trans (bk_in (by omega) (by omega) edd etb (fun _ => emb) (if_neg (by omega)).symm (if_neg (by omega)).symm ((if_pos (by omega)).trans ((bk_new_l (by omega)).trans (bk_try_p (by omega)))).symm)))
          · have c_3 := q_eqn (a := i + 1) (b := To pq - Fm pq) (by omega) (by omega) c_3
            refine lv_iconst (v := 1) hx hb dX10_bestEnd_96 (by decide) ?_
            refine lv_goto (tgt := 101) hx hb dX10_bestEnd_97 (by decide) ?_
            refine lv_istore (lv' := [(7, .int 1), (6, .int (nI (i + 1))), (4, .int (nI ((rows + dd) + 1))), (5, .int (nI pq)), (3, .int (nI at_)), (2, .int (nI r0)), (1, .int (nI p0)), (0, .ref h0)]) hx hb dX10_bestEnd_101 hl (by decide) rfl (fun ls hl => ?_)
            refine lv_iload hx hb dX10_bestEnd_103 (lv_at hl 2 rfl) ?_
            refine lv_aload_n hx hb dX10_bestEnd_105 rfl (lv_at hl 7 rfl) ?_
            refine lv_iload hx hb dX10_bestEnd_106 (lv_at hl 3 rfl) ?_
            refine lv_iload hx hb dX10_bestEnd_108 (lv_at hl 1 rfl) ?_
            refine lv_aload_n hx hb dX10_bestEnd_110 rfl (lv_at hl 7 rfl) ?_
            refine va_get (D := D) (ci := 11) (v := .int (I 14)) (C := RX10) (T := TX10) (N := 48) hx hb hts inX10 hown hK hP 0 rfl rfl 14 (by decide) (hts _ k_1158) (fun _ h9 => h9) rfl dX10_bestEnd_111 ?_
            refine q_seti (y := (nI pn)) hI14 ?_
            refine q_ci (k := cells) (n := slots) hK hP hD hS hA (fun hPc hKc hDc => q_rV (As := [.int (nI pq), .int (nI (i + 1)), .int (nI pn)]) (rest := [.int (nI ((rows + dd) + 1))]) hf (r_rowsBehind _ D h0 q cB cI cZ I (va_up (va_up (va_up (va_up F 31 f31) 32 f32) 33 f33) 34 f34) pn pe sl K Fm To Rr pq (i + 1) pn hpv (by omega) (by omega) (by omega) (by omega) _) k_1411 k_1408 k_1410 k_67 k_98 (nA := 3) (by decide +kernel) ⟨Nat.le_trans (by decide) hRf, Nat.le_trans (by decide) hRl⟩ hK hP (ci := 11) (q0 := 0) rfl rfl rfl hPc hKc hDc (fun _ _ _ _ h => h) (fun _ _ _ => trivial) rfl hl.1 rfl (Nat.le_of_ble_eq_true rfl) dX10_bestEnd_114 ⟨hRc, hRs⟩) (Nat.le_refl _) (Nat.le_refl _) (fun r u H locs hw hK hP hD hS => ?_)
            obtain ⟨rfl, rfl⟩ := pb_of (P := rp_rb (K pq) (Fm pq) (To pq) (Rr pq) pq (i + 1) pn) hw
            obtain ⟨tb, etb⟩ : ∃ x, x = pb (rp_rb (K pq) (Fm pq) (To pq) (Rr pq) pq (i + 1) pn) := ⟨_, rfl⟩
            have htb := pb_le (rp_rb (K pq) (Fm pq) (To pq) (Rr pq) pq (i + 1) pn)
            rw [← etb] at htb
            refine q_seti (y := nI tb) (congrArg nI etb.symm) ?_
            have hP : va_P D vcl (mW h0 q cB cI cZ I (va_up (va_up (va_up (va_up F 31 f31) 32 f32) 33 f33) 34 f34)) H := hP
            have hD : va_D A (mW h0 q cB cI cZ I (va_up (va_up (va_up (va_up F 31 f31) 32 f32) 33 f33) 34 f34)) := hD
            refine lv_iadd hx hb dX10_bestEnd_117 ?_
            refine q_seti (y := nI (((rows + dd) + 1) + tb)) (nI_add ((rows + dd) + 1) tb) ?_
            refine lv_istore (lv' := [(8, .int (nI (((rows + dd) + 1) + tb))), (7, .int 1), (6, .int (nI (i + 1))), (4, .int (nI ((rows + dd) + 1))), (5, .int (nI pq)), (3, .int (nI at_)), (2, .int (nI r0)), (1, .int (nI p0)), (0, .ref h0)]) hx hb dX10_bestEnd_118 hl (by decide) rfl (fun ls hl => ?_)
            refine lv_iload hx hb dX10_bestEnd_120 (lv_at hl 0 rfl) ?_
            refine lv_aload_n hx hb dX10_bestEnd_122 rfl (lv_at hl 8 rfl) ?_
            refine va_get (D := D) (ci := 11) (v := .int (I 2)) (C := RX10) (T := TX10) (N := 48) hx hb hts inX10 hown hK hP 0 rfl rfl 2 (by decide) (hts _ k_1146) (fun _ h9 => h9) rfl dX10_bestEnd_123 ?_
            refine q_seti (y := (nI mo)) hI2 ?_
            refine lv_icmp_gt (tgt := 333) hx hb dX10_bestEnd_126 (by decide) (fun c_11 => ?_) (fun c_11 => ?_)
            · have c_11 := q_lt (a := mo) (b := ((rows + dd) + 1) + tb) (by omega) (by omega) c_11
              refine lv_iload hx hb dX10_bestEnd_333 (lv_at hl 4 rfl) ?_
              refine lv_iload hx hb dX10_bestEnd_335 (lv_at hl 1 rfl) ?_
              refine lv_if_eq (tgt := 344) hx hb dX10_bestEnd_337 (by decide) (fun hno => absurd hno (by decide)) (fun _ => ?_)
              refine lv_iconst (v := 1) hx hb dX10_bestEnd_340 (by decide) ?_
              refine lv_goto (tgt := 345) hx hb dX10_bestEnd_341 (by decide) ?_
              refine lv_iadd hx hb dX10_bestEnd_345 ?_
              refine q_seti (y := nI (pq + 1)) (nI_add pq 1) ?_
              refine lv_istore (lv' := [(5, .int (nI (pq + 1))), (8, .int (nI (((rows + dd) + 1) + tb))), (7, .int 1), (6, .int (nI (i + 1))), (4, .int (nI ((rows + dd) + 1))), (3, .int (nI at_)), (2, .int (nI r0)), (1, .int (nI p0)), (0, .ref h0)]) hx hb dX10_bestEnd_346 hl (by decide) rfl (fun ls hl => ?_)
              refine lv_iload hx hb dX10_bestEnd_348 (lv_at hl 2 rfl) ?_
              refine lv_if_eq (tgt := 357) hx hb dX10_bestEnd_350 (by decide) (fun hno => absurd hno (by decide)) (fun _ => ?_)
              refine lv_iconst (v := 0) hx hb dX10_bestEnd_353 (by decide) ?_
              refine lv_goto (tgt := 359) hx hb dX10_bestEnd_354 (by decide) ?_
              refine lv_istore (lv' := [(6, .int 0), (5, .int (nI (pq + 1))), (8, .int (nI (((rows + dd) + 1) + tb))), (7, .int 1), (4, .int (nI ((rows + dd) + 1))), (3, .int (nI at_)), (2, .int (nI r0)), (1, .int (nI p0)), (0, .ref h0)]) hx hb dX10_bestEnd_359 hl (by decide) rfl (fun ls hl => ?_)
              refine lv_goto (tgt := 31) hx hb dX10_bestEnd_361 (by decide) ?_
              rw [if_pos (show i + 1 = To pq - Fm pq by omega), if_pos (show i + 1 = To pq - Fm pq by omega)] at hs2
              have hgo : bk_lay C K Fm To Rr p0 r0 pn mo k (pq + 1) 0 (rows + dd + 1) b = bk_lay C K Fm To Rr p0 r0 pn mo (k + 1) pq i rows b := by
                by_cases hq : rows + dd + 1 ≤ mo
                · exact bk_in (mb := 0) (by omega) hq edd etb (fun z => absurd z (by omega)) (if_pos (by omega)).symm (if_pos (by omega)).symm (if_neg (by omega)).symm
                · exact bk_out edd hq
              exact ih (pq + 1) 0 (rows + dd + 1) f31 f32 f33 f34 b H locs ls (by omega) (by omega) (by omega) (fun h9 => by have z9 := hpv.2 (pq + 1) (by omega); omega) hb9 hbo (fun z => absurd z (by omega)) (by omega) (by omega) hC hP hD hS (lv_sub hl (l' := [(6, .int 0), (5, .int (nI (pq + 1))), (4, .int (nI ((rows + dd) + 1))), (3, .int (nI at_)), (2, .int (nI r0)), (1, .int (nI p0)), (0, .ref h0)]) [0, 1, 4, 5, 6, 7, 8] rfl) (fun b3 w1 w2 w3 w4 H locs ls a1 => kk b3 w1 w2 w3 w4 H locs ls (a1.trans hgo))
            · have c_11 := q_nlt (a := mo) (b := ((rows + dd) + 1) + tb) (by omega) (by omega) c_11
              refine lv_aload_n hx hb dX10_bestEnd_129 rfl (lv_at hl 8 rfl) ?_
              refine lv_iload_n hx hb dX10_bestEnd_130 rfl (lv_at hl 7 rfl) ?_
              refine lv_iload_n hx hb dX10_bestEnd_131 rfl (lv_at hl 6 rfl) ?_
              refine lv_iload hx hb dX10_bestEnd_132 (lv_at hl 4 rfl) ?_
              refine lv_iload hx hb dX10_bestEnd_134 (lv_at hl 2 rfl) ?_
              refine lv_aload_n hx hb dX10_bestEnd_136 rfl (lv_at hl 8 rfl) ?_
              refine va_get (D := D) (ci := 11) (v := .int (I 14)) (C := RX10) (T := TX10) (N := 48) hx hb hts inX10 hown hK hP 0 rfl rfl 14 (by decide) (hts _ k_1158) (fun _ h9 => h9) rfl dX10_bestEnd_137 ?_
              refine q_seti (y := (nI pn)) hI14 ?_
              refine q_ci (k := cells) (n := slots) hK hP hD hS hA (fun hPc hKc hDc => q_rV (As := [.int (nI p0), .int (nI r0), .int (nI pq), .int (nI (i + 1)), .int (nI pn)]) (rest := []) hf (r_mayEnd _ D h0 q cB cI cZ I (va_up (va_up (va_up (va_up F 31 f31) 32 f32) 33 f33) 34 f34) pn pe sl K Fm To Rr p0 r0 pq (i + 1) pn hpv (by omega) (by omega) (by omega) (by omega) (fun z => by have := hri z; omega) (by omega) (by omega) _) k_1415 k_1412 k_1414 k_68 k_98 (nA := 5) (by decide +kernel) ⟨Nat.le_trans (by decide) hRf, Nat.le_trans (by decide) hRl⟩ hK hP (ci := 11) (q0 := 0) rfl rfl rfl hPc hKc hDc (fun _ _ _ _ h => h) (fun _ _ _ => trivial) rfl hl.1 rfl (Nat.le_of_ble_eq_true rfl) dX10_bestEnd_140 ⟨hRc, hRs⟩) (Nat.le_refl _) (Nat.le_refl _) (fun r u H locs hw hK hP hD hS => ?_)
              obtain ⟨rfl, rfl⟩ := pb_of (P := rp_me (K pq) (To pq - Fm pq) p0 r0 pq (i + 1) pn) hw
              obtain ⟨mb, emb⟩ : ∃ x, x = pb (rp_me (K pq) (To pq - Fm pq) p0 r0 pq (i + 1) pn) := ⟨_, rfl⟩
              have hmb := pb_le (rp_me (K pq) (To pq - Fm pq) p0 r0 pq (i + 1) pn)
              rw [← emb] at hmb
              refine q_seti (y := nI mb) (congrArg nI emb.symm) ?_
              have hP : va_P D vcl (mW h0 q cB cI cZ I (va_up (va_up (va_up (va_up F 31 f31) 32 f32) 33 f33) 34 f34)) H := hP
              have hD : va_D A (mW h0 q cB cI cZ I (va_up (va_up (va_up (va_up F 31 f31) 32 f32) 33 f33) 34 f34)) := hD
              refine lv_if_eq (tgt := 333) hx hb dX10_bestEnd_143 (by decide) (fun c_12 => ?_) (fun c_12 => ?_)
              · have c_12 := q_eqn (a := mb) (b := 0) (by omega) (by omega) c_12
                refine lv_iload hx hb dX10_bestEnd_333 (lv_at hl 4 rfl) ?_
                refine lv_iload hx hb dX10_bestEnd_335 (lv_at hl 1 rfl) ?_
                refine lv_if_eq (tgt := 344) hx hb dX10_bestEnd_337 (by decide) (fun hno => absurd hno (by decide)) (fun _ => ?_)
                refine lv_iconst (v := 1) hx hb dX10_bestEnd_340 (by decide) ?_
                refine lv_goto (tgt := 345) hx hb dX10_bestEnd_341 (by decide) ?_
                refine lv_iadd hx hb dX10_bestEnd_345 ?_
                refine q_seti (y := nI (pq + 1)) (nI_add pq 1) ?_
                refine lv_istore (lv' := [(5, .int (nI (pq + 1))), (8, .int (nI (((rows + dd) + 1) + tb))), (7, .int 1), (6, .int (nI (i + 1))), (4, .int (nI ((rows + dd) + 1))), (3, .int (nI at_)), (2, .int (nI r0)), (1, .int (nI p0)), (0, .ref h0)]) hx hb dX10_bestEnd_346 hl (by decide) rfl (fun ls hl => ?_)
                refine lv_iload hx hb dX10_bestEnd_348 (lv_at hl 2 rfl) ?_
                refine lv_if_eq (tgt := 357) hx hb dX10_bestEnd_350 (by decide) (fun hno => absurd hno (by decide)) (fun _ => ?_)
                refine lv_iconst (v := 0) hx hb dX10_bestEnd_353 (by decide) ?_
                refine lv_goto (tgt := 359) hx hb dX10_bestEnd_354 (by decide) ?_
                refine lv_istore (lv' := [(6, .int 0), (5, .int (nI (pq + 1))), (8, .int (nI (((rows + dd) + 1) + tb))), (7, .int 1), (4, .int (nI ((rows + dd) + 1))), (3, .int (nI at_)), (2, .int (nI r0)), (1, .int (nI p0)), (0, .ref h0)]) hx hb dX10_bestEnd_359 hl (by decide) rfl (fun ls hl => ?_)
                refine lv_goto (tgt := 31) hx hb dX10_bestEnd_361 (by decide) ?_
                rw [if_pos (show i + 1 = To pq - Fm pq by omega), if_pos (show i + 1 = To pq - Fm pq by omega)] at hs2
                exact ih (pq + 1) 0 (rows + dd + 1) f31 f32 f33 f34 b H locs ls (by omega) (by omega) (by omega) (fun h9 => by have z9 := hpv.2 (pq + 1) (by omega); omega) hb9 hbo (fun z => absurd z (by omega)) (by omega) (by omega) hC hP hD hS (lv_sub hl (l' := [(6, .int 0), (5, .int (nI (pq + 1))), (4, .int (nI ((rows + dd) + 1))), (3, .int (nI at_)), (2, .int (nI r0)), (1, .int (nI p0)), (0, .ref h0)]) [0, 1, 4, 5, 6, 7, 8] rfl) (fun b3 w1 w2 w3 w4 H locs ls a1 => kk b3 w1 w2 w3 w4 H locs ls (a1.trans (bk_in (by omega) (by omega) edd etb (fun _ => emb) (if_pos (by omega)).symm (if_pos (by omega)).symm (if_neg (by omega)).symm)))
              · have c_12 := q_nen (a := mb) (b := 0) (by omega) (by omega) c_12
                refine lv_aload_n hx hb dX10_bestEnd_146 rfl (lv_at hl 8 rfl) ?_
                refine va_get (D := D) (ci := 11) (v := .ref (q 30)) (C := RX10) (T := TX10) (N := 48) hx hb hts inX10 hown hK hP 0 rfl rfl 30 (by decide) (hts _ k_1174) (fun _ h9 => h9) rfl dX10_bestEnd_147 ?_
                refine lv_iload hx hb dX10_bestEnd_150 (lv_at hl 4 rfl) ?_
                refine q_ild (X := pq) (f := (F 30)) hx hb hK hP 19 1 rfl rfl (by omega) (by decide) dX10_bestEnd_152 ?_
                refine q_seti (y := (nI (rs_S Fm To pq))) (hSt pq (by omega)) ?_
                refine lv_iload hx hb dX10_bestEnd_153 (lv_at hl 2 rfl) ?_
                refine lv_iadd hx hb dX10_bestEnd_155 ?_
                refine q_seti (y := nI ((rs_S Fm To pq) + (i + 1))) (nI_add (rs_S Fm To pq) (i + 1)) ?_
                refine q_seti (y := nI (rs_S Fm To pq + (i + 1))) (congrArg nI (show (rs_S Fm To pq) + (i + 1) = rs_S Fm To pq + (i + 1) by omega)) ?_
                refine lv_istore (lv' := [(9, .int (nI (rs_S Fm To pq + (i + 1)))), (8, .int (nI (((rows + dd) + 1) + tb))), (7, .int 1), (6, .int (nI (i + 1))), (4, .int (nI ((rows + dd) + 1))), (5, .int (nI pq)), (3, .int (nI at_)), (2, .int (nI r0)), (1, .int (nI p0)), (0, .ref h0)]) hx hb dX10_bestEnd_156 hl (by decide) rfl (fun ls hl => ?_)
                refine lv_iload hx hb dX10_bestEnd_158 (lv_at hl 0 rfl) ?_
                refine lv_aload_n hx hb dX10_bestEnd_160 rfl (lv_at hl 9 rfl) ?_
                refine va_get (D := D) (ci := 11) (v := .ref (q 30)) (C := RX10) (T := TX10) (N := 48) hx hb hts inX10 hown hK hP 0 rfl rfl 30 (by decide) (hts _ k_1174) (fun _ h9 => h9) rfl dX10_bestEnd_161 ?_
                refine lv_aload_n hx hb dX10_bestEnd_164 rfl (lv_at hl 9 rfl) ?_
                refine va_get (D := D) (ci := 11) (v := .int (I 14)) (C := RX10) (T := TX10) (N := 48) hx hb hts inX10 hown hK hP 0 rfl rfl 14 (by decide) (hts _ k_1158) (fun _ h9 => h9) rfl dX10_bestEnd_165 ?_
                refine q_seti (y := (nI pn)) hI14 ?_
                refine q_ild (X := pn) (f := (F 30)) hx hb hK hP 19 1 rfl rfl (by omega) (by decide) dX10_bestEnd_168 ?_
                refine q_seti (y := (nI (rs_S Fm To pn))) (hSt pn (by omega)) ?_
                refine lv_icmp_ne (tgt := 176) hx hb dX10_bestEnd_169 (by decide) (fun c_13 => ?_) (fun c_13 => ?_)
                · have c_13 := q_nen (a := rs_S Fm To pq + (i + 1)) (b := rs_S Fm To pn) (by omega) (by omega) c_13
                  refine lv_iconst (v := 0) hx hb dX10_bestEnd_176 (by decide) ?_
                  refine lv_istore (lv' := [(10, .int 0), (9, .int (nI (rs_S Fm To pq + (i + 1)))), (8, .int (nI (((rows + dd) + 1) + tb))), (7, .int 1), (6, .int (nI (i + 1))), (4, .int (nI ((rows + dd) + 1))), (5, .int (nI pq)), (3, .int (nI at_)), (2, .int (nI r0)), (1, .int (nI p0)), (0, .ref h0)]) hx hb dX10_bestEnd_177 hl (by decide) rfl (fun ls hl => ?_)
                  refine lv_iload hx hb dX10_bestEnd_179 (lv_at hl 0 rfl) ?_
                  refine lv_if_eq (tgt := 188) hx hb dX10_bestEnd_181 (by decide) (fun _ => ?_) (fun hno => absurd hno (by decide))
                  have hCt := hC (rs_S Fm To pq + (i + 1)) (by omega) (by omega)
                  rcases hcx : C (rs_S Fm To pq + (i + 1)) with _ | x
                  · rw [hcx] at hCt
                    refine lv_aload_n hx hb dX10_bestEnd_188 rfl (lv_at hl 10 rfl) ?_
                    refine va_get (D := D) (ci := 11) (v := .ref (q 31)) (C := RX10) (T := TX10) (N := 48) hx hb hts inX10 hown hK hP 0 rfl rfl 31 (by decide) (hts _ k_1175) (fun _ h9 => h9) rfl dX10_bestEnd_189 ?_
                    refine lv_iload hx hb dX10_bestEnd_192 (lv_at hl 1 rfl) ?_
                    refine q_ild (X := rs_S Fm To pq + (i + 1)) (f := f31) hx hb hK hP 20 1 rfl rfl (by omega) (by decide) dX10_bestEnd_194 ?_
                    refine q_seti (y := (-1)) hCt.1 ?_
                    refine lv_istore (lv' := [(11, .int (-1)), (10, .int 0), (9, .int (nI (rs_S Fm To pq + (i + 1)))), (8, .int (nI (((rows + dd) + 1) + tb))), (7, .int 1), (6, .int (nI (i + 1))), (4, .int (nI ((rows + dd) + 1))), (5, .int (nI pq)), (3, .int (nI at_)), (2, .int (nI r0)), (1, .int (nI p0)), (0, .ref h0)]) hx hb dX10_bestEnd_195 hl (by decide) rfl (fun ls hl => ?_)
                    refine lv_iload hx hb dX10_bestEnd_197 (lv_at hl 0 rfl) ?_
                    refine lv_iconst (v := (-1)) hx hb dX10_bestEnd_199 (by decide) ?_
                    refine lv_icmp_eq (tgt := 333) hx hb dX10_bestEnd_200 (by decide) (fun _ => ?_) (fun hno => absurd hno (by decide))
                    refine lv_iload hx hb dX10_bestEnd_333 (lv_at hl 7 rfl) ?_
                    refine lv_iload hx hb dX10_bestEnd_335 (lv_at hl 4 rfl) ?_
                    refine lv_if_eq (tgt := 344) hx hb dX10_bestEnd_337 (by decide) (fun hno => absurd hno (by decide)) (fun _ => ?_)
                    refine lv_iconst (v := 1) hx hb dX10_bestEnd_340 (by decide) ?_
                    refine lv_goto (tgt := 345) hx hb dX10_bestEnd_341 (by decide) ?_
                    refine lv_iadd hx hb dX10_bestEnd_345 ?_
                    refine q_seti (y := nI (pq + 1)) (nI_add pq 1) ?_
                    refine lv_istore (lv' := [(5, .int (nI (pq + 1))), (11, .int (-1)), (10, .int 0), (9, .int (nI (rs_S Fm To pq + (i + 1)))), (8, .int (nI (((rows + dd) + 1) + tb))), (7, .int 1), (6, .int (nI (i + 1))), (4, .int (nI ((rows + dd) + 1))), (3, .int (nI at_)), (2, .int (nI r0)), (1, .int (nI p0)), (0, .ref h0)]) hx hb dX10_bestEnd_346 hl (by decide) rfl (fun ls hl => ?_)
                    refine lv_iload hx hb dX10_bestEnd_348 (lv_at hl 5 rfl) ?_
                    refine lv_if_eq (tgt := 357) hx hb dX10_bestEnd_350 (by decide) (fun hno => absurd hno (by decide)) (fun _ => ?_)
                    refine lv_iconst (v := 0) hx hb dX10_bestEnd_353 (by decide) ?_
                    refine lv_goto (tgt := 359) hx hb dX10_bestEnd_354 (by decide) ?_
                    refine lv_istore (lv' := [(6, .int 0), (5, .int (nI (pq + 1))), (11, .int (-1)), (10, .int 0), (9, .int (nI (rs_S Fm To pq + (i + 1)))), (8, .int (nI (((rows + dd) + 1) + tb))), (7, .int 1), (4, .int (nI ((rows + dd) + 1))), (3, .int (nI at_)), (2, .int (nI r0)), (1, .int (nI p0)), (0, .ref h0)]) hx hb dX10_bestEnd_359 hl (by decide) rfl (fun ls hl => ?_)
                    refine lv_goto (tgt := 31) hx hb dX10_bestEnd_361 (by decide) ?_
                    rw [if_pos (show i + 1 = To pq - Fm pq by omega), if_pos (show i + 1 = To pq - Fm pq by omega)] at hs2
                    exact ih (pq + 1) 0 (rows + dd + 1) f31 f32 f33 f34 b H locs ls (by omega) (by omega) (by omega) (fun h9 => by have z9 := hpv.2 (pq + 1) (by omega); omega) hb9 hbo (fun z => absurd z (by omega)) (by omega) (by omega) hC hP hD hS (lv_sub hl (l' := [(6, .int 0), (5, .int (nI (pq + 1))), (4, .int (nI ((rows + dd) + 1))), (3, .int (nI at_)), (2, .int (nI r0)), (1, .int (nI p0)), (0, .ref h0)]) [0, 1, 7, 8, 9, 10, 11] rfl) (fun b3 w1 w2 w3 w4 H locs ls a1 => kk b3 w1 w2 w3 w4 H locs ls (a1.trans (bk_in (by omega) (by omega) edd etb (fun _ => emb) (if_pos (by omega)).symm (if_pos (by omega)).symm ((if_pos (by omega)).trans (bk_new_n (by omega) hcx)).symm)))
                  · rw [hcx] at hCt
                    have hcb := (hCt.2 x rfl).1
                    have hsq := Nat.mul_le_mul (show mo - (rows + dd + 1 + tb) ≤ 40 by omega) (show mo - (rows + dd + 1 + tb) ≤ 40 by omega)
                    refine lv_aload_n hx hb dX10_bestEnd_188 rfl (lv_at hl 10 rfl) ?_
                    refine va_get (D := D) (ci := 11) (v := .ref (q 31)) (C := RX10) (T := TX10) (N := 48) hx hb hts inX10 hown hK hP 0 rfl rfl 31 (by decide) (hts _ k_1175) (fun _ h9 => h9) rfl dX10_bestEnd_189 ?_
                    refine lv_iload hx hb dX10_bestEnd_192 (lv_at hl 1 rfl) ?_
                    refine q_ild (X := rs_S Fm To pq + (i + 1)) (f := f31) hx hb hK hP 20 1 rfl rfl (by omega) (by decide) dX10_bestEnd_194 ?_
                    refine q_seti (y := (nI (x.1))) hCt.1.1 ?_
                    refine lv_istore (lv' := [(11, .int (nI (x.1))), (10, .int 0), (9, .int (nI (rs_S Fm To pq + (i + 1)))), (8, .int (nI (((rows + dd) + 1) + tb))), (7, .int 1), (6, .int (nI (i + 1))), (4, .int (nI ((rows + dd) + 1))), (5, .int (nI pq)), (3, .int (nI at_)), (2, .int (nI r0)), (1, .int (nI p0)), (0, .ref h0)]) hx hb dX10_bestEnd_195 hl (by decide) rfl (fun ls hl => ?_)
                    refine lv_iload hx hb dX10_bestEnd_197 (lv_at hl 0 rfl) ?_
                    refine lv_iconst (v := (-1)) hx hb dX10_bestEnd_199 (by decide) ?_
                    refine lv_icmp_eq (tgt := 333) hx hb dX10_bestEnd_200 (by decide) (fun hno => absurd hno (q_nem (by decide) (by omega))) (fun _ => ?_)
                    refine lv_iload hx hb dX10_bestEnd_203 (lv_at hl 1 rfl) ?_
                    refine lv_if_eq (tgt := 212) hx hb dX10_bestEnd_205 (by decide) (fun _ => ?_) (fun hno => absurd hno (by decide))
                    refine lv_iload hx hb dX10_bestEnd_212 (lv_at hl 0 rfl) ?_
                    refine lv_aload_n hx hb dX10_bestEnd_214 rfl (lv_at hl 11 rfl) ?_
                    refine va_get (D := D) (ci := 11) (v := .int (I 2)) (C := RX10) (T := TX10) (N := 48) hx hb hts inX10 hown hK hP 0 rfl rfl 2 (by decide) (hts _ k_1146) (fun _ h9 => h9) rfl dX10_bestEnd_215 ?_
                    refine q_seti (y := (nI mo)) hI2 ?_
                    refine lv_iload hx hb dX10_bestEnd_218 (lv_at hl 3 rfl) ?_
                    refine lv_isub hx hb dX10_bestEnd_220 ?_
                    refine q_seti (y := nI (mo - (((rows + dd) + 1) + tb))) (pk_sub (a := mo) (b := ((rows + dd) + 1) + tb) (by omega)) ?_
                    refine lv_aload_n hx hb dX10_bestEnd_221 rfl (lv_at hl 11 rfl) ?_
                    refine va_get (D := D) (ci := 11) (v := .int (I 2)) (C := RX10) (T := TX10) (N := 48) hx hb hts inX10 hown hK hP 0 rfl rfl 2 (by decide) (hts _ k_1146) (fun _ h9 => h9) rfl dX10_bestEnd_222 ?_
                    refine q_seti (y := (nI mo)) hI2 ?_
                    refine lv_iload hx hb dX10_bestEnd_225 (lv_at hl 3 rfl) ?_
                    refine lv_isub hx hb dX10_bestEnd_227 ?_
                    refine q_seti (y := nI (mo - (((rows + dd) + 1) + tb))) (pk_sub (a := mo) (b := ((rows + dd) + 1) + tb) (by omega)) ?_
                    refine lv_imul hx hb dX10_bestEnd_228 ?_
                    refine q_seti (y := nI ((mo - (((rows + dd) + 1) + tb)) * (mo - (((rows + dd) + 1) + tb)))) (pk_mul (mo - (((rows + dd) + 1) + tb)) (mo - (((rows + dd) + 1) + tb))) ?_
                    refine lv_iadd hx hb dX10_bestEnd_229 ?_
                    refine q_seti (y := nI ((x.1) + ((mo - (((rows + dd) + 1) + tb)) * (mo - (((rows + dd) + 1) + tb))))) (nI_add (x.1) ((mo - (((rows + dd) + 1) + tb)) * (mo - (((rows + dd) + 1) + tb)))) ?_
                    refine lv_iload hx hb dX10_bestEnd_230 (lv_at hl 4 rfl) ?_
                    refine lv_if_eq (tgt := 239) hx hb dX10_bestEnd_232 (by decide) (fun hno => absurd hno (by decide)) (fun _ => ?_)
                    refine lv_iconst (v := 0) hx hb dX10_bestEnd_235 (by decide) ?_
                    refine lv_goto (tgt := 256) hx hb dX10_bestEnd_236 (by decide) ?_
                    refine lv_iadd hx hb dX10_bestEnd_256 ?_
                    refine q_seti (y := nI (((x.1) + ((mo - (((rows + dd) + 1) + tb)) * (mo - (((rows + dd) + 1) + tb)))) + 0)) (nI_add ((x.1) + ((mo - (((rows + dd) + 1) + tb)) * (mo - (((rows + dd) + 1) + tb)))) 0) ?_
                    refine lv_istore (lv' := [(12, .int (nI (((x.1) + ((mo - (((rows + dd) + 1) + tb)) * (mo - (((rows + dd) + 1) + tb)))) + 0))), (11, .int (nI (x.1))), (10, .int 0), (9, .int (nI (rs_S Fm To pq + (i + 1)))), (8, .int (nI (((rows + dd) + 1) + tb))), (7, .int 1), (6, .int (nI (i + 1))), (4, .int (nI ((rows + dd) + 1))), (5, .int (nI pq)), (3, .int (nI at_)), (2, .int (nI r0)), (1, .int (nI p0)), (0, .ref h0)]) hx hb dX10_bestEnd_257 hl (by decide) rfl (fun ls hl => ?_)
                    rcases b with _ | y
                    · have hbb := hb9
                      refine lv_aload_n hx hb dX10_bestEnd_259 rfl (lv_at hl 12 rfl) ?_
                      refine va_get (D := D) (ci := 11) (v := .ref (q 31)) (C := RX10) (T := TX10) (N := 48) hx hb hts inX10 hown hK hP 0 rfl rfl 31 (by decide) (hts _ k_1175) (fun _ h9 => h9) rfl dX10_bestEnd_260 ?_
                      refine lv_iload_n hx hb dX10_bestEnd_263 rfl (lv_at hl 9 rfl) ?_
                      refine q_ild (X := at_) (f := f31) hx hb hK hP 20 1 rfl rfl (by omega) (by decide) dX10_bestEnd_264 ?_
                      refine q_seti (y := (-1)) hb9 ?_
                      refine lv_iconst (v := (-1)) hx hb dX10_bestEnd_265 (by decide) ?_
                      refine lv_icmp_eq (tgt := 280) hx hb dX10_bestEnd_266 (by decide) (fun _ => ?_) (fun hno => absurd hno (by decide))
                      refine lv_aload_n hx hb dX10_bestEnd_280 rfl (lv_at hl 12 rfl) ?_
                      refine va_get (D := D) (ci := 11) (v := .ref (q 31)) (C := RX10) (T := TX10) (N := 48) hx hb hts inX10 hown hK hP 0 rfl rfl 31 (by decide) (hts _ k_1175) (fun _ h9 => h9) rfl dX10_bestEnd_281 ?_
                      refine lv_iload_n hx hb dX10_bestEnd_284 rfl (lv_at hl 9 rfl) ?_
                      refine lv_iload hx hb dX10_bestEnd_285 (lv_at hl 0 rfl) ?_
                      refine q_ist (X := at_) (f := f31) (x := (nI (((x.1) + ((mo - (((rows + dd) + 1) + tb)) * (mo - (((rows + dd) + 1) + tb)))) + 0))) hx hb hK hP hD hS 20 1 rfl rfl (by omega) (by decide) dX10_bestEnd_287 (fun H locs hP hD hS => ?_)
                      have hP : va_P D vcl (mW h0 q cB cI cZ I (va_up (va_up (va_up (va_up F 31 (upd f31 at_ (nI (((x.1) + ((mo - (((rows + dd) + 1) + tb)) * (mo - (((rows + dd) + 1) + tb)))) + 0)))) 32 f32) 33 f33) 34 f34)) H := hP
                      have hD : va_D A (mW h0 q cB cI cZ I (va_up (va_up (va_up (va_up F 31 (upd f31 at_ (nI (((x.1) + ((mo - (((rows + dd) + 1) + tb)) * (mo - (((rows + dd) + 1) + tb)))) + 0)))) 32 f32) 33 f33) 34 f34)) := hD
                      refine lv_aload_n hx hb dX10_bestEnd_288 rfl (lv_at hl 12 rfl) ?_
                      refine va_get (D := D) (ci := 11) (v := .ref (q 32)) (C := RX10) (T := TX10) (N := 48) hx hb hts inX10 hown hK hP 0 rfl rfl 32 (by decide) (hts _ k_1176) (fun _ h9 => h9) rfl dX10_bestEnd_289 ?_
                      refine lv_iload_n hx hb dX10_bestEnd_292 rfl (lv_at hl 9 rfl) ?_
                      refine lv_iload hx hb dX10_bestEnd_293 (lv_at hl 5 rfl) ?_
                      refine lv_if_eq (tgt := 305) hx hb dX10_bestEnd_295 (by decide) (fun hno => absurd hno (by decide)) (fun _ => ?_)
                      refine lv_iload hx hb dX10_bestEnd_298 (lv_at hl 8 rfl) ?_
                      refine lv_iconst (v := 1) hx hb dX10_bestEnd_300 (by decide) ?_
                      refine lv_iadd hx hb dX10_bestEnd_301 ?_
                      refine q_seti (y := nI (pq + 1)) (nI_add pq 1) ?_
                      refine lv_goto (tgt := 307) hx hb dX10_bestEnd_302 (by decide) ?_
                      refine q_ist (X := at_) (f := f32) (x := (nI (pq + 1))) hx hb hK hP hD hS 21 1 rfl rfl (by omega) (by decide) dX10_bestEnd_307 (fun H locs hP hD hS => ?_)
                      have hP : va_P D vcl (mW h0 q cB cI cZ I (va_up (va_up (va_up (va_up F 31 (upd f31 at_ (nI (((x.1) + ((mo - (((rows + dd) + 1) + tb)) * (mo - (((rows + dd) + 1) + tb)))) + 0)))) 32 (upd f32 at_ (nI (pq + 1)))) 33 f33) 34 f34)) H := hP
                      have hD : va_D A (mW h0 q cB cI cZ I (va_up (va_up (va_up (va_up F 31 (upd f31 at_ (nI (((x.1) + ((mo - (((rows + dd) + 1) + tb)) * (mo - (((rows + dd) + 1) + tb)))) + 0)))) 32 (upd f32 at_ (nI (pq + 1)))) 33 f33) 34 f34)) := hD
                      refine lv_aload_n hx hb dX10_bestEnd_308 rfl (lv_at hl 12 rfl) ?_
                      refine va_get (D := D) (ci := 11) (v := .ref (q 33)) (C := RX10) (T := TX10) (N := 48) hx hb hts inX10 hown hK hP 0 rfl rfl 33 (by decide) (hts _ k_1177) (fun _ h9 => h9) rfl dX10_bestEnd_309 ?_
                      refine lv_iload_n hx hb dX10_bestEnd_312 rfl (lv_at hl 9 rfl) ?_
                      refine lv_iload hx hb dX10_bestEnd_313 (lv_at hl 5 rfl) ?_
                      refine lv_if_eq (tgt := 322) hx hb dX10_bestEnd_315 (by decide) (fun hno => absurd hno (by decide)) (fun _ => ?_)
                      refine lv_iconst (v := 0) hx hb dX10_bestEnd_318 (by decide) ?_
                      refine lv_goto (tgt := 324) hx hb dX10_bestEnd_319 (by decide) ?_
                      refine q_ist (X := at_) (f := f33) (x := 0) hx hb hK hP hD hS 22 1 rfl rfl (by omega) (by decide) dX10_bestEnd_324 (fun H locs hP hD hS => ?_)
                      have hP : va_P D vcl (mW h0 q cB cI cZ I (va_up (va_up (va_up (va_up F 31 (upd f31 at_ (nI (((x.1) + ((mo - (((rows + dd) + 1) + tb)) * (mo - (((rows + dd) + 1) + tb)))) + 0)))) 32 (upd f32 at_ (nI (pq + 1)))) 33 (upd f33 at_ 0)) 34 f34)) H := hP
                      have hD : va_D A (mW h0 q cB cI cZ I (va_up (va_up (va_up (va_up F 31 (upd f31 at_ (nI (((x.1) + ((mo - (((rows + dd) + 1) + tb)) * (mo - (((rows + dd) + 1) + tb)))) + 0)))) 32 (upd f32 at_ (nI (pq + 1)))) 33 (upd f33 at_ 0)) 34 f34)) := hD
                      refine lv_aload_n hx hb dX10_bestEnd_325 rfl (lv_at hl 12 rfl) ?_
                      refine va_get (D := D) (ci := 11) (v := .ref (q 34)) (C := RX10) (T := TX10) (N := 48) hx hb hts inX10 hown hK hP 0 rfl rfl 34 (by decide) (hts _ k_1178) (fun _ h9 => h9) rfl dX10_bestEnd_326 ?_
                      refine lv_iload_n hx hb dX10_bestEnd_329 rfl (lv_at hl 9 rfl) ?_
                      refine lv_iload hx hb dX10_bestEnd_330 (lv_at hl 4 rfl) ?_
                      refine q_ist (X := at_) (f := f34) (x := (nI (((rows + dd) + 1) + tb))) hx hb hK hP hD hS 23 1 rfl rfl (by omega) (by decide) dX10_bestEnd_332 (fun H locs hP hD hS => ?_)
                      have hP : va_P D vcl (mW h0 q cB cI cZ I (va_up (va_up (va_up (va_up F 31 (upd f31 at_ (nI (((x.1) + ((mo - (((rows + dd) + 1) + tb)) * (mo - (((rows + dd) + 1) + tb)))) + 0)))) 32 (upd f32 at_ (nI (pq + 1)))) 33 (upd f33 at_ 0)) 34 (upd f34 at_ (nI (((rows + dd) + 1) + tb))))) H := hP
                      have hD : va_D A (mW h0 q cB cI cZ I (va_up (va_up (va_up (va_up F 31 (upd f31 at_ (nI (((x.1) + ((mo - (((rows + dd) + 1) + tb)) * (mo - (((rows + dd) + 1) + tb)))) + 0)))) 32 (upd f32 at_ (nI (pq + 1)))) 33 (upd f33 at_ 0)) 34 (upd f34 at_ (nI (((rows + dd) + 1) + tb))))) := hD
                      refine lv_iload hx hb dX10_bestEnd_333 (lv_at hl 8 rfl) ?_
                      refine lv_iload hx hb dX10_bestEnd_335 (lv_at hl 5 rfl) ?_
                      refine lv_if_eq (tgt := 344) hx hb dX10_bestEnd_337 (by decide) (fun hno => absurd hno (by decide)) (fun _ => ?_)
                      refine lv_iconst (v := 1) hx hb dX10_bestEnd_340 (by decide) ?_
                      refine lv_goto (tgt := 345) hx hb dX10_bestEnd_341 (by decide) ?_
                      refine lv_iadd hx hb dX10_bestEnd_345 ?_
                      refine q_seti (y := nI (pq + 1)) (nI_add pq 1) ?_
                      refine lv_istore (lv' := [(5, .int (nI (pq + 1))), (12, .int (nI (((x.1) + ((mo - (((rows + dd) + 1) + tb)) * (mo - (((rows + dd) + 1) + tb)))) + 0))), (11, .int (nI (x.1))), (10, .int 0), (9, .int (nI (rs_S Fm To pq + (i + 1)))), (8, .int (nI (((rows + dd) + 1) + tb))), (7, .int 1), (6, .int (nI (i + 1))), (4, .int (nI ((rows + dd) + 1))), (3, .int (nI at_)), (2, .int (nI r0)), (1, .int (nI p0)), (0, .ref h0)]) hx hb dX10_bestEnd_346 hl (by decide) rfl (fun ls hl => ?_)
                      refine lv_iload hx hb dX10_bestEnd_348 (lv_at hl 6 rfl) ?_
                      refine lv_if_eq (tgt := 357) hx hb dX10_bestEnd_350 (by decide) (fun hno => absurd hno (by decide)) (fun _ => ?_)
                      refine lv_iconst (v := 0) hx hb dX10_bestEnd_353 (by decide) ?_
                      refine lv_goto (tgt := 359) hx hb dX10_bestEnd_354 (by decide) ?_
                      refine lv_istore (lv' := [(6, .int 0), (5, .int (nI (pq + 1))), (12, .int (nI (((x.1) + ((mo - (((rows + dd) + 1) + tb)) * (mo - (((rows + dd) + 1) + tb)))) + 0))), (11, .int (nI (x.1))), (10, .int 0), (9, .int (nI (rs_S Fm To pq + (i + 1)))), (8, .int (nI (((rows + dd) + 1) + tb))), (7, .int 1), (4, .int (nI ((rows + dd) + 1))), (3, .int (nI at_)), (2, .int (nI r0)), (1, .int (nI p0)), (0, .ref h0)]) hx hb dX10_bestEnd_359 hl (by decide) rfl (fun ls hl => ?_)
                      refine lv_goto (tgt := 31) hx hb dX10_bestEnd_361 (by decide) ?_
                      rw [if_pos (show i + 1 = To pq - Fm pq by omega), if_pos (show i + 1 = To pq - Fm pq by omega)] at hs2
                      have hP := hP
                      exact ih (pq + 1) 0 (rows + dd + 1) (upd f31 at_ (nI (((x.1) + ((mo - (((rows + dd) + 1) + tb)) * (mo - (((rows + dd) + 1) + tb)))) + 0))) (upd f32 at_ (nI (pq + 1))) (upd f33 at_ 0) (upd f34 at_ (nI (((rows + dd) + 1) + tb))) (some ((x.1 + (mo - (rows + dd + 1 + tb)) * (mo - (rows + dd + 1 + tb)) + 0), pq + 1, 0, (rows + dd + 1 + tb))) H locs ls (by omega) (by omega) (by omega) (fun h9 => by have z9 := hpv.2 (pq + 1) (by omega); omega) ⟨pk_us, pk_us, pk_us, pk_us⟩ (fun y2 e2 => by cases e2; exact ⟨by show (x.1 + (mo - (rows + dd + 1 + tb)) * (mo - (rows + dd + 1 + tb)) + 0) ≤ 1640 * (rs_S Fm To pn - at_); omega, by show rows + dd + 1 + tb ≤ 40; omega, by show pq + 1 ≤ pn; omega, (fun h9 => by have h9 : pq + 1 < pn := h9; have z9 := hpv.2 (pq + 1) (by omega); show 0 < To (pq + 1) - Fm (pq + 1); omega), (fun _ => rfl), by show at_ < rs_S Fm To (pq + 1) + 0; omega⟩) (fun z => absurd z (by omega)) (by omega) (by omega) (bk_tab_k hC) hP hD hS (lv_sub hl (l' := [(6, .int 0), (5, .int (nI (pq + 1))), (4, .int (nI ((rows + dd) + 1))), (3, .int (nI at_)), (2, .int (nI r0)), (1, .int (nI p0)), (0, .ref h0)]) [0, 1, 8, 9, 10, 11, 12] rfl) (fun b3 w1 w2 w3 w4 H locs ls a1 => kk b3 w1 w2 w3 w4 H locs ls (a1.trans (bk_in (by omega) (by omega) edd etb (fun _ => emb) (if_pos (by omega)).symm (if_pos (by omega)).symm ((if_pos (by omega)).trans ((bk_new_s (by omega) hcx (if_pos (by omega))).trans bk_try_n)).symm)))
                    · have hbb := (hbo y rfl).1
                      refine lv_aload_n hx hb dX10_bestEnd_259 rfl (lv_at hl 12 rfl) ?_
                      refine va_get (D := D) (ci := 11) (v := .ref (q 31)) (C := RX10) (T := TX10) (N := 48) hx hb hts inX10 hown hK hP 0 rfl rfl 31 (by decide) (hts _ k_1175) (fun _ h9 => h9) rfl dX10_bestEnd_260 ?_
                      refine lv_iload_n hx hb dX10_bestEnd_263 rfl (lv_at hl 9 rfl) ?_
                      refine q_ild (X := at_) (f := f31) hx hb hK hP 20 1 rfl rfl (by omega) (by decide) dX10_bestEnd_264 ?_
                      refine q_seti (y := (nI (y.1))) hb9.1 ?_
                      refine lv_iconst (v := (-1)) hx hb dX10_bestEnd_265 (by decide) ?_
                      refine lv_icmp_eq (tgt := 280) hx hb dX10_bestEnd_266 (by decide) (fun hno => absurd hno (q_nem (by decide) (by omega))) (fun _ => ?_)
                      refine lv_iload hx hb dX10_bestEnd_269 (lv_at hl 0 rfl) ?_
                      refine lv_aload_n hx hb dX10_bestEnd_271 rfl (lv_at hl 12 rfl) ?_
                      refine va_get (D := D) (ci := 11) (v := .ref (q 31)) (C := RX10) (T := TX10) (N := 48) hx hb hts inX10 hown hK hP 0 rfl rfl 31 (by decide) (hts _ k_1175) (fun _ h9 => h9) rfl dX10_bestEnd_272 ?_
                      refine lv_iload_n hx hb dX10_bestEnd_275 rfl (lv_at hl 9 rfl) ?_
                      refine q_ild (X := at_) (f := f31) hx hb hK hP 20 1 rfl rfl (by omega) (by decide) dX10_bestEnd_276 ?_
                      refine q_seti (y := (nI (y.1))) hb9.1 ?_
                      refine lv_icmp_gt (tgt := 333) hx hb dX10_bestEnd_277 (by decide) (fun c_14 => ?_) (fun c_14 => ?_)
                      · have c_14 := q_lt (a := y.1) (b := ((x.1) + ((mo - (((rows + dd) + 1) + tb)) * (mo - (((rows + dd) + 1) + tb)))) + 0) (by omega) (by omega) c_14
                        refine lv_iload hx hb dX10_bestEnd_333 (lv_at hl 8 rfl) ?_
                        refine lv_iload hx hb dX10_bestEnd_335 (lv_at hl 5 rfl) ?_
                        refine lv_if_eq (tgt := 344) hx hb dX10_bestEnd_337 (by decide) (fun hno => absurd hno (by decide)) (fun _ => ?_)
                        refine lv_iconst (v := 1) hx hb dX10_bestEnd_340 (by decide) ?_
                        refine lv_goto (tgt := 345) hx hb dX10_bestEnd_341 (by decide) ?_
                        refine lv_iadd hx hb dX10_bestEnd_345 ?_
                        refine q_seti (y := nI (pq + 1)) (nI_add pq 1) ?_
                        refine lv_istore (lv' := [(5, .int (nI (pq + 1))), (12, .int (nI (((x.1) + ((mo - (((rows + dd) + 1) + tb)) * (mo - (((rows + dd) + 1) + tb)))) + 0))), (11, .int (nI (x.1))), (10, .int 0), (9, .int (nI (rs_S Fm To pq + (i + 1)))), (8, .int (nI (((rows + dd) + 1) + tb))), (7, .int 1), (6, .int (nI (i + 1))), (4, .int (nI ((rows + dd) + 1))), (3, .int (nI at_)), (2, .int (nI r0)), (1, .int (nI p0)), (0, .ref h0)]) hx hb dX10_bestEnd_346 hl (by decide) rfl (fun ls hl => ?_)
                        refine lv_iload hx hb dX10_bestEnd_348 (lv_at hl 6 rfl) ?_
                        refine lv_if_eq (tgt := 357) hx hb dX10_bestEnd_350 (by decide) (fun hno => absurd hno (by decide)) (fun _ => ?_)
                        refine lv_iconst (v := 0) hx hb dX10_bestEnd_353 (by decide) ?_
                        refine lv_goto (tgt := 359) hx hb dX10_bestEnd_354 (by decide) ?_
                        refine lv_istore (lv' := [(6, .int 0), (5, .int (nI (pq + 1))), (12, .int (nI (((x.1) + ((mo - (((rows + dd) + 1) + tb)) * (mo - (((rows + dd) + 1) + tb)))) + 0))), (11, .int (nI (x.1))), (10, .int 0), (9, .int (nI (rs_S Fm To pq + (i + 1)))), (8, .int (nI (((rows + dd) + 1) + tb))), (7, .int 1), (4, .int (nI ((rows + dd) + 1))), (3, .int (nI at_)), (2, .int (nI r0)), (1, .int (nI p0)), (0, .ref h0)]) hx hb dX10_bestEnd_359 hl (by decide) rfl (fun ls hl => ?_)
                        refine lv_goto (tgt := 31) hx hb dX10_bestEnd_361 (by decide) ?_
                        rw [if_pos (show i + 1 = To pq - Fm pq by omega), if_pos (show i + 1 = To pq - Fm pq by omega)] at hs2
                        exact ih (pq + 1) 0 (rows + dd + 1) f31 f32 f33 f34 (some y) H locs ls (by omega) (by omega) (by omega) (fun h9 => by have z9 := hpv.2 (pq + 1) (by omega); omega) hb9 hbo (fun z => absurd z (by omega)) (by omega) (by omega) hC hP hD hS (lv_sub hl (l' := [(6, .int 0), (5, .int (nI (pq + 1))), (4, .int (nI ((rows + dd) + 1))), (3, .int (nI at_)), (2, .int (nI r0)), (1, .int (nI p0)), (0, .ref h0)]) [0, 1, 8, 9, 10, 11, 12] rfl) (fun b3 w1 w2 w3 w4 H locs ls a1 => kk b3 w1 w2 w3 w4 H locs ls (a1.trans (bk_in (by omega) (by omega) edd etb (fun _ => emb) (if_pos (by omega)).symm (if_pos (by omega)).symm ((if_pos (by omega)).trans ((bk_new_s (by omega) hcx (if_pos (by omega))).trans (bk_try_g (by omega)))).symm)))
                      · have c_14 := q_nlt (a := y.1) (b := ((x.1) + ((mo - (((rows + dd) + 1) + tb)) * (mo - (((rows + dd) + 1) + tb)))) + 0) (by omega) (by omega) c_14
                        refine lv_aload_n hx hb dX10_bestEnd_280 rfl (lv_at hl 12 rfl) ?_
                        refine va_get (D := D) (ci := 11) (v := .ref (q 31)) (C := RX10) (T := TX10) (N := 48) hx hb hts inX10 hown hK hP 0 rfl rfl 31 (by decide) (hts _ k_1175) (fun _ h9 => h9) rfl dX10_bestEnd_281 ?_
                        refine lv_iload_n hx hb dX10_bestEnd_284 rfl (lv_at hl 9 rfl) ?_
                        refine lv_iload hx hb dX10_bestEnd_285 (lv_at hl 0 rfl) ?_
                        refine q_ist (X := at_) (f := f31) (x := (nI (((x.1) + ((mo - (((rows + dd) + 1) + tb)) * (mo - (((rows + dd) + 1) + tb)))) + 0))) hx hb hK hP hD hS 20 1 rfl rfl (by omega) (by decide) dX10_bestEnd_287 (fun H locs hP hD hS => ?_)
                        have hP : va_P D vcl (mW h0 q cB cI cZ I (va_up (va_up (va_up (va_up F 31 (upd f31 at_ (nI (((x.1) + ((mo - (((rows + dd) + 1) + tb)) * (mo - (((rows + dd) + 1) + tb)))) + 0)))) 32 f32) 33 f33) 34 f34)) H := hP
                        have hD : va_D A (mW h0 q cB cI cZ I (va_up (va_up (va_up (va_up F 31 (upd f31 at_ (nI (((x.1) + ((mo - (((rows + dd) + 1) + tb)) * (mo - (((rows + dd) + 1) + tb)))) + 0)))) 32 f32) 33 f33) 34 f34)) := hD
                        refine lv_aload_n hx hb dX10_bestEnd_288 rfl (lv_at hl 12 rfl) ?_
                        refine va_get (D := D) (ci := 11) (v := .ref (q 32)) (C := RX10) (T := TX10) (N := 48) hx hb hts inX10 hown hK hP 0 rfl rfl 32 (by decide) (hts _ k_1176) (fun _ h9 => h9) rfl dX10_bestEnd_289 ?_
                        refine lv_iload_n hx hb dX10_bestEnd_292 rfl (lv_at hl 9 rfl) ?_
                        refine lv_iload hx hb dX10_bestEnd_293 (lv_at hl 5 rfl) ?_
                        refine lv_if_eq (tgt := 305) hx hb dX10_bestEnd_295 (by decide) (fun hno => absurd hno (by decide)) (fun _ => ?_)
                        refine lv_iload hx hb dX10_bestEnd_298 (lv_at hl 8 rfl) ?_
                        refine lv_iconst (v := 1) hx hb dX10_bestEnd_300 (by decide) ?_
                        refine lv_iadd hx hb dX10_bestEnd_301 ?_
                        refine q_seti (y := nI (pq + 1)) (nI_add pq 1) ?_
                        refine lv_goto (tgt := 307) hx hb dX10_bestEnd_302 (by decide) ?_
                        refine q_ist (X := at_) (f := f32) (x := (nI (pq + 1))) hx hb hK hP hD hS 21 1 rfl rfl (by omega) (by decide) dX10_bestEnd_307 (fun H locs hP hD hS => ?_)
                        have hP : va_P D vcl (mW h0 q cB cI cZ I (va_up (va_up (va_up (va_up F 31 (upd f31 at_ (nI (((x.1) + ((mo - (((rows + dd) + 1) + tb)) * (mo - (((rows + dd) + 1) + tb)))) + 0)))) 32 (upd f32 at_ (nI (pq + 1)))) 33 f33) 34 f34)) H := hP
                        have hD : va_D A (mW h0 q cB cI cZ I (va_up (va_up (va_up (va_up F 31 (upd f31 at_ (nI (((x.1) + ((mo - (((rows + dd) + 1) + tb)) * (mo - (((rows + dd) + 1) + tb)))) + 0)))) 32 (upd f32 at_ (nI (pq + 1)))) 33 f33) 34 f34)) := hD
                        refine lv_aload_n hx hb dX10_bestEnd_308 rfl (lv_at hl 12 rfl) ?_
                        refine va_get (D := D) (ci := 11) (v := .ref (q 33)) (C := RX10) (T := TX10) (N := 48) hx hb hts inX10 hown hK hP 0 rfl rfl 33 (by decide) (hts _ k_1177) (fun _ h9 => h9) rfl dX10_bestEnd_309 ?_
                        refine lv_iload_n hx hb dX10_bestEnd_312 rfl (lv_at hl 9 rfl) ?_
                        refine lv_iload hx hb dX10_bestEnd_313 (lv_at hl 5 rfl) ?_
                        refine lv_if_eq (tgt := 322) hx hb dX10_bestEnd_315 (by decide) (fun hno => absurd hno (by decide)) (fun _ => ?_)
                        refine lv_iconst (v := 0) hx hb dX10_bestEnd_318 (by decide) ?_
                        refine lv_goto (tgt := 324) hx hb dX10_bestEnd_319 (by decide) ?_
                        refine q_ist (X := at_) (f := f33) (x := 0) hx hb hK hP hD hS 22 1 rfl rfl (by omega) (by decide) dX10_bestEnd_324 (fun H locs hP hD hS => ?_)
                        have hP : va_P D vcl (mW h0 q cB cI cZ I (va_up (va_up (va_up (va_up F 31 (upd f31 at_ (nI (((x.1) + ((mo - (((rows + dd) + 1) + tb)) * (mo - (((rows + dd) + 1) + tb)))) + 0)))) 32 (upd f32 at_ (nI (pq + 1)))) 33 (upd f33 at_ 0)) 34 f34)) H := hP
                        have hD : va_D A (mW h0 q cB cI cZ I (va_up (va_up (va_up (va_up F 31 (upd f31 at_ (nI (((x.1) + ((mo - (((rows + dd) + 1) + tb)) * (mo - (((rows + dd) + 1) + tb)))) + 0)))) 32 (upd f32 at_ (nI (pq + 1)))) 33 (upd f33 at_ 0)) 34 f34)) := hD
                        refine lv_aload_n hx hb dX10_bestEnd_325 rfl (lv_at hl 12 rfl) ?_
                        refine va_get (D := D) (ci := 11) (v := .ref (q 34)) (C := RX10) (T := TX10) (N := 48) hx hb hts inX10 hown hK hP 0 rfl rfl 34 (by decide) (hts _ k_1178) (fun _ h9 => h9) rfl dX10_bestEnd_326 ?_
                        refine lv_iload_n hx hb dX10_bestEnd_329 rfl (lv_at hl 9 rfl) ?_
                        refine lv_iload hx hb dX10_bestEnd_330 (lv_at hl 4 rfl) ?_
                        refine q_ist (X := at_) (f := f34) (x := (nI (((rows + dd) + 1) + tb))) hx hb hK hP hD hS 23 1 rfl rfl (by omega) (by decide) dX10_bestEnd_332 (fun H locs hP hD hS => ?_)
                        have hP : va_P D vcl (mW h0 q cB cI cZ I (va_up (va_up (va_up (va_up F 31 (upd f31 at_ (nI (((x.1) + ((mo - (((rows + dd) + 1) + tb)) * (mo - (((rows + dd) + 1) + tb)))) + 0)))) 32 (upd f32 at_ (nI (pq + 1)))) 33 (upd f33 at_ 0)) 34 (upd f34 at_ (nI (((rows + dd) + 1) + tb))))) H := hP
                        have hD : va_D A (mW h0 q cB cI cZ I (va_up (va_up (va_up (va_up F 31 (upd f31 at_ (nI (((x.1) + ((mo - (((rows + dd) + 1) + tb)) * (mo - (((rows + dd) + 1) + tb)))) + 0)))) 32 (upd f32 at_ (nI (pq + 1)))) 33 (upd f33 at_ 0)) 34 (upd f34 at_ (nI (((rows + dd) + 1) + tb))))) := hD
                        refine lv_iload hx hb dX10_bestEnd_333 (lv_at hl 8 rfl) ?_
                        refine lv_iload hx hb dX10_bestEnd_335 (lv_at hl 5 rfl) ?_
                        refine lv_if_eq (tgt := 344) hx hb dX10_bestEnd_337 (by decide) (fun hno => absurd hno (by decide)) (fun _ => ?_)
                        refine lv_iconst (v := 1) hx hb dX10_bestEnd_340 (by decide) ?_
                        refine lv_goto (tgt := 345) hx hb dX10_bestEnd_341 (by decide) ?_
                        refine lv_iadd hx hb dX10_bestEnd_345 ?_
                        refine q_seti (y := nI (pq + 1)) (nI_add pq 1) ?_
                        refine lv_istore (lv' := [(5, .int (nI (pq + 1))), (12, .int (nI (((x.1) + ((mo - (((rows + dd) + 1) + tb)) * (mo - (((rows + dd) + 1) + tb)))) + 0))), (11, .int (nI (x.1))), (10, .int 0), (9, .int (nI (rs_S Fm To pq + (i + 1)))), (8, .int (nI (((rows + dd) + 1) + tb))), (7, .int 1), (6, .int (nI (i + 1))), (4, .int (nI ((rows + dd) + 1))), (3, .int (nI at_)), (2, .int (nI r0)), (1, .int (nI p0)), (0, .ref h0)]) hx hb dX10_bestEnd_346 hl (by decide) rfl (fun ls hl => ?_)
                        refine lv_iload hx hb dX10_bestEnd_348 (lv_at hl 6 rfl) ?_
                        refine lv_if_eq (tgt := 357) hx hb dX10_bestEnd_350 (by decide) (fun hno => absurd hno (by decide)) (fun _ => ?_)
                        refine lv_iconst (v := 0) hx hb dX10_bestEnd_353 (by decide) ?_
                        refine lv_goto (tgt := 359) hx hb dX10_bestEnd_354 (by decide) ?_
                        refine lv_istore (lv' := [(6, .int 0), (5, .int (nI (pq + 1))), (12, .int (nI (((x.1) + ((mo - (((rows + dd) + 1) + tb)) * (mo - (((rows + dd) + 1) + tb)))) + 0))), (11, .int (nI (x.1))), (10, .int 0), (9, .int (nI (rs_S Fm To pq + (i + 1)))), (8, .int (nI (((rows + dd) + 1) + tb))), (7, .int 1), (4, .int (nI ((rows + dd) + 1))), (3, .int (nI at_)), (2, .int (nI r0)), (1, .int (nI p0)), (0, .ref h0)]) hx hb dX10_bestEnd_359 hl (by decide) rfl (fun ls hl => ?_)
                        refine lv_goto (tgt := 31) hx hb dX10_bestEnd_361 (by decide) ?_
                        rw [if_pos (show i + 1 = To pq - Fm pq by omega), if_pos (show i + 1 = To pq - Fm pq by omega)] at hs2
                        have hP := hP
                        exact ih (pq + 1) 0 (rows + dd + 1) (upd f31 at_ (nI (((x.1) + ((mo - (((rows + dd) + 1) + tb)) * (mo - (((rows + dd) + 1) + tb)))) + 0))) (upd f32 at_ (nI (pq + 1))) (upd f33 at_ 0) (upd f34 at_ (nI (((rows + dd) + 1) + tb))) (some ((x.1 + (mo - (rows + dd + 1 + tb)) * (mo - (rows + dd + 1 + tb)) + 0), pq + 1, 0, (rows + dd + 1 + tb))) H locs ls (by omega) (by omega) (by omega) (fun h9 => by have z9 := hpv.2 (pq + 1) (by omega); omega) ⟨pk_us, pk_us, pk_us, pk_us⟩ (fun y2 e2 => by cases e2; exact ⟨by show (x.1 + (mo - (rows + dd + 1 + tb)) * (mo - (rows + dd + 1 + tb)) + 0) ≤ 1640 * (rs_S Fm To pn - at_); omega, by show rows + dd + 1 + tb ≤ 40; omega, by show pq + 1 ≤ pn; omega, (fun h9 => by have h9 : pq + 1 < pn := h9; have z9 := hpv.2 (pq + 1) (by omega); show 0 < To (pq + 1) - Fm (pq + 1); omega), (fun _ => rfl), by show at_ < rs_S Fm To (pq + 1) + 0; omega⟩) (fun z => absurd z (by omega)) (by omega) (by omega) (bk_tab_k hC) hP hD hS (lv_sub hl (l' := [(6, .int 0), (5, .int (nI (pq + 1))), (4, .int (nI ((rows + dd) + 1))), (3, .int (nI at_)), (2, .int (nI r0)), (1, .int (nI p0)), (0, .ref h0)]) [0, 1, 8, 9, 10, 11, 12] rfl) (fun b3 w1 w2 w3 w4 H locs ls a1 => kk b3 w1 w2 w3 w4 H locs ls (a1.trans (bk_in (by omega) (by omega) edd etb (fun _ => emb) (if_pos (by omega)).symm (if_pos (by omega)).symm ((if_pos (by omega)).trans ((bk_new_s (by omega) hcx (if_pos (by omega))).trans (bk_try_p (by omega)))).symm)))
                · have c_13 := q_eqn (a := rs_S Fm To pq + (i + 1)) (b := rs_S Fm To pn) (by omega) (by omega) c_13
                  refine lv_iconst (v := 1) hx hb dX10_bestEnd_172 (by decide) ?_
                  refine lv_goto (tgt := 177) hx hb dX10_bestEnd_173 (by decide) ?_
                  refine lv_istore (lv' := [(10, .int 1), (9, .int (nI (rs_S Fm To pq + (i + 1)))), (8, .int (nI (((rows + dd) + 1) + tb))), (7, .int 1), (6, .int (nI (i + 1))), (4, .int (nI ((rows + dd) + 1))), (5, .int (nI pq)), (3, .int (nI at_)), (2, .int (nI r0)), (1, .int (nI p0)), (0, .ref h0)]) hx hb dX10_bestEnd_177 hl (by decide) rfl (fun ls hl => ?_)
                  refine lv_iload hx hb dX10_bestEnd_179 (lv_at hl 0 rfl) ?_
                  refine lv_if_eq (tgt := 188) hx hb dX10_bestEnd_181 (by decide) (fun hno => absurd hno (by decide)) (fun _ => ?_)
                  refine lv_iconst (v := 0) hx hb dX10_bestEnd_184 (by decide) ?_
                  refine lv_goto (tgt := 195) hx hb dX10_bestEnd_185 (by decide) ?_
                  refine lv_istore (lv' := [(11, .int 0), (10, .int 1), (9, .int (nI (rs_S Fm To pq + (i + 1)))), (8, .int (nI (((rows + dd) + 1) + tb))), (7, .int 1), (6, .int (nI (i + 1))), (4, .int (nI ((rows + dd) + 1))), (5, .int (nI pq)), (3, .int (nI at_)), (2, .int (nI r0)), (1, .int (nI p0)), (0, .ref h0)]) hx hb dX10_bestEnd_195 hl (by decide) rfl (fun ls hl => ?_)
                  refine lv_iload hx hb dX10_bestEnd_197 (lv_at hl 0 rfl) ?_
                  refine lv_iconst (v := (-1)) hx hb dX10_bestEnd_199 (by decide) ?_
                  refine lv_icmp_eq (tgt := 333) hx hb dX10_bestEnd_200 (by decide) (fun hno => absurd hno (by decide)) (fun _ => ?_)
                  refine lv_iload hx hb dX10_bestEnd_203 (lv_at hl 1 rfl) ?_
                  refine lv_if_eq (tgt := 212) hx hb dX10_bestEnd_205 (by decide) (fun hno => absurd hno (by decide)) (fun _ => ?_)
                  refine lv_iconst (v := 0) hx hb dX10_bestEnd_208 (by decide) ?_
                  refine lv_goto (tgt := 257) hx hb dX10_bestEnd_209 (by decide) ?_
                  refine lv_istore (lv' := [(12, .int 0), (11, .int 0), (10, .int 1), (9, .int (nI (rs_S Fm To pq + (i + 1)))), (8, .int (nI (((rows + dd) + 1) + tb))), (7, .int 1), (6, .int (nI (i + 1))), (4, .int (nI ((rows + dd) + 1))), (5, .int (nI pq)), (3, .int (nI at_)), (2, .int (nI r0)), (1, .int (nI p0)), (0, .ref h0)]) hx hb dX10_bestEnd_257 hl (by decide) rfl (fun ls hl => ?_)
                  rcases b with _ | y
                  · have hbb := hb9
                    refine lv_aload_n hx hb dX10_bestEnd_259 rfl (lv_at hl 12 rfl) ?_
                    refine va_get (D := D) (ci := 11) (v := .ref (q 31)) (C := RX10) (T := TX10) (N := 48) hx hb hts inX10 hown hK hP 0 rfl rfl 31 (by decide) (hts _ k_1175) (fun _ h9 => h9) rfl dX10_bestEnd_260 ?_
                    refine lv_iload_n hx hb dX10_bestEnd_263 rfl (lv_at hl 9 rfl) ?_
                    refine q_ild (X := at_) (f := f31) hx hb hK hP 20 1 rfl rfl (by omega) (by decide) dX10_bestEnd_264 ?_
                    refine q_seti (y := (-1)) hb9 ?_
                    refine lv_iconst (v := (-1)) hx hb dX10_bestEnd_265 (by decide) ?_
                    refine lv_icmp_eq (tgt := 280) hx hb dX10_bestEnd_266 (by decide) (fun _ => ?_) (fun hno => absurd hno (by decide))
                    refine lv_aload_n hx hb dX10_bestEnd_280 rfl (lv_at hl 12 rfl) ?_
                    refine va_get (D := D) (ci := 11) (v := .ref (q 31)) (C := RX10) (T := TX10) (N := 48) hx hb hts inX10 hown hK hP 0 rfl rfl 31 (by decide) (hts _ k_1175) (fun _ h9 => h9) rfl dX10_bestEnd_281 ?_
                    refine lv_iload_n hx hb dX10_bestEnd_284 rfl (lv_at hl 9 rfl) ?_
                    refine lv_iload hx hb dX10_bestEnd_285 (lv_at hl 0 rfl) ?_
                    refine q_ist (X := at_) (f := f31) (x := 0) hx hb hK hP hD hS 20 1 rfl rfl (by omega) (by decide) dX10_bestEnd_287 (fun H locs hP hD hS => ?_)
                    have hP : va_P D vcl (mW h0 q cB cI cZ I (va_up (va_up (va_up (va_up F 31 (upd f31 at_ 0)) 32 f32) 33 f33) 34 f34)) H := hP
                    have hD : va_D A (mW h0 q cB cI cZ I (va_up (va_up (va_up (va_up F 31 (upd f31 at_ 0)) 32 f32) 33 f33) 34 f34)) := hD
                    refine lv_aload_n hx hb dX10_bestEnd_288 rfl (lv_at hl 12 rfl) ?_
                    refine va_get (D := D) (ci := 11) (v := .ref (q 32)) (C := RX10) (T := TX10) (N := 48) hx hb hts inX10 hown hK hP 0 rfl rfl 32 (by decide) (hts _ k_1176) (fun _ h9 => h9) rfl dX10_bestEnd_289 ?_
                    refine lv_iload_n hx hb dX10_bestEnd_292 rfl (lv_at hl 9 rfl) ?_
                    refine lv_iload hx hb dX10_bestEnd_293 (lv_at hl 5 rfl) ?_
                    refine lv_if_eq (tgt := 305) hx hb dX10_bestEnd_295 (by decide) (fun hno => absurd hno (by decide)) (fun _ => ?_)
                    refine lv_iload hx hb dX10_bestEnd_298 (lv_at hl 8 rfl) ?_
                    refine lv_iconst (v := 1) hx hb dX10_bestEnd_300 (by decide) ?_
                    refine lv_iadd hx hb dX10_bestEnd_301 ?_
                    refine q_seti (y := nI (pq + 1)) (nI_add pq 1) ?_
                    refine lv_goto (tgt := 307) hx hb dX10_bestEnd_302 (by decide) ?_
                    refine q_ist (X := at_) (f := f32) (x := (nI (pq + 1))) hx hb hK hP hD hS 21 1 rfl rfl (by omega) (by decide) dX10_bestEnd_307 (fun H locs hP hD hS => ?_)
                    have hP : va_P D vcl (mW h0 q cB cI cZ I (va_up (va_up (va_up (va_up F 31 (upd f31 at_ 0)) 32 (upd f32 at_ (nI (pq + 1)))) 33 f33) 34 f34)) H := hP
                    have hD : va_D A (mW h0 q cB cI cZ I (va_up (va_up (va_up (va_up F 31 (upd f31 at_ 0)) 32 (upd f32 at_ (nI (pq + 1)))) 33 f33) 34 f34)) := hD
                    refine lv_aload_n hx hb dX10_bestEnd_308 rfl (lv_at hl 12 rfl) ?_
                    refine va_get (D := D) (ci := 11) (v := .ref (q 33)) (C := RX10) (T := TX10) (N := 48) hx hb hts inX10 hown hK hP 0 rfl rfl 33 (by decide) (hts _ k_1177) (fun _ h9 => h9) rfl dX10_bestEnd_309 ?_
                    refine lv_iload_n hx hb dX10_bestEnd_312 rfl (lv_at hl 9 rfl) ?_
                    refine lv_iload hx hb dX10_bestEnd_313 (lv_at hl 5 rfl) ?_
                    refine lv_if_eq (tgt := 322) hx hb dX10_bestEnd_315 (by decide) (fun hno => absurd hno (by decide)) (fun _ => ?_)
                    refine lv_iconst (v := 0) hx hb dX10_bestEnd_318 (by decide) ?_
                    refine lv_goto (tgt := 324) hx hb dX10_bestEnd_319 (by decide) ?_
                    refine q_ist (X := at_) (f := f33) (x := 0) hx hb hK hP hD hS 22 1 rfl rfl (by omega) (by decide) dX10_bestEnd_324 (fun H locs hP hD hS => ?_)
                    have hP : va_P D vcl (mW h0 q cB cI cZ I (va_up (va_up (va_up (va_up F 31 (upd f31 at_ 0)) 32 (upd f32 at_ (nI (pq + 1)))) 33 (upd f33 at_ 0)) 34 f34)) H := hP
                    have hD : va_D A (mW h0 q cB cI cZ I (va_up (va_up (va_up (va_up F 31 (upd f31 at_ 0)) 32 (upd f32 at_ (nI (pq + 1)))) 33 (upd f33 at_ 0)) 34 f34)) := hD
                    refine lv_aload_n hx hb dX10_bestEnd_325 rfl (lv_at hl 12 rfl) ?_
                    refine va_get (D := D) (ci := 11) (v := .ref (q 34)) (C := RX10) (T := TX10) (N := 48) hx hb hts inX10 hown hK hP 0 rfl rfl 34 (by decide) (hts _ k_1178) (fun _ h9 => h9) rfl dX10_bestEnd_326 ?_
                    refine lv_iload_n hx hb dX10_bestEnd_329 rfl (lv_at hl 9 rfl) ?_
                    refine lv_iload hx hb dX10_bestEnd_330 (lv_at hl 4 rfl) ?_
                    refine q_ist (X := at_) (f := f34) (x := (nI (((rows + dd) + 1) + tb))) hx hb hK hP hD hS 23 1 rfl rfl (by omega) (by decide) dX10_bestEnd_332 (fun H locs hP hD hS => ?_)
                    have hP : va_P D vcl (mW h0 q cB cI cZ I (va_up (va_up (va_up (va_up F 31 (upd f31 at_ 0)) 32 (upd f32 at_ (nI (pq + 1)))) 33 (upd f33 at_ 0)) 34 (upd f34 at_ (nI (((rows + dd) + 1) + tb))))) H := hP
                    have hD : va_D A (mW h0 q cB cI cZ I (va_up (va_up (va_up (va_up F 31 (upd f31 at_ 0)) 32 (upd f32 at_ (nI (pq + 1)))) 33 (upd f33 at_ 0)) 34 (upd f34 at_ (nI (((rows + dd) + 1) + tb))))) := hD
                    refine lv_iload hx hb dX10_bestEnd_333 (lv_at hl 8 rfl) ?_
                    refine lv_iload hx hb dX10_bestEnd_335 (lv_at hl 5 rfl) ?_
                    refine lv_if_eq (tgt := 344) hx hb dX10_bestEnd_337 (by decide) (fun hno => absurd hno (by decide)) (fun _ => ?_)
                    refine lv_iconst (v := 1) hx hb dX10_bestEnd_340 (by decide) ?_
                    refine lv_goto (tgt := 345) hx hb dX10_bestEnd_341 (by decide) ?_
                    refine lv_iadd hx hb dX10_bestEnd_345 ?_
                    refine q_seti (y := nI (pq + 1)) (nI_add pq 1) ?_
                    refine lv_istore (lv' := [(5, .int (nI (pq + 1))), (12, .int 0), (11, .int 0), (10, .int 1), (9, .int (nI (rs_S Fm To pq + (i + 1)))), (8, .int (nI (((rows + dd) + 1) + tb))), (7, .int 1), (6, .int (nI (i + 1))), (4, .int (nI ((rows + dd) + 1))), (3, .int (nI at_)), (2, .int (nI r0)), (1, .int (nI p0)), (0, .ref h0)]) hx hb dX10_bestEnd_346 hl (by decide) rfl (fun ls hl => ?_)
                    refine lv_iload hx hb dX10_bestEnd_348 (lv_at hl 6 rfl) ?_
                    refine lv_if_eq (tgt := 357) hx hb dX10_bestEnd_350 (by decide) (fun hno => absurd hno (by decide)) (fun _ => ?_)
                    refine lv_iconst (v := 0) hx hb dX10_bestEnd_353 (by decide) ?_
                    refine lv_goto (tgt := 359) hx hb dX10_bestEnd_354 (by decide) ?_
                    refine lv_istore (lv' := [(6, .int 0), (5, .int (nI (pq + 1))), (12, .int 0), (11, .int 0), (10, .int 1), (9, .int (nI (rs_S Fm To pq + (i + 1)))), (8, .int (nI (((rows + dd) + 1) + tb))), (7, .int 1), (4, .int (nI ((rows + dd) + 1))), (3, .int (nI at_)), (2, .int (nI r0)), (1, .int (nI p0)), (0, .ref h0)]) hx hb dX10_bestEnd_359 hl (by decide) rfl (fun ls hl => ?_)
                    refine lv_goto (tgt := 31) hx hb dX10_bestEnd_361 (by decide) ?_
                    rw [if_pos (show i + 1 = To pq - Fm pq by omega), if_pos (show i + 1 = To pq - Fm pq by omega)] at hs2
                    have hP := hP
                    exact ih (pq + 1) 0 (rows + dd + 1) (upd f31 at_ 0) (upd f32 at_ (nI (pq + 1))) (upd f33 at_ 0) (upd f34 at_ (nI (((rows + dd) + 1) + tb))) (some (0, pq + 1, 0, (rows + dd + 1 + tb))) H locs ls (by omega) (by omega) (by omega) (fun h9 => by have z9 := hpv.2 (pq + 1) (by omega); omega) ⟨pk_us, pk_us, pk_us, pk_us⟩ (fun y2 e2 => by cases e2; exact ⟨by show 0 ≤ 1640 * (rs_S Fm To pn - at_); omega, by show rows + dd + 1 + tb ≤ 40; omega, by show pq + 1 ≤ pn; omega, (fun h9 => by have h9 : pq + 1 < pn := h9; have z9 := hpv.2 (pq + 1) (by omega); show 0 < To (pq + 1) - Fm (pq + 1); omega), (fun _ => rfl), by show at_ < rs_S Fm To (pq + 1) + 0; omega⟩) (fun z => absurd z (by omega)) (by omega) (by omega) (bk_tab_k hC) hP hD hS (lv_sub hl (l' := [(6, .int 0), (5, .int (nI (pq + 1))), (4, .int (nI ((rows + dd) + 1))), (3, .int (nI at_)), (2, .int (nI r0)), (1, .int (nI p0)), (0, .ref h0)]) [0, 1, 8, 9, 10, 11, 12] rfl) (fun b3 w1 w2 w3 w4 H locs ls a1 => kk b3 w1 w2 w3 w4 H locs ls (a1.trans (bk_in (by omega) (by omega) edd etb (fun _ => emb) (if_pos (by omega)).symm (if_pos (by omega)).symm ((if_pos (by omega)).trans ((bk_new_l (by omega)).trans bk_try_n)).symm)))
                  · have hbb := (hbo y rfl).1
                    refine lv_aload_n hx hb dX10_bestEnd_259 rfl (lv_at hl 12 rfl) ?_
                    refine va_get (D := D) (ci := 11) (v := .ref (q 31)) (C := RX10) (T := TX10) (N := 48) hx hb hts inX10 hown hK hP 0 rfl rfl 31 (by decide) (hts _ k_1175) (fun _ h9 => h9) rfl dX10_bestEnd_260 ?_
                    refine lv_iload_n hx hb dX10_bestEnd_263 rfl (lv_at hl 9 rfl) ?_
                    refine q_ild (X := at_) (f := f31) hx hb hK hP 20 1 rfl rfl (by omega) (by decide) dX10_bestEnd_264 ?_
                    refine q_seti (y := (nI (y.1))) hb9.1 ?_
                    refine lv_iconst (v := (-1)) hx hb dX10_bestEnd_265 (by decide) ?_
                    refine lv_icmp_eq (tgt := 280) hx hb dX10_bestEnd_266 (by decide) (fun hno => absurd hno (q_nem (by decide) (by omega))) (fun _ => ?_)
                    refine lv_iload hx hb dX10_bestEnd_269 (lv_at hl 0 rfl) ?_
                    refine lv_aload_n hx hb dX10_bestEnd_271 rfl (lv_at hl 12 rfl) ?_
                    refine va_get (D := D) (ci := 11) (v := .ref (q 31)) (C := RX10) (T := TX10) (N := 48) hx hb hts inX10 hown hK hP 0 rfl rfl 31 (by decide) (hts _ k_1175) (fun _ h9 => h9) rfl dX10_bestEnd_272 ?_
                    refine lv_iload_n hx hb dX10_bestEnd_275 rfl (lv_at hl 9 rfl) ?_
                    refine q_ild (X := at_) (f := f31) hx hb hK hP 20 1 rfl rfl (by omega) (by decide) dX10_bestEnd_276 ?_
                    refine q_seti (y := (nI (y.1))) hb9.1 ?_
                    refine lv_icmp_gt (tgt := 333) hx hb dX10_bestEnd_277 (by decide) (fun c_15 => ?_) (fun c_15 => ?_)
                    · have c_15 := q_lt (a := y.1) (b := 0) (by omega) (by omega) c_15
                      refine lv_iload hx hb dX10_bestEnd_333 (lv_at hl 8 rfl) ?_
                      refine lv_iload hx hb dX10_bestEnd_335 (lv_at hl 5 rfl) ?_
                      refine lv_if_eq (tgt := 344) hx hb dX10_bestEnd_337 (by decide) (fun hno => absurd hno (by decide)) (fun _ => ?_)
                      refine lv_iconst (v := 1) hx hb dX10_bestEnd_340 (by decide) ?_
                      refine lv_goto (tgt := 345) hx hb dX10_bestEnd_341 (by decide) ?_
                      refine lv_iadd hx hb dX10_bestEnd_345 ?_
                      refine q_seti (y := nI (pq + 1)) (nI_add pq 1) ?_
                      refine lv_istore (lv' := [(5, .int (nI (pq + 1))), (12, .int 0), (11, .int 0), (10, .int 1), (9, .int (nI (rs_S Fm To pq + (i + 1)))), (8, .int (nI (((rows + dd) + 1) + tb))), (7, .int 1), (6, .int (nI (i + 1))), (4, .int (nI ((rows + dd) + 1))), (3, .int (nI at_)), (2, .int (nI r0)), (1, .int (nI p0)), (0, .ref h0)]) hx hb dX10_bestEnd_346 hl (by decide) rfl (fun ls hl => ?_)
                      refine lv_iload hx hb dX10_bestEnd_348 (lv_at hl 6 rfl) ?_
                      refine lv_if_eq (tgt := 357) hx hb dX10_bestEnd_350 (by decide) (fun hno => absurd hno (by decide)) (fun _ => ?_)
                      refine lv_iconst (v := 0) hx hb dX10_bestEnd_353 (by decide) ?_
                      refine lv_goto (tgt := 359) hx hb dX10_bestEnd_354 (by decide) ?_
                      refine lv_istore (lv' := [(6, .int 0), (5, .int (nI (pq + 1))), (12, .int 0), (11, .int 0), (10, .int 1), (9, .int (nI (rs_S Fm To pq + (i + 1)))), (8, .int (nI (((rows + dd) + 1) + tb))), (7, .int 1), (4, .int (nI ((rows + dd) + 1))), (3, .int (nI at_)), (2, .int (nI r0)), (1, .int (nI p0)), (0, .ref h0)]) hx hb dX10_bestEnd_359 hl (by decide) rfl (fun ls hl => ?_)
                      refine lv_goto (tgt := 31) hx hb dX10_bestEnd_361 (by decide) ?_
                      rw [if_pos (show i + 1 = To pq - Fm pq by omega), if_pos (show i + 1 = To pq - Fm pq by omega)] at hs2
                      exact False.elim (by omega)
                    · have c_15 := q_nlt (a := y.1) (b := 0) (by omega) (by omega) c_15
                      refine lv_aload_n hx hb dX10_bestEnd_280 rfl (lv_at hl 12 rfl) ?_
                      refine va_get (D := D) (ci := 11) (v := .ref (q 31)) (C := RX10) (T := TX10) (N := 48) hx hb hts inX10 hown hK hP 0 rfl rfl 31 (by decide) (hts _ k_1175) (fun _ h9 => h9) rfl dX10_bestEnd_281 ?_
                      refine lv_iload_n hx hb dX10_bestEnd_284 rfl (lv_at hl 9 rfl) ?_
                      refine lv_iload hx hb dX10_bestEnd_285 (lv_at hl 0 rfl) ?_
                      refine q_ist (X := at_) (f := f31) (x := 0) hx hb hK hP hD hS 20 1 rfl rfl (by omega) (by decide) dX10_bestEnd_287 (fun H locs hP hD hS => ?_)
                      have hP : va_P D vcl (mW h0 q cB cI cZ I (va_up (va_up (va_up (va_up F 31 (upd f31 at_ 0)) 32 f32) 33 f33) 34 f34)) H := hP
                      have hD : va_D A (mW h0 q cB cI cZ I (va_up (va_up (va_up (va_up F 31 (upd f31 at_ 0)) 32 f32) 33 f33) 34 f34)) := hD
                      refine lv_aload_n hx hb dX10_bestEnd_288 rfl (lv_at hl 12 rfl) ?_
                      refine va_get (D := D) (ci := 11) (v := .ref (q 32)) (C := RX10) (T := TX10) (N := 48) hx hb hts inX10 hown hK hP 0 rfl rfl 32 (by decide) (hts _ k_1176) (fun _ h9 => h9) rfl dX10_bestEnd_289 ?_
                      refine lv_iload_n hx hb dX10_bestEnd_292 rfl (lv_at hl 9 rfl) ?_
                      refine lv_iload hx hb dX10_bestEnd_293 (lv_at hl 5 rfl) ?_
                      refine lv_if_eq (tgt := 305) hx hb dX10_bestEnd_295 (by decide) (fun hno => absurd hno (by decide)) (fun _ => ?_)
                      refine lv_iload hx hb dX10_bestEnd_298 (lv_at hl 8 rfl) ?_
                      refine lv_iconst (v := 1) hx hb dX10_bestEnd_300 (by decide) ?_
                      refine lv_iadd hx hb dX10_bestEnd_301 ?_
                      refine q_seti (y := nI (pq + 1)) (nI_add pq 1) ?_
                      refine lv_goto (tgt := 307) hx hb dX10_bestEnd_302 (by decide) ?_
                      refine q_ist (X := at_) (f := f32) (x := (nI (pq + 1))) hx hb hK hP hD hS 21 1 rfl rfl (by omega) (by decide) dX10_bestEnd_307 (fun H locs hP hD hS => ?_)
                      have hP : va_P D vcl (mW h0 q cB cI cZ I (va_up (va_up (va_up (va_up F 31 (upd f31 at_ 0)) 32 (upd f32 at_ (nI (pq + 1)))) 33 f33) 34 f34)) H := hP
                      have hD : va_D A (mW h0 q cB cI cZ I (va_up (va_up (va_up (va_up F 31 (upd f31 at_ 0)) 32 (upd f32 at_ (nI (pq + 1)))) 33 f33) 34 f34)) := hD
                      refine lv_aload_n hx hb dX10_bestEnd_308 rfl (lv_at hl 12 rfl) ?_
                      refine va_get (D := D) (ci := 11) (v := .ref (q 33)) (C := RX10) (T := TX10) (N := 48) hx hb hts inX10 hown hK hP 0 rfl rfl 33 (by decide) (hts _ k_1177) (fun _ h9 => h9) rfl dX10_bestEnd_309 ?_
                      refine lv_iload_n hx hb dX10_bestEnd_312 rfl (lv_at hl 9 rfl) ?_
                      refine lv_iload hx hb dX10_bestEnd_313 (lv_at hl 5 rfl) ?_
                      refine lv_if_eq (tgt := 322) hx hb dX10_bestEnd_315 (by decide) (fun hno => absurd hno (by decide)) (fun _ => ?_)
                      refine lv_iconst (v := 0) hx hb dX10_bestEnd_318 (by decide) ?_
                      refine lv_goto (tgt := 324) hx hb dX10_bestEnd_319 (by decide) ?_
                      refine q_ist (X := at_) (f := f33) (x := 0) hx hb hK hP hD hS 22 1 rfl rfl (by omega) (by decide) dX10_bestEnd_324 (fun H locs hP hD hS => ?_)
                      have hP : va_P D vcl (mW h0 q cB cI cZ I (va_up (va_up (va_up (va_up F 31 (upd f31 at_ 0)) 32 (upd f32 at_ (nI (pq + 1)))) 33 (upd f33 at_ 0)) 34 f34)) H := hP
                      have hD : va_D A (mW h0 q cB cI cZ I (va_up (va_up (va_up (va_up F 31 (upd f31 at_ 0)) 32 (upd f32 at_ (nI (pq + 1)))) 33 (upd f33 at_ 0)) 34 f34)) := hD
                      refine lv_aload_n hx hb dX10_bestEnd_325 rfl (lv_at hl 12 rfl) ?_
                      refine va_get (D := D) (ci := 11) (v := .ref (q 34)) (C := RX10) (T := TX10) (N := 48) hx hb hts inX10 hown hK hP 0 rfl rfl 34 (by decide) (hts _ k_1178) (fun _ h9 => h9) rfl dX10_bestEnd_326 ?_
                      refine lv_iload_n hx hb dX10_bestEnd_329 rfl (lv_at hl 9 rfl) ?_
                      refine lv_iload hx hb dX10_bestEnd_330 (lv_at hl 4 rfl) ?_
                      refine q_ist (X := at_) (f := f34) (x := (nI (((rows + dd) + 1) + tb))) hx hb hK hP hD hS 23 1 rfl rfl (by omega) (by decide) dX10_bestEnd_332 (fun H locs hP hD hS => ?_)
                      have hP : va_P D vcl (mW h0 q cB cI cZ I (va_up (va_up (va_up (va_up F 31 (upd f31 at_ 0)) 32 (upd f32 at_ (nI (pq + 1)))) 33 (upd f33 at_ 0)) 34 (upd f34 at_ (nI (((rows + dd) + 1) + tb))))) H := hP
                      have hD : va_D A (mW h0 q cB cI cZ I (va_up (va_up (va_up (va_up F 31 (upd f31 at_ 0)) 32 (upd f32 at_ (nI (pq + 1)))) 33 (upd f33 at_ 0)) 34 (upd f34 at_ (nI (((rows + dd) + 1) + tb))))) := hD
                      refine lv_iload hx hb dX10_bestEnd_333 (lv_at hl 8 rfl) ?_
                      refine lv_iload hx hb dX10_bestEnd_335 (lv_at hl 5 rfl) ?_
                      refine lv_if_eq (tgt := 344) hx hb dX10_bestEnd_337 (by decide) (fun hno => absurd hno (by decide)) (fun _ => ?_)
                      refine lv_iconst (v := 1) hx hb dX10_bestEnd_340 (by decide) ?_
                      refine lv_goto (tgt := 345) hx hb dX10_bestEnd_341 (by decide) ?_
                      refine lv_iadd hx hb dX10_bestEnd_345 ?_
                      refine q_seti (y := nI (pq + 1)) (nI_add pq 1) ?_
                      refine lv_istore (lv' := [(5, .int (nI (pq + 1))), (12, .int 0), (11, .int 0), (10, .int 1), (9, .int (nI (rs_S Fm To pq + (i + 1)))), (8, .int (nI (((rows + dd) + 1) + tb))), (7, .int 1), (6, .int (nI (i + 1))), (4, .int (nI ((rows + dd) + 1))), (3, .int (nI at_)), (2, .int (nI r0)), (1, .int (nI p0)), (0, .ref h0)]) hx hb dX10_bestEnd_346 hl (by decide) rfl (fun ls hl => ?_)
                      refine lv_iload hx hb dX10_bestEnd_348 (lv_at hl 6 rfl) ?_
                      refine lv_if_eq (tgt := 357) hx hb dX10_bestEnd_350 (by decide) (fun hno => absurd hno (by decide)) (fun _ => ?_)
                      refine lv_iconst (v := 0) hx hb dX10_bestEnd_353 (by decide) ?_
                      refine lv_goto (tgt := 359) hx hb dX10_bestEnd_354 (by decide) ?_
                      refine lv_istore (lv' := [(6, .int 0), (5, .int (nI (pq + 1))), (12, .int 0), (11, .int 0), (10, .int 1), (9, .int (nI (rs_S Fm To pq + (i + 1)))), (8, .int (nI (((rows + dd) + 1) + tb))), (7, .int 1), (4, .int (nI ((rows + dd) + 1))), (3, .int (nI at_)), (2, .int (nI r0)), (1, .int (nI p0)), (0, .ref h0)]) hx hb dX10_bestEnd_359 hl (by decide) rfl (fun ls hl => ?_)
                      refine lv_goto (tgt := 31) hx hb dX10_bestEnd_361 (by decide) ?_
                      rw [if_pos (show i + 1 = To pq - Fm pq by omega), if_pos (show i + 1 = To pq - Fm pq by omega)] at hs2
                      have hP := hP
                      exact ih (pq + 1) 0 (rows + dd + 1) (upd f31 at_ 0) (upd f32 at_ (nI (pq + 1))) (upd f33 at_ 0) (upd f34 at_ (nI (((rows + dd) + 1) + tb))) (some (0, pq + 1, 0, (rows + dd + 1 + tb))) H locs ls (by omega) (by omega) (by omega) (fun h9 => by have z9 := hpv.2 (pq + 1) (by omega); omega) ⟨pk_us, pk_us, pk_us, pk_us⟩ (fun y2 e2 => by cases e2; exact ⟨by show 0 ≤ 1640 * (rs_S Fm To pn - at_); omega, by show rows + dd + 1 + tb ≤ 40; omega, by show pq + 1 ≤ pn; omega, (fun h9 => by have h9 : pq + 1 < pn := h9; have z9 := hpv.2 (pq + 1) (by omega); show 0 < To (pq + 1) - Fm (pq + 1); omega), (fun _ => rfl), by show at_ < rs_S Fm To (pq + 1) + 0; omega⟩) (fun z => absurd z (by omega)) (by omega) (by omega) (bk_tab_k hC) hP hD hS (lv_sub hl (l' := [(6, .int 0), (5, .int (nI (pq + 1))), (4, .int (nI ((rows + dd) + 1))), (3, .int (nI at_)), (2, .int (nI r0)), (1, .int (nI p0)), (0, .ref h0)]) [0, 1, 8, 9, 10, 11, 12] rfl) (fun b3 w1 w2 w3 w4 H locs ls a1 => kk b3 w1 w2 w3 w4 H locs ls (a1.trans (bk_in (by omega) (by omega) edd etb (fun _ => emb) (if_pos (by omega)).symm (if_pos (by omega)).symm ((if_pos (by omega)).trans ((bk_new_l (by omega)).trans (bk_try_p (by omega)))).symm)))
        refine lv_iload hx hb dX10_bestEnd_51 (lv_at hl 1 rfl) ?_
        refine lv_iload_n hx hb dX10_bestEnd_53 rfl (lv_at hl 5 rfl) ?_
        refine lv_icmp_le (tgt := 75) hx hb dX10_bestEnd_54 (by decide) (fun c_16 => ?_) (fun c_16 => ?_)
        · have c_16 := q_le (a := pq) (b := p0) (by omega) (by omega) c_16
          refine lv_iconst (v := 0) hx hb dX10_bestEnd_75 (by decide) ?_
          exact key 0 H locs ls (pb_0 (fun z => absurd z.1 (by omega))).symm hP hD hS (lv_sub hl (l' := [(6, .int (nI i)), (5, .int (nI pq)), (4, .int (nI rows)), (3, .int (nI at_)), (2, .int (nI r0)), (1, .int (nI p0)), (0, .ref h0)]) [0, 1, 2, 3, 4, 5, 6] rfl)
        · have c_16 := q_nle (a := pq) (b := p0) (by omega) (by omega) c_16
          refine lv_iload hx hb dX10_bestEnd_57 (lv_at hl 0 rfl) ?_
          refine lv_if_ne (tgt := 75) hx hb dX10_bestEnd_59 (by decide) (fun c_17 => ?_) (fun c_17 => ?_)
          · have c_17 := q_nen (a := i) (b := 0) (by omega) (by omega) c_17
            refine lv_iconst (v := 0) hx hb dX10_bestEnd_75 (by decide) ?_
            exact key 0 H locs ls (pb_0 (fun z => absurd z.2.1 (by omega))).symm hP hD hS (lv_sub hl (l' := [(6, .int (nI i)), (5, .int (nI pq)), (4, .int (nI rows)), (3, .int (nI at_)), (2, .int (nI r0)), (1, .int (nI p0)), (0, .ref h0)]) [0, 1, 2, 3, 4, 5, 6] rfl)
          · have c_17 := q_eqn (a := i) (b := 0) (by omega) (by omega) c_17
            refine lv_aload_n hx hb dX10_bestEnd_62 rfl (lv_at hl 6 rfl) ?_
            refine lv_iload hx hb dX10_bestEnd_63 (lv_at hl 1 rfl) ?_
            refine q_ci (k := cells) (n := slots) hK hP hD hS hA (fun hPc hKc hDc => q_rV (As := [.int (nI pq)]) (rest := [.int (nI rows)]) hf (r_hasEmptyAhead _ D h0 q cB cI cZ I (va_up (va_up (va_up (va_up F 31 f31) 32 f32) 33 f33) 34 f34) pn pe sl K Fm To Rr pq hpv (by omega) _) k_1407 k_1404 k_1406 k_66 k_98 (nA := 1) (by decide +kernel) ⟨Nat.le_trans (by decide) hRf, Nat.le_trans (by decide) hRl⟩ hK hP (ci := 11) (q0 := 0) rfl rfl rfl hPc hKc hDc (fun _ _ _ _ h => h) (fun _ _ _ => trivial) rfl hl.1 rfl (Nat.le_of_ble_eq_true rfl) dX10_bestEnd_65 ⟨hRc, hRs⟩) (Nat.le_refl _) (Nat.le_refl _) (fun r u H locs hw hK hP hD hS => ?_)
            rcases hw with ⟨⟨c_18, rfl⟩ | ⟨c_18, rfl⟩, rfl⟩
            · have hP : va_P D vcl (mW h0 q cB cI cZ I (va_up (va_up (va_up (va_up F 31 f31) 32 f32) 33 f33) 34 f34)) H := hP
              have hD : va_D A (mW h0 q cB cI cZ I (va_up (va_up (va_up (va_up F 31 f31) 32 f32) 33 f33) 34 f34)) := hD
              refine lv_if_eq (tgt := 75) hx hb dX10_bestEnd_68 (by decide) (fun hno => absurd hno (by decide)) (fun _ => ?_)
              refine lv_iconst (v := 1) hx hb dX10_bestEnd_71 (by decide) ?_
              refine lv_goto (tgt := 76) hx hb dX10_bestEnd_72 (by decide) ?_
              exact key 1 H locs ls (pb_1 ⟨by omega, by omega, c_18⟩).symm hP hD hS (lv_sub hl (l' := [(6, .int (nI i)), (5, .int (nI pq)), (4, .int (nI rows)), (3, .int (nI at_)), (2, .int (nI r0)), (1, .int (nI p0)), (0, .ref h0)]) [0, 1, 2, 3, 4, 5, 6] rfl)
            · have hP : va_P D vcl (mW h0 q cB cI cZ I (va_up (va_up (va_up (va_up F 31 f31) 32 f32) 33 f33) 34 f34)) H := hP
              have hD : va_D A (mW h0 q cB cI cZ I (va_up (va_up (va_up (va_up F 31 f31) 32 f32) 33 f33) 34 f34)) := hD
              refine lv_if_eq (tgt := 75) hx hb dX10_bestEnd_68 (by decide) (fun _ => ?_) (fun hno => absurd hno (by decide))
              refine lv_iconst (v := 0) hx hb dX10_bestEnd_75 (by decide) ?_
              exact key 0 H locs ls (pb_0 (fun z => c_18 z.2.2)).symm hP hD hS (lv_sub hl (l' := [(6, .int (nI i)), (5, .int (nI pq)), (4, .int (nI rows)), (3, .int (nI at_)), (2, .int (nI r0)), (1, .int (nI p0)), (0, .ref h0)]) [0, 1, 2, 3, 4, 5, 6] rfl)
