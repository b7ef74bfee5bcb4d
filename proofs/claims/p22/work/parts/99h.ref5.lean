/-- the element that insert makes -/
noncomputable def insE (T : Nat → Int32) (n : Nat) (kd : Int32) (en : Nat) : E5 := (kd, nI en, 0, (tx_sc T n 0 0 0 []).1, (tx_sc T n 0 0 0 []).2)
theorem in6 {x : Int32} (h0 : ¬ x < 0) (h5 : ¬ 5 < x) : kd6 x := by
  obtain ⟨j, hj, e⟩ := nI_of h0
  rw [e] at h5 ⊢
  have h := q_nlt (a := 5) (b := j) (by decide) hj h5
  unfold kd6
  rcases (show j = 0 ∨ j = 1 ∨ j = 2 ∨ j = 3 ∨ j = 4 ∨ j = 5 by omega) with h | h | h | h | h | h <;> subst h <;> decide
noncomputable def rs_nm (K : Nat → Int32) (Fm To Rr Gp : Nat → Nat) (pn mo gg : Nat) : Nat := if rs_num K Fm To Rr Gp pn mo gg = 0 then 1 else rs_num K Fm To Rr Gp pn mo gg
theorem rs_num_le {EE : Nat → E5} {P : List Q4} {ne mo gg : Nat} (hQ : pq_ok ne EE P) (hmo1 : 10 ≤ mo) (hmo : mo ≤ 40) : rs_num (qK EE P) (qF P) (qT P) (qR EE P) (fun p => (P.getD p d4).2.2.2) P.length mo gg ≤ rs_S (qF P) (qT P) P.length := by
  have h1 := rg_first_mono (fun p => (P.getD p d4).2.2.2) gg P.length 0
  have h2 := rg_first_le (fun p => (P.getD p d4).2.2.2) (gg + 1) P.length 0
  have h3 := rs_S_mono (qF P) (qT P) (P.length - rg_first (fun p => (P.getD p d4).2.2.2) (gg + 1) P.length 0) (rg_first (fun p => (P.getD p d4).2.2.2) (gg + 1) P.length 0)
  rw [show rg_first (fun p => (P.getD p d4).2.2.2) (gg + 1) P.length 0 + (P.length - rg_first (fun p => (P.getD p d4).2.2.2) (gg + 1) P.length 0) = P.length by omega] at h3
  have hz : ∀ p, p < P.length → 0 < qT P p - qF P p := fun p hp => by
    have h4 := hQ p hp
    show 0 < (P.getD p d4).2.2.1 - (P.getD p d4).2.1
    omega
  have h5 := (rs_sh_ok (K := qK EE P) (Rr := qR EE P) (fi := rg_first (fun p => (P.getD p d4).2.2.2) gg P.length 0) (fun p hp => hz p (by omega)) hmo1 hmo 8000 (rg_first (fun p => (P.getD p d4).2.2.2) gg P.length 0) 0 h1 (fun h => hz _ (by omega)) (fun _ => rfl)).1
  have h6 := rs_cnt_sh (qK EE P) (qF P) (qT P) (qR EE P) (rg_first (fun p => (P.getD p d4).2.2.2) gg P.length 0) (rg_first (fun p => (P.getD p d4).2.2.2) (gg + 1) P.length 0) mo 8000 (rg_first (fun p => (P.getD p d4).2.2.2) gg P.length 0) 0
  unfold rs_num
  rw [h6]
  omega
abbrev cX10_insert : ByteArray := prog_12_method_42_code
def yX10_insert : MethodName := ⟨RX10, "insert", "(II)I"⟩
theorem k_69 : (Cond.selects RX10 yX10_hasWord yX10_hasWord) ∈ gT := gT_i 69 (by decide +kernel) rfl
theorem k_70 : (Cond.selects RX10 yX10_insertPiece yX10_insertPiece) ∈ gT := gT_i 70 (by decide +kernel) rfl
theorem k_71 : (Cond.selects RX10 yX10_sheetsOf yX10_sheetsOf) ∈ gT := gT_i 71 (by decide +kernel) rfl
theorem k_1436 : (Cond.methodLink RX10 240 yX10_hasWord) ∈ gT := gT_i 1436 (by decide +kernel) rfl
theorem k_1438 : (Cond.instanceMethod yX10_hasWord) ∈ gT := gT_i 1438 (by decide +kernel) rfl
theorem k_1439 : (Cond.code yX10_hasWord cX10_hasWord 2 (some .boolean)) ∈ gT := gT_i 1439 (by decide +kernel) rfl
theorem k_1440 : (Cond.methodLink RX10 244 yX10_insertPiece) ∈ gT := gT_i 1440 (by decide +kernel) rfl
theorem k_1442 : (Cond.instanceMethod yX10_insertPiece) ∈ gT := gT_i 1442 (by decide +kernel) rfl
theorem k_1443 : (Cond.code yX10_insertPiece cX10_insertPiece 4 none) ∈ gT := gT_i 1443 (by decide +kernel) rfl
theorem k_1444 : (Cond.methodLink RX10 247 yX10_sheetsOf) ∈ gT := gT_i 1444 (by decide +kernel) rfl
theorem k_1446 : (Cond.instanceMethod yX10_sheetsOf) ∈ gT := gT_i 1446 (by decide +kernel) rfl
theorem k_1447 : (Cond.code yX10_sheetsOf cX10_sheetsOf 7 (some .int)) ∈ gT := gT_i 1447 (by decide +kernel) rfl
theorem dX10_insert_92 : decode cX10_insert 92 = .ok (.aload_n 0, 1) := by decide +kernel
theorem dX10_insert_93 : decode cX10_insert 93 = .ok (.getfield 50, 3) := by decide +kernel
theorem dX10_insert_96 : decode cX10_insert 96 = .ok (.iload 4, 2) := by decide +kernel
theorem dX10_insert_98 : decode cX10_insert 98 = .ok (.iaload, 1) := by decide +kernel
theorem dX10_insert_99 : decode cX10_insert 99 = .ok (.iload_n 1, 1) := by decide +kernel
theorem dX10_insert_100 : decode cX10_insert 100 = .ok (.if_icmp .eq 9, 3) := by decide +kernel
theorem dX10_insert_103 : decode cX10_insert 103 = .ok (.iinc 4 (-1), 3) := by decide +kernel
theorem dX10_insert_106 : decode cX10_insert 106 = .ok (.goto (-14), 3) := by decide +kernel
theorem dX10_insert_155 : decode cX10_insert 155 = .ok (.iload 5, 2) := by decide +kernel
theorem dX10_insert_157 : decode cX10_insert 157 = .ok (.aload_n 0, 1) := by decide +kernel
theorem dX10_insert_158 : decode cX10_insert 158 = .ok (.getfield 158, 3) := by decide +kernel
theorem dX10_insert_161 : decode cX10_insert 161 = .ok (.if_icmp .ge 73, 3) := by decide +kernel
theorem dX10_insert_164 : decode cX10_insert 164 = .ok (.aload_n 0, 1) := by decide +kernel
theorem dX10_insert_165 : decode cX10_insert 165 = .ok (.getfield 50, 3) := by decide +kernel
theorem dX10_insert_168 : decode cX10_insert 168 = .ok (.iload 5, 2) := by decide +kernel
theorem dX10_insert_170 : decode cX10_insert 170 = .ok (.aload_n 0, 1) := by decide +kernel
theorem dX10_insert_171 : decode cX10_insert 171 = .ok (.getfield 50, 3) := by decide +kernel
theorem dX10_insert_174 : decode cX10_insert 174 = .ok (.iload 5, 2) := by decide +kernel
theorem dX10_insert_176 : decode cX10_insert 176 = .ok (.iconst 1, 1) := by decide +kernel
theorem dX10_insert_177 : decode cX10_insert 177 = .ok (.iadd, 1) := by decide +kernel
theorem dX10_insert_178 : decode cX10_insert 178 = .ok (.iaload, 1) := by decide +kernel
theorem dX10_insert_179 : decode cX10_insert 179 = .ok (.iastore, 1) := by decide +kernel
theorem dX10_insert_180 : decode cX10_insert 180 = .ok (.aload_n 0, 1) := by decide +kernel
theorem dX10_insert_181 : decode cX10_insert 181 = .ok (.getfield 53, 3) := by decide +kernel
theorem dX10_insert_184 : decode cX10_insert 184 = .ok (.iload 5, 2) := by decide +kernel
theorem dX10_insert_186 : decode cX10_insert 186 = .ok (.aload_n 0, 1) := by decide +kernel
theorem dX10_insert_187 : decode cX10_insert 187 = .ok (.getfield 53, 3) := by decide +kernel
theorem dX10_insert_190 : decode cX10_insert 190 = .ok (.iload 5, 2) := by decide +kernel
theorem dX10_insert_192 : decode cX10_insert 192 = .ok (.iconst 1, 1) := by decide +kernel
theorem dX10_insert_193 : decode cX10_insert 193 = .ok (.iadd, 1) := by decide +kernel
theorem dX10_insert_194 : decode cX10_insert 194 = .ok (.iaload, 1) := by decide +kernel
theorem dX10_insert_195 : decode cX10_insert 195 = .ok (.iastore, 1) := by decide +kernel
theorem dX10_insert_196 : decode cX10_insert 196 = .ok (.aload_n 0, 1) := by decide +kernel
theorem dX10_insert_197 : decode cX10_insert 197 = .ok (.getfield 56, 3) := by decide +kernel
theorem dX10_insert_200 : decode cX10_insert 200 = .ok (.iload 5, 2) := by decide +kernel
theorem dX10_insert_202 : decode cX10_insert 202 = .ok (.aload_n 0, 1) := by decide +kernel
theorem dX10_insert_203 : decode cX10_insert 203 = .ok (.getfield 56, 3) := by decide +kernel
theorem dX10_insert_206 : decode cX10_insert 206 = .ok (.iload 5, 2) := by decide +kernel
theorem dX10_insert_208 : decode cX10_insert 208 = .ok (.iconst 1, 1) := by decide +kernel
theorem dX10_insert_209 : decode cX10_insert 209 = .ok (.iadd, 1) := by decide +kernel
theorem dX10_insert_210 : decode cX10_insert 210 = .ok (.iaload, 1) := by decide +kernel
theorem dX10_insert_211 : decode cX10_insert 211 = .ok (.iastore, 1) := by decide +kernel
theorem dX10_insert_212 : decode cX10_insert 212 = .ok (.aload_n 0, 1) := by decide +kernel
theorem dX10_insert_213 : decode cX10_insert 213 = .ok (.getfield 59, 3) := by decide +kernel
theorem dX10_insert_216 : decode cX10_insert 216 = .ok (.iload 5, 2) := by decide +kernel
theorem dX10_insert_218 : decode cX10_insert 218 = .ok (.aload_n 0, 1) := by decide +kernel
theorem dX10_insert_219 : decode cX10_insert 219 = .ok (.getfield 59, 3) := by decide +kernel
theorem dX10_insert_222 : decode cX10_insert 222 = .ok (.iload 5, 2) := by decide +kernel
theorem dX10_insert_224 : decode cX10_insert 224 = .ok (.iconst 1, 1) := by decide +kernel
theorem dX10_insert_225 : decode cX10_insert 225 = .ok (.iadd, 1) := by decide +kernel
theorem dX10_insert_226 : decode cX10_insert 226 = .ok (.iaload, 1) := by decide +kernel
theorem dX10_insert_227 : decode cX10_insert 227 = .ok (.iastore, 1) := by decide +kernel
theorem dX10_insert_228 : decode cX10_insert 228 = .ok (.iinc 5 1, 3) := by decide +kernel
theorem dX10_insert_231 : decode cX10_insert 231 = .ok (.goto (-76), 3) := by decide +kernel
theorem dX10_insert_0 : decode cX10_insert 0 = .ok (.aload_n 0, 1) := by decide +kernel
theorem dX10_insert_1 : decode cX10_insert 1 = .ok (.iload_n 1, 1) := by decide +kernel
theorem dX10_insert_2 : decode cX10_insert 2 = .ok (.invokevirtual 188, 3) := by decide +kernel
theorem dX10_insert_5 : decode cX10_insert 5 = .ok (.ifCond .eq 12, 3) := by decide +kernel
theorem dX10_insert_8 : decode cX10_insert 8 = .ok (.iload_n 2, 1) := by decide +kernel
theorem dX10_insert_9 : decode cX10_insert 9 = .ok (.iconst 0, 1) := by decide +kernel
theorem dX10_insert_10 : decode cX10_insert 10 = .ok (.iconst 5, 1) := by decide +kernel
theorem dX10_insert_11 : decode cX10_insert 11 = .ok (.invokestatic 119, 3) := by decide +kernel
theorem dX10_insert_14 : decode cX10_insert 14 = .ok (.ifCond .ne 6, 3) := by decide +kernel
theorem dX10_insert_17 : decode cX10_insert 17 = .ok (.bipush (-2), 2) := by decide +kernel
theorem dX10_insert_19 : decode cX10_insert 19 = .ok (.ireturn, 1) := by decide +kernel
theorem dX10_insert_20 : decode cX10_insert 20 = .ok (.aload_n 0, 1) := by decide +kernel
theorem dX10_insert_21 : decode cX10_insert 21 = .ok (.getfield 170, 3) := by decide +kernel
theorem dX10_insert_24 : decode cX10_insert 24 = .ok (.ifCond .eq 24, 3) := by decide +kernel
theorem dX10_insert_48 : decode cX10_insert 48 = .ok (.bipush (-3), 2) := by decide +kernel
theorem dX10_insert_50 : decode cX10_insert 50 = .ok (.ireturn, 1) := by decide +kernel
theorem dX10_insert_27 : decode cX10_insert 27 = .ok (.aload_n 0, 1) := by decide +kernel
theorem dX10_insert_28 : decode cX10_insert 28 = .ok (.getfield 28, 3) := by decide +kernel
theorem dX10_insert_31 : decode cX10_insert 31 = .ok (.aload_n 0, 1) := by decide +kernel
theorem dX10_insert_32 : decode cX10_insert 32 = .ok (.getfield 17, 3) := by decide +kernel
theorem dX10_insert_35 : decode cX10_insert 35 = .ok (.iload_n 1, 1) := by decide +kernel
theorem dX10_insert_36 : decode cX10_insert 36 = .ok (.iaload, 1) := by decide +kernel
theorem dX10_insert_37 : decode cX10_insert 37 = .ok (.baload, 1) := by decide +kernel
theorem dX10_insert_38 : decode cX10_insert 38 = .ok (.ifCond .ne 10, 3) := by decide +kernel
theorem dX10_insert_41 : decode cX10_insert 41 = .ok (.aload_n 0, 1) := by decide +kernel
theorem dX10_insert_42 : decode cX10_insert 42 = .ok (.invokevirtual 240, 3) := by decide +kernel
theorem dX10_insert_45 : decode cX10_insert 45 = .ok (.ifCond .ne 6, 3) := by decide +kernel
theorem dX10_insert_51 : decode cX10_insert 51 = .ok (.aload_n 0, 1) := by decide +kernel
theorem dX10_insert_52 : decode cX10_insert 52 = .ok (.getfield 144, 3) := by decide +kernel
theorem dX10_insert_55 : decode cX10_insert 55 = .ok (.bipush 60, 2) := by decide +kernel
theorem dX10_insert_57 : decode cX10_insert 57 = .ok (.if_icmp .ne 6, 3) := by decide +kernel
theorem dX10_insert_63 : decode cX10_insert 63 = .ok (.aload_n 0, 1) := by decide +kernel
theorem dX10_insert_64 : decode cX10_insert 64 = .ok (.iload_n 2, 1) := by decide +kernel
theorem dX10_insert_65 : decode cX10_insert 65 = .ok (.invokevirtual 174, 3) := by decide +kernel
theorem dX10_insert_68 : decode cX10_insert 68 = .ok (.istore_n 3, 1) := by decide +kernel
theorem dX10_insert_69 : decode cX10_insert 69 = .ok (.aload_n 0, 1) := by decide +kernel
theorem dX10_insert_70 : decode cX10_insert 70 = .ok (.iload_n 3, 1) := by decide +kernel
theorem dX10_insert_71 : decode cX10_insert 71 = .ok (.iconst 0, 1) := by decide +kernel
theorem dX10_insert_72 : decode cX10_insert 72 = .ok (.aload_n 0, 1) := by decide +kernel
theorem dX10_insert_73 : decode cX10_insert 73 = .ok (.getfield 123, 3) := by decide +kernel
theorem dX10_insert_76 : decode cX10_insert 76 = .ok (.invokevirtual 177, 3) := by decide +kernel
theorem dX10_insert_79 : decode cX10_insert 79 = .ok (.aload_n 0, 1) := by decide +kernel
theorem dX10_insert_80 : decode cX10_insert 80 = .ok (.iload_n 3, 1) := by decide +kernel
theorem dX10_insert_81 : decode cX10_insert 81 = .ok (.invokevirtual 181, 3) := by decide +kernel
theorem dX10_insert_84 : decode cX10_insert 84 = .ok (.aload_n 0, 1) := by decide +kernel
theorem dX10_insert_85 : decode cX10_insert 85 = .ok (.getfield 158, 3) := by decide +kernel
theorem dX10_insert_88 : decode cX10_insert 88 = .ok (.iconst 1, 1) := by decide +kernel
theorem dX10_insert_89 : decode cX10_insert 89 = .ok (.isub, 1) := by decide +kernel
theorem dX10_insert_90 : decode cX10_insert 90 = .ok (.istore 4, 2) := by decide +kernel
theorem dX10_insert_109 : decode cX10_insert 109 = .ok (.aload_n 0, 1) := by decide +kernel
theorem dX10_insert_110 : decode cX10_insert 110 = .ok (.iload 4, 2) := by decide +kernel
theorem dX10_insert_112 : decode cX10_insert 112 = .ok (.iconst 1, 1) := by decide +kernel
theorem dX10_insert_113 : decode cX10_insert 113 = .ok (.iadd, 1) := by decide +kernel
theorem dX10_insert_114 : decode cX10_insert 114 = .ok (.aload_n 0, 1) := by decide +kernel
theorem dX10_insert_115 : decode cX10_insert 115 = .ok (.getfield 144, 3) := by decide +kernel
theorem dX10_insert_118 : decode cX10_insert 118 = .ok (.iconst 1, 1) := by decide +kernel
theorem dX10_insert_119 : decode cX10_insert 119 = .ok (.isub, 1) := by decide +kernel
theorem dX10_insert_120 : decode cX10_insert 120 = .ok (.invokevirtual 244, 3) := by decide +kernel
theorem dX10_insert_123 : decode cX10_insert 123 = .ok (.aload_n 0, 1) := by decide +kernel
theorem dX10_insert_124 : decode cX10_insert 124 = .ok (.aload_n 0, 1) := by decide +kernel
theorem dX10_insert_125 : decode cX10_insert 125 = .ok (.getfield 59, 3) := by decide +kernel
theorem dX10_insert_128 : decode cX10_insert 128 = .ok (.iload 4, 2) := by decide +kernel
theorem dX10_insert_130 : decode cX10_insert 130 = .ok (.iaload, 1) := by decide +kernel
theorem dX10_insert_131 : decode cX10_insert 131 = .ok (.invokevirtual 247, 3) := by decide +kernel
theorem dX10_insert_134 : decode cX10_insert 134 = .ok (.bipush 27, 2) := by decide +kernel
theorem dX10_insert_136 : decode cX10_insert 136 = .ok (.if_icmp .le 118, 3) := by decide +kernel
theorem dX10_insert_254 : decode cX10_insert 254 = .ok (.aload_n 0, 1) := by decide +kernel
theorem dX10_insert_255 : decode cX10_insert 255 = .ok (.iconst 0, 1) := by decide +kernel
theorem dX10_insert_256 : decode cX10_insert 256 = .ok (.putfield 123, 3) := by decide +kernel
theorem dX10_insert_259 : decode cX10_insert 259 = .ok (.aload_n 0, 1) := by decide +kernel
theorem dX10_insert_260 : decode cX10_insert 260 = .ok (.getfield 144, 3) := by decide +kernel
theorem dX10_insert_263 : decode cX10_insert 263 = .ok (.iconst 1, 1) := by decide +kernel
theorem dX10_insert_264 : decode cX10_insert 264 = .ok (.isub, 1) := by decide +kernel
theorem dX10_insert_265 : decode cX10_insert 265 = .ok (.ireturn, 1) := by decide +kernel
theorem dX10_insert_139 : decode cX10_insert 139 = .ok (.aload_n 0, 1) := by decide +kernel
theorem dX10_insert_140 : decode cX10_insert 140 = .ok (.dup, 1) := by decide +kernel
theorem dX10_insert_141 : decode cX10_insert 141 = .ok (.getfield 158, 3) := by decide +kernel
theorem dX10_insert_144 : decode cX10_insert 144 = .ok (.iconst 1, 1) := by decide +kernel
theorem dX10_insert_145 : decode cX10_insert 145 = .ok (.isub, 1) := by decide +kernel
theorem dX10_insert_146 : decode cX10_insert 146 = .ok (.putfield 158, 3) := by decide +kernel
theorem dX10_insert_149 : decode cX10_insert 149 = .ok (.iload 4, 2) := by decide +kernel
theorem dX10_insert_151 : decode cX10_insert 151 = .ok (.iconst 1, 1) := by decide +kernel
theorem dX10_insert_152 : decode cX10_insert 152 = .ok (.iadd, 1) := by decide +kernel
theorem dX10_insert_153 : decode cX10_insert 153 = .ok (.istore 5, 2) := by decide +kernel
theorem dX10_insert_234 : decode cX10_insert 234 = .ok (.aload_n 0, 1) := by decide +kernel
theorem dX10_insert_235 : decode cX10_insert 235 = .ok (.dup, 1) := by decide +kernel
theorem dX10_insert_236 : decode cX10_insert 236 = .ok (.getfield 144, 3) := by decide +kernel
theorem dX10_insert_239 : decode cX10_insert 239 = .ok (.iconst 1, 1) := by decide +kernel
theorem dX10_insert_240 : decode cX10_insert 240 = .ok (.isub, 1) := by decide +kernel
theorem dX10_insert_241 : decode cX10_insert 241 = .ok (.putfield 144, 3) := by decide +kernel
theorem dX10_insert_244 : decode cX10_insert 244 = .ok (.aload_n 0, 1) := by decide +kernel
theorem dX10_insert_245 : decode cX10_insert 245 = .ok (.getfield 21, 3) := by decide +kernel
theorem dX10_insert_248 : decode cX10_insert 248 = .ok (.iload_n 3, 1) := by decide +kernel
theorem dX10_insert_249 : decode cX10_insert 249 = .ok (.iconst 0, 1) := by decide +kernel
theorem dX10_insert_250 : decode cX10_insert 250 = .ok (.bastore, 1) := by decide +kernel
theorem dX10_insert_251 : decode cX10_insert 251 = .ok (.bipush (-4), 2) := by decide +kernel
theorem dX10_insert_253 : decode cX10_insert 253 = .ok (.ireturn, 1) := by decide +kernel
theorem dX10_insert_60 : decode cX10_insert 60 = .ok (.bipush (-4), 2) := by decide +kernel
theorem dX10_insert_62 : decode cX10_insert 62 = .ok (.ireturn, 1) := by decide +kernel
set_option maxHeartbeats 1000000 in
set_option maxRecDepth 100000 in
theorem li_bk {p : Program} {l : Launch} {e : Env} {R : Room} {s : State} {m : MethodId} {args : Array Value} {below : List Frame} {meth : Method} {c : Code} {cells slots : Nat} {Q : State → Prop} {D : va_G} {A : Nat → Prop} {h0 : Nat} {q : Nat → Nat} {cB cI cZ : ClassId} {I : Nat → Int32} {F : Nat → Nat → Int32} {pn0 j pl t : Nat} {x2 : Int32} {P : List Q4} (hpl9 : P.length = pn0) (hpn : pn0 ≤ 7000) (hpcF : pc_is P (F 15) (F 16) (F 17) (F 18)) (hpb : ∀ i, i < pn0 → (P.getD i d4).1 < 60) (hj60 : j < 60) (hpl : pl < pn0) (hplj : (P.getD pl d4).1 = j) (hlst : ∀ i, pl < i → i < pn0 → ¬ (P.getD i d4).1 = j) (hRf : 0 ≤ R.frames) (hRl : 0 ≤ R.locals) (hRc : cells ≤ R.cells) (hRs : slots ≤ R.slots) (hA : ∀ q : Nat, s.heap.size ≤ q → A q) (hf : CallFix p m c cX10_insert 6 s args gT yX10_insert.cls) (hK : va_K D vcl (mT cB cI cZ) s) :
    ∀ (k : Nat) (i : Nat) (H : Heap) (locs : List Loc) (ls : Array Slot), i = pl + k → i < pn0 →  va_P D vcl (mW h0 q cB cI cZ I F) H → va_D A (mW h0 q cB cI cZ I F) → va_S A s.heap H locs → lv_has ls 6 [(4, .int (nI i)), (3, .int (nI t)), (2, .int x2), (1, .int (nI j)), (0, .ref h0)] →
    (∀  (H : Heap) (locs : List Loc) (ls : Array Slot), va_P D vcl (mW h0 q cB cI cZ I F) H → va_D A (mW h0 q cB cI cZ I F) → va_S A s.heap H locs → lv_has ls 6 [(4, .int (nI pl)), (3, .int (nI t)), (2, .int x2), (1, .int (nI j)), (0, .ref h0)] → W p l e R s m args below meth c H locs cells slots Q (F0 m 109 ls [])) →
    W p l e R s m args below meth c H locs cells slots Q (F0 m 92 ls []) := by
  obtain ⟨hx, hb, hml, hown, hts⟩ := id hf
  intro k
  induction k with
  | zero =>
    intro i H locs ls hik hin hP hD hS hl kk
    have hpbi := hpb i hin
    refine lv_aload_n hx hb dX10_insert_92 rfl (lv_at hl 4 rfl) ?_
    refine va_get (D := D) (ci := 11) (v := .ref (q 15)) (C := RX10) (T := TX10) (N := 48) hx hb hts inX10 hown hK hP 0 rfl rfl 15 (by decide) (hts _ k_1159) (fun _ h9 => h9) rfl dX10_insert_93 ?_
    refine lv_iload hx hb dX10_insert_96 (lv_at hl 0 rfl) ?_
    refine q_ild (X := i) (f := (F 15)) hx hb hK hP 12 1 rfl rfl (by omega) (by decide) dX10_insert_98 ?_
    refine q_seti (y := (nI ((P.getD i d4).1))) (hpcF i (by omega)).1 ?_
    refine lv_iload_n hx hb dX10_insert_99 rfl (lv_at hl 3 rfl) ?_
    refine lv_icmp_eq (tgt := 109) hx hb dX10_insert_100 (by decide) (fun c_1 => ?_) (fun c_1 => ?_)
    · have c_1 := q_eqn (a := (P.getD i d4).1) (b := j) (by omega) (by omega) c_1
      obtain rfl : pl = i := by omega
      exact kk H locs ls hP hD hS (lv_sub hl (l' := [(4, .int (nI pl)), (3, .int (nI t)), (2, .int x2), (1, .int (nI j)), (0, .ref h0)]) [0, 1, 2, 3, 4] rfl)
    · have c_1 := q_nen (a := (P.getD i d4).1) (b := j) (by omega) (by omega) c_1
      exact absurd (show (P.getD i d4).1 = j by rw [show i = pl by omega]; exact hplj) (by omega)
  | succ k ih =>
    intro i H locs ls hik hin hP hD hS hl kk
    have hpbi := hpb i hin
    refine lv_aload_n hx hb dX10_insert_92 rfl (lv_at hl 4 rfl) ?_
    refine va_get (D := D) (ci := 11) (v := .ref (q 15)) (C := RX10) (T := TX10) (N := 48) hx hb hts inX10 hown hK hP 0 rfl rfl 15 (by decide) (hts _ k_1159) (fun _ h9 => h9) rfl dX10_insert_93 ?_
    refine lv_iload hx hb dX10_insert_96 (lv_at hl 0 rfl) ?_
    refine q_ild (X := i) (f := (F 15)) hx hb hK hP 12 1 rfl rfl (by omega) (by decide) dX10_insert_98 ?_
    refine q_seti (y := (nI ((P.getD i d4).1))) (hpcF i (by omega)).1 ?_
    refine lv_iload_n hx hb dX10_insert_99 rfl (lv_at hl 3 rfl) ?_
    refine lv_icmp_eq (tgt := 109) hx hb dX10_insert_100 (by decide) (fun c_1 => ?_) (fun c_1 => ?_)
    · have c_1 := q_eqn (a := (P.getD i d4).1) (b := j) (by omega) (by omega) c_1
      exact absurd (show (P.getD i d4).1 = j by omega) (hlst i (by omega) (by omega))
    · have c_1 := q_nen (a := (P.getD i d4).1) (b := j) (by omega) (by omega) c_1
      refine lv_iinc (v := (nI (i - 1))) (lv' := [(4, .int (nI (i - 1))), (3, .int (nI t)), (2, .int x2), (1, .int (nI j)), (0, .ref h0)]) hx hb dX10_insert_103 hl (k := 0) rfl (sb_m1 (by omega)) (by decide) rfl (fun ls hl => ?_)
      refine lv_goto (tgt := 92) hx hb dX10_insert_106 (by decide) ?_
      exact ih (i - 1) H locs ls (by omega) (by omega) hP hD hS (lv_sub hl (l' := [(4, .int (nI (i - 1))), (3, .int (nI t)), (2, .int x2), (1, .int (nI j)), (0, .ref h0)]) [0, 1, 2, 3, 4] rfl) kk
set_option maxHeartbeats 1000000 in
set_option maxRecDepth 100000 in
theorem li_un {p : Program} {l : Launch} {e : Env} {R : Room} {s : State} {m : MethodId} {args : Array Value} {below : List Frame} {meth : Method} {c : Code} {cells slots : Nat} {Q : State → Prop} {D : va_G} {A : Nat → Prop} {h0 : Nat} {q : Nat → Nat} {cB cI cZ : ClassId} {I : Nat → Int32} {F : Nat → Nat → Int32} {pn0 a_ t : Nat} (hpn : pn0 ≤ 7000) (hI14 : I 14 = nI pn0) (hRf : 0 ≤ R.frames) (hRl : 0 ≤ R.locals) (hRc : cells ≤ R.cells) (hRs : slots ≤ R.slots) (hA : ∀ q : Nat, s.heap.size ≤ q → A q) (hf : CallFix p m c cX10_insert 6 s args gT yX10_insert.cls) (hK : va_K D vcl (mT cB cI cZ) s) :
    ∀ (k : Nat) (i : Nat) (H : Heap) (locs : List Loc) (ls : Array Slot), i + k = pn0 → a_ ≤ i →  va_P D vcl (mW h0 q cB cI cZ I (va_up (va_up (va_up (va_up F 15 (shd (F 15) a_ i)) 16 (shd (F 16) a_ i)) 17 (shd (F 17) a_ i)) 18 (shd (F 18) a_ i))) H → va_D A (mW h0 q cB cI cZ I (va_up (va_up (va_up (va_up F 15 (shd (F 15) a_ i)) 16 (shd (F 16) a_ i)) 17 (shd (F 17) a_ i)) 18 (shd (F 18) a_ i))) → va_S A s.heap H locs → lv_has ls 6 [(5, .int (nI i)), (3, .int (nI t)), (0, .ref h0)] →
    (∀  (H : Heap) (locs : List Loc) (ls : Array Slot), va_P D vcl (mW h0 q cB cI cZ I (va_up (va_up (va_up (va_up F 15 (shd (F 15) a_ pn0)) 16 (shd (F 16) a_ pn0)) 17 (shd (F 17) a_ pn0)) 18 (shd (F 18) a_ pn0))) H → va_D A (mW h0 q cB cI cZ I (va_up (va_up (va_up (va_up F 15 (shd (F 15) a_ pn0)) 16 (shd (F 16) a_ pn0)) 17 (shd (F 17) a_ pn0)) 18 (shd (F 18) a_ pn0))) → va_S A s.heap H locs → lv_has ls 6 [(3, .int (nI t)), (0, .ref h0)] → W p l e R s m args below meth c H locs cells slots Q (F0 m 234 ls [])) →
    W p l e R s m args below meth c H locs cells slots Q (F0 m 155 ls []) := by
  obtain ⟨hx, hb, hml, hown, hts⟩ := id hf
  intro k
  induction k with
  | zero =>
    intro i H locs ls hik hai hP hD hS hl kk
    refine lv_iload hx hb dX10_insert_155 (lv_at hl 0 rfl) ?_
    refine lv_aload_n hx hb dX10_insert_157 rfl (lv_at hl 2 rfl) ?_
    refine va_get (D := D) (ci := 11) (v := .int (I 14)) (C := RX10) (T := TX10) (N := 48) hx hb hts inX10 hown hK hP 0 rfl rfl 14 (by decide) (hts _ k_1158) (fun _ h9 => h9) rfl dX10_insert_158 ?_
    refine q_seti (y := (nI pn0)) hI14 ?_
    refine lv_icmp_ge (tgt := 234) hx hb dX10_insert_161 (by decide) (fun c_1 => ?_) (fun c_1 => ?_)
    · have c_1 := q_le (a := pn0) (b := i) (by omega) (by omega) c_1
      obtain rfl : pn0 = i := by omega
      exact kk H locs ls hP hD hS (lv_sub hl (l' := [(3, .int (nI t)), (0, .ref h0)]) [1, 2] rfl)
    · have c_1 := q_nle (a := pn0) (b := i) (by omega) (by omega) c_1
      exact absurd hik (by omega)
  | succ k ih =>
    intro i H locs ls hik hai hP hD hS hl kk
    refine lv_iload hx hb dX10_insert_155 (lv_at hl 0 rfl) ?_
    refine lv_aload_n hx hb dX10_insert_157 rfl (lv_at hl 2 rfl) ?_
    refine va_get (D := D) (ci := 11) (v := .int (I 14)) (C := RX10) (T := TX10) (N := 48) hx hb hts inX10 hown hK hP 0 rfl rfl 14 (by decide) (hts _ k_1158) (fun _ h9 => h9) rfl dX10_insert_158 ?_
    refine q_seti (y := (nI pn0)) hI14 ?_
    refine lv_icmp_ge (tgt := 234) hx hb dX10_insert_161 (by decide) (fun c_1 => ?_) (fun c_1 => ?_)
    · have c_1 := q_le (a := pn0) (b := i) (by omega) (by omega) c_1
      exact absurd hik (by omega)
    · have c_1 := q_nle (a := pn0) (b := i) (by omega) (by omega) c_1
      refine lv_aload_n hx hb dX10_insert_164 rfl (lv_at hl 2 rfl) ?_
      refine va_get (D := D) (ci := 11) (v := .ref (q 15)) (C := RX10) (T := TX10) (N := 48) hx hb hts inX10 hown hK hP 0 rfl rfl 15 (by decide) (hts _ k_1159) (fun _ h9 => h9) rfl dX10_insert_165 ?_
      refine lv_iload hx hb dX10_insert_168 (lv_at hl 0 rfl) ?_
      refine lv_aload_n hx hb dX10_insert_170 rfl (lv_at hl 2 rfl) ?_
      refine va_get (D := D) (ci := 11) (v := .ref (q 15)) (C := RX10) (T := TX10) (N := 48) hx hb hts inX10 hown hK hP 0 rfl rfl 15 (by decide) (hts _ k_1159) (fun _ h9 => h9) rfl dX10_insert_171 ?_
      refine lv_iload hx hb dX10_insert_174 (lv_at hl 0 rfl) ?_
      refine lv_iconst (v := 1) hx hb dX10_insert_176 (by decide) ?_
      refine lv_iadd hx hb dX10_insert_177 ?_
      refine q_seti (y := nI (i + 1)) (nI_add i 1) ?_
      refine q_ild (X := i + 1) (f := (shd (F 15) a_ i)) hx hb hK hP 12 1 rfl rfl (by omega) (by decide) dX10_insert_178 ?_
      refine q_ist (X := i) (f := (shd (F 15) a_ i)) (x := ((shd (F 15) a_ i) (i + 1))) hx hb hK hP hD hS 12 1 rfl rfl (by omega) (by decide) dX10_insert_179 (fun H locs hP hD hS => ?_)
      have hP : va_P D vcl (mW h0 q cB cI cZ I (va_up (va_up (va_up (va_up F 15 (upd (shd (F 15) a_ i) i ((shd (F 15) a_ i) (i + 1)))) 16 (shd (F 16) a_ i)) 17 (shd (F 17) a_ i)) 18 (shd (F 18) a_ i))) H := hP
      have hD : va_D A (mW h0 q cB cI cZ I (va_up (va_up (va_up (va_up F 15 (upd (shd (F 15) a_ i) i ((shd (F 15) a_ i) (i + 1)))) 16 (shd (F 16) a_ i)) 17 (shd (F 17) a_ i)) 18 (shd (F 18) a_ i))) := hD
      refine lv_aload_n hx hb dX10_insert_180 rfl (lv_at hl 2 rfl) ?_
      refine va_get (D := D) (ci := 11) (v := .ref (q 16)) (C := RX10) (T := TX10) (N := 48) hx hb hts inX10 hown hK hP 0 rfl rfl 16 (by decide) (hts _ k_1160) (fun _ h9 => h9) rfl dX10_insert_181 ?_
      refine lv_iload hx hb dX10_insert_184 (lv_at hl 0 rfl) ?_
      refine lv_aload_n hx hb dX10_insert_186 rfl (lv_at hl 2 rfl) ?_
      refine va_get (D := D) (ci := 11) (v := .ref (q 16)) (C := RX10) (T := TX10) (N := 48) hx hb hts inX10 hown hK hP 0 rfl rfl 16 (by decide) (hts _ k_1160) (fun _ h9 => h9) rfl dX10_insert_187 ?_
      refine lv_iload hx hb dX10_insert_190 (lv_at hl 0 rfl) ?_
      refine lv_iconst (v := 1) hx hb dX10_insert_192 (by decide) ?_
      refine lv_iadd hx hb dX10_insert_193 ?_
      refine q_seti (y := nI (i + 1)) (nI_add i 1) ?_
      refine q_ild (X := i + 1) (f := (shd (F 16) a_ i)) hx hb hK hP 13 1 rfl rfl (by omega) (by decide) dX10_insert_194 ?_
      refine q_ist (X := i) (f := (shd (F 16) a_ i)) (x := ((shd (F 16) a_ i) (i + 1))) hx hb hK hP hD hS 13 1 rfl rfl (by omega) (by decide) dX10_insert_195 (fun H locs hP hD hS => ?_)
      have hP : va_P D vcl (mW h0 q cB cI cZ I (va_up (va_up (va_up (va_up F 15 (upd (shd (F 15) a_ i) i ((shd (F 15) a_ i) (i + 1)))) 16 (upd (shd (F 16) a_ i) i ((shd (F 16) a_ i) (i + 1)))) 17 (shd (F 17) a_ i)) 18 (shd (F 18) a_ i))) H := hP
      have hD : va_D A (mW h0 q cB cI cZ I (va_up (va_up (va_up (va_up F 15 (upd (shd (F 15) a_ i) i ((shd (F 15) a_ i) (i + 1)))) 16 (upd (shd (F 16) a_ i) i ((shd (F 16) a_ i) (i + 1)))) 17 (shd (F 17) a_ i)) 18 (shd (F 18) a_ i))) := hD
      refine lv_aload_n hx hb dX10_insert_196 rfl (lv_at hl 2 rfl) ?_
      refine va_get (D := D) (ci := 11) (v := .ref (q 17)) (C := RX10) (T := TX10) (N := 48) hx hb hts inX10 hown hK hP 0 rfl rfl 17 (by decide) (hts _ k_1161) (fun _ h9 => h9) rfl dX10_insert_197 ?_
      refine lv_iload hx hb dX10_insert_200 (lv_at hl 0 rfl) ?_
      refine lv_aload_n hx hb dX10_insert_202 rfl (lv_at hl 2 rfl) ?_
      refine va_get (D := D) (ci := 11) (v := .ref (q 17)) (C := RX10) (T := TX10) (N := 48) hx hb hts inX10 hown hK hP 0 rfl rfl 17 (by decide) (hts _ k_1161) (fun _ h9 => h9) rfl dX10_insert_203 ?_
      refine lv_iload hx hb dX10_insert_206 (lv_at hl 0 rfl) ?_
      refine lv_iconst (v := 1) hx hb dX10_insert_208 (by decide) ?_
      refine lv_iadd hx hb dX10_insert_209 ?_
      refine q_seti (y := nI (i + 1)) (nI_add i 1) ?_
      refine q_ild (X := i + 1) (f := (shd (F 17) a_ i)) hx hb hK hP 14 1 rfl rfl (by omega) (by decide) dX10_insert_210 ?_
      refine q_ist (X := i) (f := (shd (F 17) a_ i)) (x := ((shd (F 17) a_ i) (i + 1))) hx hb hK hP hD hS 14 1 rfl rfl (by omega) (by decide) dX10_insert_211 (fun H locs hP hD hS => ?_)
      have hP : va_P D vcl (mW h0 q cB cI cZ I (va_up (va_up (va_up (va_up F 15 (upd (shd (F 15) a_ i) i ((shd (F 15) a_ i) (i + 1)))) 16 (upd (shd (F 16) a_ i) i ((shd (F 16) a_ i) (i + 1)))) 17 (upd (shd (F 17) a_ i) i ((shd (F 17) a_ i) (i + 1)))) 18 (shd (F 18) a_ i))) H := hP
      have hD : va_D A (mW h0 q cB cI cZ I (va_up (va_up (va_up (va_up F 15 (upd (shd (F 15) a_ i) i ((shd (F 15) a_ i) (i + 1)))) 16 (upd (shd (F 16) a_ i) i ((shd (F 16) a_ i) (i + 1)))) 17 (upd (shd (F 17) a_ i) i ((shd (F 17) a_ i) (i + 1)))) 18 (shd (F 18) a_ i))) := hD
      refine lv_aload_n hx hb dX10_insert_212 rfl (lv_at hl 2 rfl) ?_
      refine va_get (D := D) (ci := 11) (v := .ref (q 18)) (C := RX10) (T := TX10) (N := 48) hx hb hts inX10 hown hK hP 0 rfl rfl 18 (by decide) (hts _ k_1162) (fun _ h9 => h9) rfl dX10_insert_213 ?_
      refine lv_iload hx hb dX10_insert_216 (lv_at hl 0 rfl) ?_
      refine lv_aload_n hx hb dX10_insert_218 rfl (lv_at hl 2 rfl) ?_
      refine va_get (D := D) (ci := 11) (v := .ref (q 18)) (C := RX10) (T := TX10) (N := 48) hx hb hts inX10 hown hK hP 0 rfl rfl 18 (by decide) (hts _ k_1162) (fun _ h9 => h9) rfl dX10_insert_219 ?_
      refine lv_iload hx hb dX10_insert_222 (lv_at hl 0 rfl) ?_
      refine lv_iconst (v := 1) hx hb dX10_insert_224 (by decide) ?_
      refine lv_iadd hx hb dX10_insert_225 ?_
      refine q_seti (y := nI (i + 1)) (nI_add i 1) ?_
      refine q_ild (X := i + 1) (f := (shd (F 18) a_ i)) hx hb hK hP 15 1 rfl rfl (by omega) (by decide) dX10_insert_226 ?_
      refine q_ist (X := i) (f := (shd (F 18) a_ i)) (x := ((shd (F 18) a_ i) (i + 1))) hx hb hK hP hD hS 15 1 rfl rfl (by omega) (by decide) dX10_insert_227 (fun H locs hP hD hS => ?_)
      have hP : va_P D vcl (mW h0 q cB cI cZ I (va_up (va_up (va_up (va_up F 15 (upd (shd (F 15) a_ i) i ((shd (F 15) a_ i) (i + 1)))) 16 (upd (shd (F 16) a_ i) i ((shd (F 16) a_ i) (i + 1)))) 17 (upd (shd (F 17) a_ i) i ((shd (F 17) a_ i) (i + 1)))) 18 (upd (shd (F 18) a_ i) i ((shd (F 18) a_ i) (i + 1))))) H := hP
      have hD : va_D A (mW h0 q cB cI cZ I (va_up (va_up (va_up (va_up F 15 (upd (shd (F 15) a_ i) i ((shd (F 15) a_ i) (i + 1)))) 16 (upd (shd (F 16) a_ i) i ((shd (F 16) a_ i) (i + 1)))) 17 (upd (shd (F 17) a_ i) i ((shd (F 17) a_ i) (i + 1)))) 18 (upd (shd (F 18) a_ i) i ((shd (F 18) a_ i) (i + 1))))) := hD
      refine lv_iinc (v := (nI (i + 1))) (lv' := [(5, .int (nI (i + 1))), (3, .int (nI t)), (0, .ref h0)]) hx hb dX10_insert_228 hl (k := 0) rfl (nI_add i 1) (by decide) rfl (fun ls hl => ?_)
      refine lv_goto (tgt := 155) hx hb dX10_insert_231 (by decide) ?_
      have hs15 : (upd (shd (F 15) a_ i) i ((shd (F 15) a_ i) (i + 1))) = shd (F 15) a_ (i + 1) := shd_s (by omega)
      have hs16 : (upd (shd (F 16) a_ i) i ((shd (F 16) a_ i) (i + 1))) = shd (F 16) a_ (i + 1) := shd_s (by omega)
      have hs17 : (upd (shd (F 17) a_ i) i ((shd (F 17) a_ i) (i + 1))) = shd (F 17) a_ (i + 1) := shd_s (by omega)
      have hs18 : (upd (shd (F 18) a_ i) i ((shd (F 18) a_ i) (i + 1))) = shd (F 18) a_ (i + 1) := shd_s (by omega)
      rw [hs15, hs16, hs17, hs18] at hP hD
      exact ih (i + 1) H locs ls (by omega) (by omega) hP hD hS (lv_sub hl (l' := [(5, .int (nI (i + 1))), (3, .int (nI t)), (0, .ref h0)]) [0, 1, 2] rfl) kk
set_option maxHeartbeats 4000000 in
set_option maxRecDepth 100000 in
theorem r_insert (l : Launch) (D : va_G) (h0 : Nat) (q : Nat → Nat) (cB cI_ cZ : ClassId) (I : Nat → Int32) (F : Nat → Nat → Int32) (n mo lk : Nat) (Es : List E5) (sl : Nat → Nat) (P : List Q4) (x1 x2 : Int32) (hI1 : I 1 = nI n) (hI2 : I 2 = nI mo) (hI3 : I 3 = nI Es.length) (hI14 : I 14 = nI P.length) (hI20 : I 20 = nI lk) (hlk : lk ≤ 1) (hn : n ≤ 1200) (hmo1 : 10 ≤ mo) (hmo : mo ≤ 40) (hTb : ∀ i, vp_nar .byte (F 0 i) = F 0 i) (hre : reR F Es sl) (hpcF : pc_is P (F 15) (F 16) (F 17) (F 18)) (hQ : pq_ok Es.length (fun e => Es.getD e dE) P) (hpn : P.length ≤ 7000) (hGb : ∀ p, p < P.length → (P.getD p d4).2.2.2 ≤ 8000) (hlast : ∀ j, j < Es.length → 0 < lk → (Es.getD j dE).2.2.1 = 0 → ∃ pl, pl < P.length ∧ (P.getD pl d4).1 = j ∧ ∀ i, pl < i → i < P.length → ¬ (P.getD i d4).1 = j) (hQn : ∀ pl x2, pl < P.length → kd6 x2 → (∃ i, i < n ∧ ¬ tx_gap (F 0 i)) → pq_ok (Es.length + 1) (fun e => (Es ++ [(insE (F 0) n x2 Es.length)]).getD e dE) (lsJ P (pl + 1) (Es.length, 0, (tx_rows x2 (tx_sc (F 0) n 0 0 0 []).2).length, (P.getD pl d4).2.2.2))) (hSn : ∀ pl x2, pl < P.length → kd6 x2 → (∃ i, i < n ∧ ¬ tx_gap (F 0 i)) → rs_S (qF (lsJ P (pl + 1) (Es.length, 0, (tx_rows x2 (tx_sc (F 0) n 0 0 0 []).2).length, (P.getD pl d4).2.2.2))) (qT (lsJ P (pl + 1) (Es.length, 0, (tx_rows x2 (tx_sc (F 0) n 0 0 0 []).2).length, (P.getD pl d4).2.2.2))) (P.length + 1) ≤ 8000) : cI l D yX10_insert cX10_insert 6 (some .int) 5 156 0 0 [.ref h0, .int x1, .int x2] zT (mW h0 q cB cI_ cZ I F) (mT cB cI_ cZ) (fun r u => ((¬ (∃ j : Nat, j < Es.length ∧ x1 = nI j) ∨ x2 < 0 ∨ 5 < x2) ∧ r = (-2) ∧ u = (mW h0 q cB cI_ cZ I F, mT cB cI_ cZ)) ∨ (∃ j : Nat, (j < Es.length ∧ x1 = nI j ∧ kd6 x2) ∧ (lk = 0 ∨ ¬ (Es.getD j dE).2.2.1 = 0 ∨ ¬ (∃ i, i < n ∧ ¬ tx_gap (F 0 i))) ∧ r = (-3) ∧ u = (mW h0 q cB cI_ cZ I F, mT cB cI_ cZ)) ∨ (∃ j : Nat, (j < Es.length ∧ x1 = nI j ∧ kd6 x2) ∧ 0 < lk ∧ (Es.getD j dE).2.2.1 = 0 ∧ (∃ i, i < n ∧ ¬ tx_gap (F 0 i)) ∧ Es.length = 60 ∧ r = (-4) ∧ u = (mW h0 q cB cI_ cZ I F, mT cB cI_ cZ)) ∨ (∃ (j pl t : Nat) (I2 : Nat → Int32) (F2 : Nat → Nat → Int32), (j < Es.length ∧ x1 = nI j ∧ kd6 x2) ∧ (0 < lk ∧ (Es.getD j dE).2.2.1 = 0 ∧ (∃ i, i < n ∧ ¬ tx_gap (F 0 i)) ∧ Es.length < 60) ∧ (pl < P.length ∧ (P.getD pl d4).1 = j ∧ ∀ i, pl < i → i < P.length → ¬ (P.getD i d4).1 = j) ∧ F2 0 = F 0 ∧ (I2 2 = I 2 ∧ I2 19 = I 19 ∧ I2 20 = I 20) ∧ ((27 < rs_nm (qK (fun e => (Es ++ [(insE (F 0) n x2 Es.length)]).getD e dE) (lsJ P (pl + 1) (Es.length, 0, (tx_rows x2 (tx_sc (F 0) n 0 0 0 []).2).length, (P.getD pl d4).2.2.2))) (qF (lsJ P (pl + 1) (Es.length, 0, (tx_rows x2 (tx_sc (F 0) n 0 0 0 []).2).length, (P.getD pl d4).2.2.2))) (qT (lsJ P (pl + 1) (Es.length, 0, (tx_rows x2 (tx_sc (F 0) n 0 0 0 []).2).length, (P.getD pl d4).2.2.2))) (qR (fun e => (Es ++ [(insE (F 0) n x2 Es.length)]).getD e dE) (lsJ P (pl + 1) (Es.length, 0, (tx_rows x2 (tx_sc (F 0) n 0 0 0 []).2).length, (P.getD pl d4).2.2.2))) (fun p => ((lsJ P (pl + 1) (Es.length, 0, (tx_rows x2 (tx_sc (F 0) n 0 0 0 []).2).length, (P.getD pl d4).2.2.2)).getD p d4).2.2.2) (P.length + 1) mo (P.getD pl d4).2.2.2 ∧ r = (-4) ∧ (I2 1 = I 1 ∧ I2 3 = nI Es.length ∧ I2 14 = nI P.length) ∧ reR F2 Es sl ∧ pc_is P (F2 15) (F2 16) (F2 17) (F2 18)) ∨ (rs_nm (qK (fun e => (Es ++ [(insE (F 0) n x2 Es.length)]).getD e dE) (lsJ P (pl + 1) (Es.length, 0, (tx_rows x2 (tx_sc (F 0) n 0 0 0 []).2).length, (P.getD pl d4).2.2.2))) (qF (lsJ P (pl + 1) (Es.length, 0, (tx_rows x2 (tx_sc (F 0) n 0 0 0 []).2).length, (P.getD pl d4).2.2.2))) (qT (lsJ P (pl + 1) (Es.length, 0, (tx_rows x2 (tx_sc (F 0) n 0 0 0 []).2).length, (P.getD pl d4).2.2.2))) (qR (fun e => (Es ++ [(insE (F 0) n x2 Es.length)]).getD e dE) (lsJ P (pl + 1) (Es.length, 0, (tx_rows x2 (tx_sc (F 0) n 0 0 0 []).2).length, (P.getD pl d4).2.2.2))) (fun p => ((lsJ P (pl + 1) (Es.length, 0, (tx_rows x2 (tx_sc (F 0) n 0 0 0 []).2).length, (P.getD pl d4).2.2.2)).getD p d4).2.2.2) (P.length + 1) mo (P.getD pl d4).2.2.2 ≤ 27 ∧ r = nI Es.length ∧ (I2 1 = 0 ∧ I2 3 = nI (Es.length + 1) ∧ I2 14 = nI (P.length + 1)) ∧ reR F2 (Es ++ [(insE (F 0) n x2 Es.length)]) (fun e => if e = Es.length then t else sl e) ∧ pc_is (lsJ P (pl + 1) (Es.length, 0, (tx_rows x2 (tx_sc (F 0) n 0 0 0 []).2).length, (P.getD pl d4).2.2.2)) (F2 15) (F2 16) (F2 17) (F2 18))) ∧ u = (mW h0 q cB cI_ cZ I2 F2, mT cB cI_ cZ))) := by
  refine q_si (by decide) (Nat.le_of_ble_eq_true rfl) ?_
  intro p e s m below meth c A ls hAe hf hr hlocks hin hK hP hD hS hA hZ hl
  obtain ⟨hx, hb, hml, hown, hts⟩ := id hf
  have hl : lv_has ls 6 [(0, .ref h0), (1, .int x1), (2, .int x2)] := hl
  refine lv_aload_n hx hb dX10_insert_0 rfl (lv_at hl 0 rfl) ?_
  refine lv_iload_n hx hb dX10_insert_1 rfl (lv_at hl 1 rfl) ?_
  refine q_ci (k := 0) (n := 0) hK hP hD hS hA (fun hPc hKc hDc => q_rV (As := [.int x1]) (rest := []) hf (r_isElement _ D h0 q cB cI_ cZ I F Es.length x1 hI3 hre.1 _) k_1371 k_1368 k_1370 k_59 k_98 (nA := 1) (by decide +kernel) ⟨Nat.le_of_ble_eq_true rfl, Nat.le_of_ble_eq_true rfl⟩ hK hP (ci := 11) (q0 := 0) rfl rfl rfl hPc hKc hDc (fun _ _ _ _ h => h) (fun _ _ _ => trivial) rfl hl.1 rfl (Nat.le_of_ble_eq_true rfl) dX10_insert_2 ⟨Nat.le_of_ble_eq_true rfl, Nat.le_of_ble_eq_true rfl⟩) (by decide) (by decide) (fun r u H locs hw hK hP hD hS => ?_)
  rcases hw with ⟨⟨c_1, rfl⟩ | ⟨c_1, rfl⟩, rfl⟩
  · have hP : va_P D vcl (mW h0 q cB cI_ cZ I F) H := hP
    have hD : va_D A (mW h0 q cB cI_ cZ I F) := hD
    refine lv_if_eq (tgt := 17) hx hb dX10_insert_5 (by decide) (fun hno => absurd hno (by decide)) (fun _ => ?_)
    obtain ⟨j, hj, rfl⟩ := c_1
    have hre1 := hre.1
    have hslj := (hre.2.1 j hj).2.1
    have hl : lv_has ls 6 [(0, .ref h0), (1, .int (nI j)), (2, .int x2)] := hl
    refine lv_iload_n hx hb dX10_insert_8 rfl (lv_at hl 2 rfl) ?_
    refine lv_iconst (v := 0) hx hb dX10_insert_9 (by decide) ?_
    refine lv_iconst (v := 5) hx hb dX10_insert_10 (by decide) ?_
    refine q_ei (k := 0) (n := 0) hP hS hA (q_rS (wc := []) (tc := []) (As := [.int x2, .int 0, .int 5]) (rest := []) hf (m_X10_in_1 _ D x2 0 5 _) k_1296 k_1294 k_1295 k_98 (nA := 3) (by decide +kernel) ⟨Nat.le_of_ble_eq_true rfl, Nat.le_of_ble_eq_true rfl⟩ (fun k q h => by simp at h) (hK.sub (tys' := []) [] rfl) (A := A) ⟨fun i j p q h => by simp at h, fun k q h => by simp at h⟩ (fun _ _ _ _ h => h) (fun _ _ _ => trivial) rfl hl.1 rfl (Nat.le_of_ble_eq_true rfl) dX10_insert_11 ⟨Nat.le_of_ble_eq_true rfl, Nat.le_of_ble_eq_true rfl⟩) (by decide) (by decide) (fun r u H locs hw hP hS => ?_)
    rcases hw with ⟨c_2, rfl, rfl⟩ | ⟨c_3, c_4, rfl, rfl⟩ | ⟨c_5, c_6, rfl, rfl⟩
    · refine lv_if_ne (tgt := 20) hx hb dX10_insert_14 (by decide) (fun hno => absurd hno (by decide)) (fun _ => ?_)
      refine lv_bipush (v := (-2)) hx hb dX10_insert_17 (by decide) ?_
      exact q_zi hf hr rfl hlocks hK hP hD hS (Nat.le_of_ble_eq_true rfl) (Nat.le_of_ble_eq_true rfl) (Or.inl ⟨Or.inr (Or.inl c_2), rfl, rfl⟩) dX10_insert_19
    · refine lv_if_ne (tgt := 20) hx hb dX10_insert_14 (by decide) (fun hno => absurd hno (by decide)) (fun _ => ?_)
      refine lv_bipush (v := (-2)) hx hb dX10_insert_17 (by decide) ?_
      exact q_zi hf hr rfl hlocks hK hP hD hS (Nat.le_of_ble_eq_true rfl) (Nat.le_of_ble_eq_true rfl) (Or.inl ⟨Or.inr (Or.inr c_4), rfl, rfl⟩) dX10_insert_19
    · refine lv_if_ne (tgt := 20) hx hb dX10_insert_14 (by decide) (fun _ => ?_) (fun hno => absurd hno (by decide))
      refine lv_aload_n hx hb dX10_insert_20 rfl (lv_at hl 0 rfl) ?_
      refine va_get (D := D) (ci := 11) (v := .int (I 20)) (C := RX10) (T := TX10) (N := 48) hx hb hts inX10 hown hK hP 0 rfl rfl 20 (by decide) (hts _ k_1164) (fun _ h9 => h9) rfl dX10_insert_21 ?_
      refine q_seti (y := (nI lk)) hI20 ?_
      refine lv_if_eq (tgt := 48) hx hb dX10_insert_24 (by decide) (fun c_7 => ?_) (fun c_7 => ?_)
      · have c_7 := q_eqn (a := lk) (b := 0) (by omega) (by omega) c_7
        refine lv_bipush (v := (-3)) hx hb dX10_insert_48 (by decide) ?_
        exact q_zi hf hr rfl hlocks hK hP hD hS (Nat.le_of_ble_eq_true rfl) (Nat.le_of_ble_eq_true rfl) (Or.inr (Or.inl ⟨j, ⟨hj, rfl, in6 c_5 c_6⟩, Or.inl (by omega), rfl, rfl⟩)) dX10_insert_50
      · have c_7 := q_nen (a := lk) (b := 0) (by omega) (by omega) c_7
        refine lv_aload_n hx hb dX10_insert_27 rfl (lv_at hl 0 rfl) ?_
        refine va_get (D := D) (ci := 11) (v := .ref (q 7)) (C := RX10) (T := TX10) (N := 48) hx hb hts inX10 hown hK hP 0 rfl rfl 7 (by decide) (hts _ k_1151) (fun _ h9 => h9) rfl dX10_insert_28 ?_
        refine lv_aload_n hx hb dX10_insert_31 rfl (lv_at hl 0 rfl) ?_
        refine va_get (D := D) (ci := 11) (v := .ref (q 4)) (C := RX10) (T := TX10) (N := 48) hx hb hts inX10 hown hK hP 0 rfl rfl 4 (by decide) (hts _ k_1148) (fun _ h9 => h9) rfl dX10_insert_32 ?_
        refine lv_iload_n hx hb dX10_insert_35 rfl (lv_at hl 1 rfl) ?_
        refine q_ild (X := j) (f := (F 4)) hx hb hK hP 2 1 rfl rfl (by omega) (by decide) dX10_insert_36 ?_
        refine q_seti (y := (nI ((sl j)))) (hre.2.1 j (by omega)).1 ?_
        refine q_zld (X := (sl j)) (f := (F 7)) hx hb hK hP 5 2 rfl rfl (by omega) (by decide) dX10_insert_37 ?_
        refine q_seti (y := (Es.getD j dE).2.2.1) (hre.2.1 j hj).2.2.2.2.1 ?_
        refine lv_if_ne (tgt := 48) hx hb dX10_insert_38 (by decide) (fun c_8 => ?_) (fun c_8 => ?_)
        · refine lv_bipush (v := (-3)) hx hb dX10_insert_48 (by decide) ?_
          exact q_zi hf hr rfl hlocks hK hP hD hS (Nat.le_of_ble_eq_true rfl) (Nat.le_of_ble_eq_true rfl) (Or.inr (Or.inl ⟨j, ⟨hj, rfl, in6 c_5 c_6⟩, Or.inr (Or.inl c_8), rfl, rfl⟩)) dX10_insert_50
        · refine lv_aload_n hx hb dX10_insert_41 rfl (lv_at hl 0 rfl) ?_
          refine q_ci (k := 0) (n := 0) hK hP hD hS hA (fun hPc hKc hDc => q_rV (As := []) (rest := []) hf (r_hasWord _ D h0 q cB cI_ cZ I F n hI1 hn _) k_1439 k_1436 k_1438 k_69 k_98 (nA := 0) (by decide +kernel) ⟨Nat.le_of_ble_eq_true rfl, Nat.le_of_ble_eq_true rfl⟩ hK hP (ci := 11) (q0 := 0) rfl rfl rfl hPc hKc hDc (fun _ _ _ _ h => h) (fun _ _ _ => trivial) rfl hl.1 rfl (Nat.le_of_ble_eq_true rfl) dX10_insert_42 ⟨Nat.le_of_ble_eq_true rfl, Nat.le_of_ble_eq_true rfl⟩) (by decide) (by decide) (fun r u H locs hw hK hP hD hS => ?_)
          rcases hw with ⟨⟨c_9, rfl⟩ | ⟨c_9, rfl⟩, rfl⟩
          · have hP : va_P D vcl (mW h0 q cB cI_ cZ I F) H := hP
            have hD : va_D A (mW h0 q cB cI_ cZ I F) := hD
            refine lv_if_ne (tgt := 51) hx hb dX10_insert_45 (by decide) (fun _ => ?_) (fun hno => absurd hno (by decide))
            have hwd := c_9
            have hk0 := c_5
            have hk5 := c_6
            refine lv_aload_n hx hb dX10_insert_51 rfl (lv_at hl 0 rfl) ?_
            refine va_get (D := D) (ci := 11) (v := .int (I 3)) (C := RX10) (T := TX10) (N := 48) hx hb hts inX10 hown hK hP 0 rfl rfl 3 (by decide) (hts _ k_1147) (fun _ h9 => h9) rfl dX10_insert_52 ?_
            refine q_seti (y := (nI (Es.length))) hI3 ?_
            refine lv_bipush (v := 60) hx hb dX10_insert_55 (by decide) ?_
            refine lv_icmp_ne (tgt := 63) hx hb dX10_insert_57 (by decide) (fun c_10 => ?_) (fun c_10 => ?_)
            · have c_10 := q_nen (a := Es.length) (b := 60) (by omega) (by omega) c_10
              obtain ⟨z9, hz60, hz9⟩ := reR_free hre (by omega)
              obtain ⟨pl, hpl, hplj, hlst⟩ := hlast j hj (by omega) c_8
              refine lv_aload_n hx hb dX10_insert_63 rfl (lv_at hl 0 rfl) ?_
              refine lv_iload_n hx hb dX10_insert_64 rfl (lv_at hl 2 rfl) ?_
              refine q_ci (k := 0) (n := 0) hK hP hD hS hA (fun hPc hKc hDc => q_rV (As := [.int x2]) (rest := []) hf (r_newElement _ D h0 q cB cI_ cZ I F z9 Es.length x2 hz60 hz9 hI3 (by omega) _) k_1332 k_1329 k_1331 k_52 k_98 (nA := 1) (by decide +kernel) ⟨Nat.le_of_ble_eq_true rfl, Nat.le_of_ble_eq_true rfl⟩ hK hP (ci := 11) (q0 := 0) rfl rfl rfl hPc hKc hDc (fun _ _ _ _ h => h) (fun _ _ _ => trivial) rfl hl.1 rfl (Nat.le_of_ble_eq_true rfl) dX10_insert_65 ⟨Nat.le_of_ble_eq_true rfl, Nat.le_of_ble_eq_true rfl⟩) (by decide) (by decide) (fun r u H locs hw hK hP hD hS => ?_)
              obtain ⟨t, rfl, ⟨h1, h2, h3⟩, rfl⟩ := hw
              have hP : va_P D vcl (mW h0 q cB cI_ cZ (upd I 3 (nI (Es.length + 1))) (va_up (va_up (va_up (va_up (va_up (va_up (va_up F 4 (upd (F 4) Es.length (nI t))) 5 (upd (F 5) t (vp_nar .boolean 1))) 6 (upd (F 6) t x2)) 7 (upd (F 7) t (vp_nar .boolean 0))) 8 (upd (F 8) t 0)) 9 (upd (F 9) t 0)) 11 (upd (F 11) t 0))) H := hP
              have hD : va_D A (mW h0 q cB cI_ cZ (upd I 3 (nI (Es.length + 1))) (va_up (va_up (va_up (va_up (va_up (va_up (va_up F 4 (upd (F 4) Es.length (nI t))) 5 (upd (F 5) t (vp_nar .boolean 1))) 6 (upd (F 6) t x2)) 7 (upd (F 7) t (vp_nar .boolean 0))) 8 (upd (F 8) t 0)) 9 (upd (F 9) t 0)) 11 (upd (F 11) t 0))) := hD
              have ht60 : t < 60 := by omega
              refine lv_istore_n (lv' := [(3, .int (nI t)), (0, .ref h0), (1, .int (nI j)), (2, .int x2)]) hx hb dX10_insert_68 rfl hl (by decide) rfl (fun ls hl => ?_)
              refine lv_aload_n hx hb dX10_insert_69 rfl (lv_at hl 1 rfl) ?_
              refine lv_iload_n hx hb dX10_insert_70 rfl (lv_at hl 0 rfl) ?_
              refine lv_iconst (v := 0) hx hb dX10_insert_71 (by decide) ?_
              refine lv_aload_n hx hb dX10_insert_72 rfl (lv_at hl 1 rfl) ?_
              refine va_get (D := D) (ci := 11) (v := .int (I 1)) (C := RX10) (T := TX10) (N := 48) hx hb hts inX10 hown hK hP 0 rfl rfl 1 (by decide) (hts _ k_1145) (fun _ h9 => h9) rfl dX10_insert_73 ?_
              refine q_seti (y := (nI n)) hI1 ?_
              refine q_cv (k := 0) (n := 0) hK hP hD hS hA (fun hPc hKc hDc => q_rV (As := [.int (nI t), .int 0, .int (nI n)]) (rest := []) hf (r_words _ D h0 q cB cI_ cZ (upd I 3 (nI (Es.length + 1))) (va_up (va_up (va_up (va_up (va_up (va_up (va_up F 4 (upd (F 4) Es.length (nI t))) 5 (upd (F 5) t (vp_nar .boolean 1))) 6 (upd (F 6) t x2)) 7 (upd (F 7) t (vp_nar .boolean 0))) 8 (upd (F 8) t 0)) 9 (upd (F 9) t 0)) 11 (upd (F 11) t 0)) t n n 0 0 [] ht60 hn (fun i _ => hTb i) (by omega) (by show 0 + n ≤ 1200; omega) (by omega) (fun z => absurd z (Nat.lt_irrefl 0)) (tx_st_of (f8 := upd (F 8) t 0) (f9 := upd (F 9) t 0) (g := F 10) pk_us pk_us (fun i hi => absurd hi (Nat.not_lt_zero i)) rfl rfl rfl) _) k_1340 k_1337 k_1339 k_54 k_98 (nA := 3) (by decide +kernel) ⟨Nat.le_of_ble_eq_true rfl, Nat.le_of_ble_eq_true rfl⟩ hK hP (ci := 11) (q0 := 0) rfl rfl rfl hPc hKc hDc (fun _ _ _ _ h => h) (fun _ _ _ => trivial) rfl hl.1 rfl (Nat.le_of_ble_eq_true rfl) dX10_insert_76 ⟨Nat.le_of_ble_eq_true rfl, Nat.le_of_ble_eq_true rfl⟩) (by decide) (by decide) (fun u H locs hw hK hP hD hS => ?_)
              obtain ⟨w2, X2, f82, f92, g2, a1, a6, rfl⟩ := hw
              have hP : va_P D vcl (mW h0 q cB cI_ cZ (upd I 3 (nI (Es.length + 1))) (va_up (va_up (va_up (va_up (va_up (va_up (va_up (va_up F 4 (upd (F 4) Es.length (nI t))) 5 (upd (F 5) t (vp_nar .boolean 1))) 6 (upd (F 6) t x2)) 7 (upd (F 7) t (vp_nar .boolean 0))) 8 f82) 9 f92) 10 g2) 11 (upd (F 11) t 0))) H := hP
              have hD : va_D A (mW h0 q cB cI_ cZ (upd I 3 (nI (Es.length + 1))) (va_up (va_up (va_up (va_up (va_up (va_up (va_up (va_up F 4 (upd (F 4) Es.length (nI t))) 5 (upd (F 5) t (vp_nar .boolean 1))) 6 (upd (F 6) t x2)) 7 (upd (F 7) t (vp_nar .boolean 0))) 8 f82) 9 f92) 10 g2) 11 (upd (F 11) t 0))) := hD
              have a1 : (w2, X2) = tx_sc (F 0) n 0 0 0 [] := a1
              have hsl0 := (tx_sc_len0 (F 0) n 0).2
              rw [← a1] at hsl0
              have hX2 : X2.length ≤ n := hsl0
              refine lv_aload_n hx hb dX10_insert_79 rfl (lv_at hl 1 rfl) ?_
              refine lv_iload_n hx hb dX10_insert_80 rfl (lv_at hl 0 rfl) ?_
              refine q_cv (k := 0) (n := 0) hK hP hD hS hA (fun hPc hKc hDc => q_rV (As := [.int (nI t)]) (rest := []) hf (r_layRows _ D h0 q cB cI_ cZ (upd I 3 (nI (Es.length + 1))) (va_up (va_up (va_up (va_up (va_up (va_up (va_up (va_up F 4 (upd (F 4) Es.length (nI t))) 5 (upd (F 5) t (vp_nar .boolean 1))) 6 (upd (F 6) t x2)) 7 (upd (F 7) t (vp_nar .boolean 0))) 8 f82) 9 f92) 10 g2) 11 (upd (F 11) t 0)) t X2.length x2 ht60 (by omega) a6.2.1 pk_us ⟨pk_us, trivial, fun _ _ => rfl, fun _ _ => ⟨rfl, rfl⟩⟩ _) k_1348 k_1345 k_1347 k_56 k_98 (nA := 1) (by decide +kernel) ⟨Nat.le_of_ble_eq_true rfl, Nat.le_of_ble_eq_true rfl⟩ hK hP (ci := 11) (q0 := 0) rfl rfl rfl hPc hKc hDc (fun _ _ _ _ h => h) (fun _ _ _ => trivial) rfl hl.1 rfl (Nat.le_of_ble_eq_true rfl) dX10_insert_81 ⟨Nat.le_of_ble_eq_true rfl, Nat.le_of_ble_eq_true rfl⟩) (by decide) (by decide) (fun u H locs hw hK hP hD hS => ?_)
              obtain ⟨Rv2, j11, j12, j13, b1, b2, a5, rfl⟩ := hw
              have hP : va_P D vcl (mW h0 q cB cI_ cZ (upd I 3 (nI (Es.length + 1))) (va_up (va_up (va_up (va_up (va_up (va_up (va_up (va_up (va_up (va_up F 4 (upd (F 4) Es.length (nI t))) 5 (upd (F 5) t (vp_nar .boolean 1))) 6 (upd (F 6) t x2)) 7 (upd (F 7) t (vp_nar .boolean 0))) 8 f82) 9 f92) 10 g2) 11 j11) 12 j12) 13 j13)) H := hP
              have hD : va_D A (mW h0 q cB cI_ cZ (upd I 3 (nI (Es.length + 1))) (va_up (va_up (va_up (va_up (va_up (va_up (va_up (va_up (va_up (va_up F 4 (upd (F 4) Es.length (nI t))) 5 (upd (F 5) t (vp_nar .boolean 1))) 6 (upd (F 6) t x2)) 7 (upd (F 7) t (vp_nar .boolean 0))) 8 f82) 9 f92) 10 g2) 11 j11) 12 j12) 13 j13)) := hD
              have b1 : Rv2 = tx_rows x2 X2 := b1.trans (tx_lay_c (fun i hi => (a6.2.2.1 i hi).trans (by rw [Nat.zero_add])) _ _ _)
              have e1 : w2 = (tx_sc (F 0) n 0 0 0 []).1 := by rw [← a1]
              have e2 : X2 = (tx_sc (F 0) n 0 0 0 []).2 := by rw [← a1]
              have hag : ag F (va_up (va_up (va_up (va_up (va_up (va_up (va_up (va_up (va_up (va_up F 4 (upd (F 4) Es.length (nI t))) 5 (upd (F 5) t (vp_nar .boolean 1))) 6 (upd (F 6) t x2)) 7 (upd (F 7) t (vp_nar .boolean 0))) 8 f82) 9 f92) 10 g2) 11 j11) 12 j12) 13 j13) t := ⟨fun w hw => ⟨pk_un hw, pk_un hw, pk_un hw, (a6.2.2.2.1 w hw).1.trans (pk_un hw), (a6.2.2.2.1 w hw).2.trans (pk_un hw), (a5.2.2.1 w hw).trans (pk_un hw)⟩, a6.2.2.2.2, a5.2.2.2⟩
              have heN : elF (va_up (va_up (va_up (va_up (va_up (va_up (va_up (va_up (va_up (va_up F 4 (upd (F 4) Es.length (nI t))) 5 (upd (F 5) t (vp_nar .boolean 1))) 6 (upd (F 6) t x2)) 7 (upd (F 7) t (vp_nar .boolean 0))) 8 f82) 9 f92) 10 g2) 11 j11) 12 j12) 13 j13) t (insE (F 0) n x2 Es.length) := ⟨pk_us, pk_us, pk_us, a6.1.trans (congrArg nI e1), a6.2.1.trans (by rw [e2]; rfl), by show (tx_sc (F 0) n 0 0 0 []).2.length ≤ 1200; rw [← e2]; omega, fun i hi => (a6.2.2.1 i (by rw [e2]; exact hi)).trans (by rw [e2]; rfl), a5.1.trans (by rw [b1, e2]; rfl), by have h9 := a5.2.1; rw [b1, e2] at h9; exact h9, by have h9 := b2; rw [b1, e2] at h9; exact h9⟩
              have hre2 := reR_new hre ht60 h3 (by omega) hag rfl heN
              refine lv_aload_n hx hb dX10_insert_84 rfl (lv_at hl 1 rfl) ?_
              refine va_get (D := D) (ci := 11) (v := .int (I 14)) (C := RX10) (T := TX10) (N := 48) hx hb hts inX10 hown hK hP 0 rfl rfl 14 (by decide) (hts _ k_1158) (fun _ h9 => h9) rfl dX10_insert_85 ?_
              refine q_seti (y := (nI (P.length))) hI14 ?_
              refine lv_iconst (v := 1) hx hb dX10_insert_88 (by decide) ?_
              refine lv_isub hx hb dX10_insert_89 ?_
              refine q_seti (y := nI ((P.length) - 1)) (pk_sub (a := P.length) (b := 1) (by omega)) ?_
              refine lv_istore (lv' := [(4, .int (nI ((P.length) - 1))), (3, .int (nI t)), (0, .ref h0), (1, .int (nI j)), (2, .int x2)]) hx hb dX10_insert_90 hl (by decide) rfl (fun ls hl => ?_)
              refine li_bk (I := (upd I 3 (nI (Es.length + 1)))) (F := (va_up (va_up (va_up (va_up (va_up (va_up (va_up (va_up (va_up (va_up F 4 (upd (F 4) Es.length (nI t))) 5 (upd (F 5) t (vp_nar .boolean 1))) 6 (upd (F 6) t x2)) 7 (upd (F 7) t (vp_nar .boolean 0))) 8 f82) 9 f92) 10 g2) 11 j11) 12 j12) 13 j13)) (pn0 := P.length) (j := j) (pl := pl) (t := t) (x2 := x2) (P := P) rfl hpn hpcF (fun i hi => Nat.lt_of_lt_of_le (hQ i hi).1 hre.1) (by have := hre.1; omega) hpl hplj hlst (Nat.le_of_ble_eq_true rfl) (Nat.le_of_ble_eq_true rfl) (Nat.le_of_ble_eq_true rfl) (Nat.le_of_ble_eq_true rfl) hA hf hK (P.length - 1 - pl) (P.length - 1) _ _ ls (by omega) (by omega) hP hD hS (lv_sub hl (l' := [(4, .int (nI ((P.length) - 1))), (3, .int (nI t)), (2, .int x2), (1, .int (nI j)), (0, .ref h0)]) [0, 1, 4, 3, 2] rfl) (fun H locs ls hP hD hS hl => ?_)
              refine lv_aload_n hx hb dX10_insert_109 rfl (lv_at hl 4 rfl) ?_
              refine lv_iload hx hb dX10_insert_110 (lv_at hl 0 rfl) ?_
              refine lv_iconst (v := 1) hx hb dX10_insert_112 (by decide) ?_
              refine lv_iadd hx hb dX10_insert_113 ?_
              refine q_seti (y := nI (pl + 1)) (nI_add pl 1) ?_
              refine lv_aload_n hx hb dX10_insert_114 rfl (lv_at hl 4 rfl) ?_
              refine va_get (D := D) (ci := 11) (v := .int (nI (Es.length + 1))) (C := RX10) (T := TX10) (N := 48) hx hb hts inX10 hown hK hP 0 rfl rfl 3 (by decide) (hts _ k_1147) (fun _ h9 => h9) rfl dX10_insert_115 ?_
              refine lv_iconst (v := 1) hx hb dX10_insert_118 (by decide) ?_
              refine lv_isub hx hb dX10_insert_119 ?_
              refine q_seti (y := nI ((Es.length + 1) - 1)) (pk_sub (a := Es.length + 1) (b := 1) (by omega)) ?_
              refine q_seti (y := nI (Es.length)) (congrArg nI (show (Es.length + 1) - 1 = Es.length by omega)) ?_
              refine q_cv (k := 0) (n := 0) hK hP hD hS hA (fun hPc hKc hDc => q_rV (As := [.int (nI (pl + 1)), .int (nI (Es.length))]) (rest := []) hf (r_insertPiece _ D h0 q cB cI_ cZ (upd I 3 (nI (Es.length + 1))) (va_up (va_up (va_up (va_up (va_up (va_up (va_up (va_up (va_up (va_up F 4 (upd (F 4) Es.length (nI t))) 5 (upd (F 5) t (vp_nar .boolean 1))) 6 (upd (F 6) t x2)) 7 (upd (F 7) t (vp_nar .boolean 0))) 8 f82) 9 f92) 10 g2) 11 j11) 12 j12) 13 j13) P.length (pl + 1) Es.length t Rv2.length hI14 hpn (by omega) (by omega) (by omega) pk_us ht60 a5.1 _) k_1443 k_1440 k_1442 k_70 k_98 (nA := 2) (by decide +kernel) ⟨Nat.le_of_ble_eq_true rfl, Nat.le_of_ble_eq_true rfl⟩ hK hP (ci := 11) (q0 := 0) rfl rfl rfl hPc hKc hDc (fun _ _ _ _ h => h) (fun _ _ _ => trivial) rfl hl.1 rfl (Nat.le_of_ble_eq_true rfl) dX10_insert_120 ⟨Nat.le_of_ble_eq_true rfl, Nat.le_of_ble_eq_true rfl⟩) (by decide) (by decide) (fun u H locs hw hK hP hD hS => ?_)
              obtain rfl := hw
              have hP : va_P D vcl (mW h0 q cB cI_ cZ (upd (upd I 3 (nI (Es.length + 1))) 14 (nI (P.length + 1))) (va_up (va_up (va_up (va_up (va_up (va_up (va_up (va_up (va_up (va_up (va_up (va_up (va_up (va_up F 4 (upd (F 4) Es.length (nI t))) 5 (upd (F 5) t (vp_nar .boolean 1))) 6 (upd (F 6) t x2)) 7 (upd (F 7) t (vp_nar .boolean 0))) 8 f82) 9 f92) 10 g2) 11 j11) 12 j12) 13 j13) 15 (upd (shf (F 15) (pl + 1) P.length) (pl + 1) (nI Es.length))) 16 (upd (shf (F 16) (pl + 1) P.length) (pl + 1) 0)) 17 (upd (shf (F 17) (pl + 1) P.length) (pl + 1) (nI Rv2.length))) 18 (upd (shf (F 18) (pl + 1) P.length) (pl + 1) (F 18 ((pl + 1) - 1))))) H := hP
              have hD : va_D A (mW h0 q cB cI_ cZ (upd (upd I 3 (nI (Es.length + 1))) 14 (nI (P.length + 1))) (va_up (va_up (va_up (va_up (va_up (va_up (va_up (va_up (va_up (va_up (va_up (va_up (va_up (va_up F 4 (upd (F 4) Es.length (nI t))) 5 (upd (F 5) t (vp_nar .boolean 1))) 6 (upd (F 6) t x2)) 7 (upd (F 7) t (vp_nar .boolean 0))) 8 f82) 9 f92) 10 g2) 11 j11) 12 j12) 13 j13) 15 (upd (shf (F 15) (pl + 1) P.length) (pl + 1) (nI Es.length))) 16 (upd (shf (F 16) (pl + 1) P.length) (pl + 1) 0)) 17 (upd (shf (F 17) (pl + 1) P.length) (pl + 1) (nI Rv2.length))) 18 (upd (shf (F 18) (pl + 1) P.length) (pl + 1) (F 18 ((pl + 1) - 1))))) := hD
              have hlJ : (lsJ P (pl + 1) (Es.length, 0, (tx_rows x2 (tx_sc (F 0) n 0 0 0 []).2).length, (P.getD pl d4).2.2.2)).length = P.length + 1 := lsJ_len (by omega)
              have hQ2 := hQn pl x2 hpl (in6 hk0 hk5) hwd
              have hS2 := hSn pl x2 hpl (in6 hk0 hk5) hwd
              have hrwn : Rv2.length = (tx_rows x2 (tx_sc (F 0) n 0 0 0 []).2).length := by rw [b1, e2]
              have hpc2 : pc_is (lsJ P (pl + 1) (Es.length, 0, (tx_rows x2 (tx_sc (F 0) n 0 0 0 []).2).length, (P.getD pl d4).2.2.2)) ((va_up (va_up (va_up (va_up (va_up (va_up (va_up (va_up (va_up (va_up (va_up (va_up (va_up (va_up F 4 (upd (F 4) Es.length (nI t))) 5 (upd (F 5) t (vp_nar .boolean 1))) 6 (upd (F 6) t x2)) 7 (upd (F 7) t (vp_nar .boolean 0))) 8 f82) 9 f92) 10 g2) 11 j11) 12 j12) 13 j13) 15 (upd (shf (F 15) (pl + 1) P.length) (pl + 1) (nI Es.length))) 16 (upd (shf (F 16) (pl + 1) P.length) (pl + 1) 0)) 17 (upd (shf (F 17) (pl + 1) P.length) (pl + 1) (nI Rv2.length))) 18 (upd (shf (F 18) (pl + 1) P.length) (pl + 1) (F 18 ((pl + 1) - 1)))) 15) ((va_up (va_up (va_up (va_up (va_up (va_up (va_up (va_up (va_up (va_up (va_up (va_up (va_up (va_up F 4 (upd (F 4) Es.length (nI t))) 5 (upd (F 5) t (vp_nar .boolean 1))) 6 (upd (F 6) t x2)) 7 (upd (F 7) t (vp_nar .boolean 0))) 8 f82) 9 f92) 10 g2) 11 j11) 12 j12) 13 j13) 15 (upd (shf (F 15) (pl + 1) P.length) (pl + 1) (nI Es.length))) 16 (upd (shf (F 16) (pl + 1) P.length) (pl + 1) 0)) 17 (upd (shf (F 17) (pl + 1) P.length) (pl + 1) (nI Rv2.length))) 18 (upd (shf (F 18) (pl + 1) P.length) (pl + 1) (F 18 ((pl + 1) - 1)))) 16) ((va_up (va_up (va_up (va_up (va_up (va_up (va_up (va_up (va_up (va_up (va_up (va_up (va_up (va_up F 4 (upd (F 4) Es.length (nI t))) 5 (upd (F 5) t (vp_nar .boolean 1))) 6 (upd (F 6) t x2)) 7 (upd (F 7) t (vp_nar .boolean 0))) 8 f82) 9 f92) 10 g2) 11 j11) 12 j12) 13 j13) 15 (upd (shf (F 15) (pl + 1) P.length) (pl + 1) (nI Es.length))) 16 (upd (shf (F 16) (pl + 1) P.length) (pl + 1) 0)) 17 (upd (shf (F 17) (pl + 1) P.length) (pl + 1) (nI Rv2.length))) 18 (upd (shf (F 18) (pl + 1) P.length) (pl + 1) (F 18 ((pl + 1) - 1)))) 17) ((va_up (va_up (va_up (va_up (va_up (va_up (va_up (va_up (va_up (va_up (va_up (va_up (va_up (va_up F 4 (upd (F 4) Es.length (nI t))) 5 (upd (F 5) t (vp_nar .boolean 1))) 6 (upd (F 6) t x2)) 7 (upd (F 7) t (vp_nar .boolean 0))) 8 f82) 9 f92) 10 g2) 11 j11) 12 j12) 13 j13) 15 (upd (shf (F 15) (pl + 1) P.length) (pl + 1) (nI Es.length))) 16 (upd (shf (F 16) (pl + 1) P.length) (pl + 1) 0)) 17 (upd (shf (F 17) (pl + 1) P.length) (pl + 1) (nI Rv2.length))) 18 (upd (shf (F 18) (pl + 1) P.length) (pl + 1) (F 18 ((pl + 1) - 1)))) 18) := pc_is_i rfl (by omega) hpcF rfl rfl (congrArg nI hrwn) (by rw [Nat.add_sub_cancel]; exact (hpcF pl hpl).2.2.2)
              have hre3 : reR (va_up (va_up (va_up (va_up (va_up (va_up (va_up (va_up (va_up (va_up (va_up (va_up (va_up (va_up F 4 (upd (F 4) Es.length (nI t))) 5 (upd (F 5) t (vp_nar .boolean 1))) 6 (upd (F 6) t x2)) 7 (upd (F 7) t (vp_nar .boolean 0))) 8 f82) 9 f92) 10 g2) 11 j11) 12 j12) 13 j13) 15 (upd (shf (F 15) (pl + 1) P.length) (pl + 1) (nI Es.length))) 16 (upd (shf (F 16) (pl + 1) P.length) (pl + 1) 0)) 17 (upd (shf (F 17) (pl + 1) P.length) (pl + 1) (nI Rv2.length))) 18 (upd (shf (F 18) (pl + 1) P.length) (pl + 1) (F 18 ((pl + 1) - 1)))) (Es ++ [(insE (F 0) n x2 Es.length)]) (fun e => if e = Es.length then t else sl e) := hre2
              have hpv2 := rp_of hre3 hpc2 (by rw [List.length_append]; exact hQ2) (by rw [hlJ]; omega)
              rw [hlJ] at hpv2
              have hgl := hGb pl hpl
              have hG8 : ∀ p, p < P.length + 1 → ((lsJ P (pl + 1) (Es.length, 0, (tx_rows x2 (tx_sc (F 0) n 0 0 0 []).2).length, (P.getD pl d4).2.2.2)).getD p d4).2.2.2 ≤ 8000 := fun p hp => by
                rw [lsJ_at (by omega)]
                by_cases c8 : p < pl + 1
                · rw [if_pos c8]; exact hGb p (by omega)
                · rw [if_neg c8]
                  by_cases c9 : p = pl + 1
                  · rw [if_pos c9]; exact hgl
                  · rw [if_neg c9]; exact hGb (p - 1) (by omega)
              refine lv_aload_n hx hb dX10_insert_123 rfl (lv_at hl 4 rfl) ?_
              refine lv_aload_n hx hb dX10_insert_124 rfl (lv_at hl 4 rfl) ?_
              refine va_get (D := D) (ci := 11) (v := .ref (q 18)) (C := RX10) (T := TX10) (N := 48) hx hb hts inX10 hown hK hP 0 rfl rfl 18 (by decide) (hts _ k_1162) (fun _ h9 => h9) rfl dX10_insert_125 ?_
              refine lv_iload hx hb dX10_insert_128 (lv_at hl 0 rfl) ?_
              refine q_ild (X := pl) (f := (upd (shf (F 18) (pl + 1) P.length) (pl + 1) (F 18 ((pl + 1) - 1)))) hx hb hK hP 15 1 rfl rfl (by omega) (by decide) dX10_insert_130 ?_
              refine q_seti (y := (nI ((P.getD pl d4).2.2.2))) ((pk_un (by omega)).trans ((shf_lo (by omega)).trans (hpcF pl hpl).2.2.2)) ?_
              refine q_ci (k := 0) (n := 0) hK hP hD hS hA (fun hPc hKc hDc => q_rV (As := [.int (nI ((P.getD pl d4).2.2.2))]) (rest := []) hf (r_sheetsOf _ D h0 q cB cI_ cZ (upd (upd I 3 (nI (Es.length + 1))) 14 (nI (P.length + 1))) (va_up (va_up (va_up (va_up (va_up (va_up (va_up (va_up (va_up (va_up (va_up (va_up (va_up (va_up F 4 (upd (F 4) Es.length (nI t))) 5 (upd (F 5) t (vp_nar .boolean 1))) 6 (upd (F 6) t x2)) 7 (upd (F 7) t (vp_nar .boolean 0))) 8 f82) 9 f92) 10 g2) 11 j11) 12 j12) 13 j13) 15 (upd (shf (F 15) (pl + 1) P.length) (pl + 1) (nI Es.length))) 16 (upd (shf (F 16) (pl + 1) P.length) (pl + 1) 0)) 17 (upd (shf (F 17) (pl + 1) P.length) (pl + 1) (nI Rv2.length))) 18 (upd (shf (F 18) (pl + 1) P.length) (pl + 1) (F 18 ((pl + 1) - 1)))) (P.length + 1) _ _ (qK (fun e => (Es ++ [(insE (F 0) n x2 Es.length)]).getD e dE) (lsJ P (pl + 1) (Es.length, 0, (tx_rows x2 (tx_sc (F 0) n 0 0 0 []).2).length, (P.getD pl d4).2.2.2))) (qF (lsJ P (pl + 1) (Es.length, 0, (tx_rows x2 (tx_sc (F 0) n 0 0 0 []).2).length, (P.getD pl d4).2.2.2))) (qT (lsJ P (pl + 1) (Es.length, 0, (tx_rows x2 (tx_sc (F 0) n 0 0 0 []).2).length, (P.getD pl d4).2.2.2))) (qR (fun e => (Es ++ [(insE (F 0) n x2 Es.length)]).getD e dE) (lsJ P (pl + 1) (Es.length, 0, (tx_rows x2 (tx_sc (F 0) n 0 0 0 []).2).length, (P.getD pl d4).2.2.2))) mo (P.getD pl d4).2.2.2 (fun p => ((lsJ P (pl + 1) (Es.length, 0, (tx_rows x2 (tx_sc (F 0) n 0 0 0 []).2).length, (P.getD pl d4).2.2.2)).getD p d4).2.2.2) hpv2 hI2 hmo1 hmo rfl (fun p hp => ⟨(hpc2 p (by rw [hlJ]; exact hp)).2.2.2, hG8 p hp⟩) (by omega) hS2 (by have h9 := rs_num_le (EE := (fun e => (Es ++ [(insE (F 0) n x2 Es.length)]).getD e dE)) (P := (lsJ P (pl + 1) (Es.length, 0, (tx_rows x2 (tx_sc (F 0) n 0 0 0 []).2).length, (P.getD pl d4).2.2.2))) (gg := (P.getD pl d4).2.2.2) hQ2 hmo1 hmo; rw [hlJ] at h9; exact Nat.le_trans h9 hS2) _) k_1447 k_1444 k_1446 k_71 k_98 (nA := 1) (by decide +kernel) ⟨Nat.le_of_ble_eq_true rfl, Nat.le_of_ble_eq_true rfl⟩ hK hP (ci := 11) (q0 := 0) rfl rfl rfl hPc hKc hDc (fun _ _ _ _ h => h) (fun _ _ _ => trivial) rfl hl.1 rfl (Nat.le_of_ble_eq_true rfl) dX10_insert_131 ⟨Nat.le_of_ble_eq_true rfl, Nat.le_of_ble_eq_true rfl⟩) (by decide) (by decide) (fun r u H locs hw hK hP hD hS => ?_)
              obtain ⟨v1, v2, v3, hr9, rfl⟩ := hw
              obtain ⟨ns, hns, rfl⟩ : ∃ ns : Nat, ns = rs_nm (qK (fun e => (Es ++ [(insE (F 0) n x2 Es.length)]).getD e dE) (lsJ P (pl + 1) (Es.length, 0, (tx_rows x2 (tx_sc (F 0) n 0 0 0 []).2).length, (P.getD pl d4).2.2.2))) (qF (lsJ P (pl + 1) (Es.length, 0, (tx_rows x2 (tx_sc (F 0) n 0 0 0 []).2).length, (P.getD pl d4).2.2.2))) (qT (lsJ P (pl + 1) (Es.length, 0, (tx_rows x2 (tx_sc (F 0) n 0 0 0 []).2).length, (P.getD pl d4).2.2.2))) (qR (fun e => (Es ++ [(insE (F 0) n x2 Es.length)]).getD e dE) (lsJ P (pl + 1) (Es.length, 0, (tx_rows x2 (tx_sc (F 0) n 0 0 0 []).2).length, (P.getD pl d4).2.2.2))) (fun p => ((lsJ P (pl + 1) (Es.length, 0, (tx_rows x2 (tx_sc (F 0) n 0 0 0 []).2).length, (P.getD pl d4).2.2.2)).getD p d4).2.2.2) (P.length + 1) mo (P.getD pl d4).2.2.2 ∧ r = nI ns := ⟨_, rfl, hr9⟩
              have hP : va_P D vcl (mW h0 q cB cI_ cZ (upd (upd (upd (upd (upd I 3 (nI (Es.length + 1))) 14 (nI (P.length + 1))) 25 v1) 26 v2) 27 v3) (va_up (va_up (va_up (va_up (va_up (va_up (va_up (va_up (va_up (va_up (va_up (va_up (va_up (va_up F 4 (upd (F 4) Es.length (nI t))) 5 (upd (F 5) t (vp_nar .boolean 1))) 6 (upd (F 6) t x2)) 7 (upd (F 7) t (vp_nar .boolean 0))) 8 f82) 9 f92) 10 g2) 11 j11) 12 j12) 13 j13) 15 (upd (shf (F 15) (pl + 1) P.length) (pl + 1) (nI Es.length))) 16 (upd (shf (F 16) (pl + 1) P.length) (pl + 1) 0)) 17 (upd (shf (F 17) (pl + 1) P.length) (pl + 1) (nI Rv2.length))) 18 (upd (shf (F 18) (pl + 1) P.length) (pl + 1) (F 18 ((pl + 1) - 1))))) H := hP
              have hD : va_D A (mW h0 q cB cI_ cZ (upd (upd (upd (upd (upd I 3 (nI (Es.length + 1))) 14 (nI (P.length + 1))) 25 v1) 26 v2) 27 v3) (va_up (va_up (va_up (va_up (va_up (va_up (va_up (va_up (va_up (va_up (va_up (va_up (va_up (va_up F 4 (upd (F 4) Es.length (nI t))) 5 (upd (F 5) t (vp_nar .boolean 1))) 6 (upd (F 6) t x2)) 7 (upd (F 7) t (vp_nar .boolean 0))) 8 f82) 9 f92) 10 g2) 11 j11) 12 j12) 13 j13) 15 (upd (shf (F 15) (pl + 1) P.length) (pl + 1) (nI Es.length))) 16 (upd (shf (F 16) (pl + 1) P.length) (pl + 1) 0)) 17 (upd (shf (F 17) (pl + 1) P.length) (pl + 1) (nI Rv2.length))) 18 (upd (shf (F 18) (pl + 1) P.length) (pl + 1) (F 18 ((pl + 1) - 1))))) := hD
              have hns8 : ns ≤ 8000 := by
                have h9 := rs_num_le (EE := (fun e => (Es ++ [(insE (F 0) n x2 Es.length)]).getD e dE)) (P := (lsJ P (pl + 1) (Es.length, 0, (tx_rows x2 (tx_sc (F 0) n 0 0 0 []).2).length, (P.getD pl d4).2.2.2))) (gg := (P.getD pl d4).2.2.2) hQ2 hmo1 hmo
                rw [hlJ] at h9
                rw [hns]; unfold rs_nm; split <;> omega
              refine lv_bipush (v := 27) hx hb dX10_insert_134 (by decide) ?_
              refine lv_icmp_le (tgt := 254) hx hb dX10_insert_136 (by decide) (fun c_11 => ?_) (fun c_11 => ?_)
              · have c_11 := q_le (a := ns) (b := 27) (by omega) (by omega) c_11
                refine lv_aload_n hx hb dX10_insert_254 rfl (lv_at hl 4 rfl) ?_
                refine lv_iconst (v := 0) hx hb dX10_insert_255 (by decide) ?_
                refine va_put (D := D) (ci := 11) (v := .int 0) (ty := .int) (C := RX10) (T := TX10) (N := 48) hx hb hts inX10 tyX10 tyX10_ok nmX10 hown hK hP hD hS 0 rfl rfl 1 (by decide) (hts _ k_1145) (fun _ h9 => h9) rfl (by decide +kernel) rfl rfl (Nat.le_of_ble_eq_true rfl) dX10_insert_256 (fun H locs hP hD hS => ?_)
                have hP : va_P D vcl (mW h0 q cB cI_ cZ (upd (upd (upd (upd (upd (upd I 1 0) 3 (nI (Es.length + 1))) 14 (nI (P.length + 1))) 25 v1) 26 v2) 27 v3) (va_up (va_up (va_up (va_up (va_up (va_up (va_up (va_up (va_up (va_up (va_up (va_up (va_up (va_up F 4 (upd (F 4) Es.length (nI t))) 5 (upd (F 5) t (vp_nar .boolean 1))) 6 (upd (F 6) t x2)) 7 (upd (F 7) t (vp_nar .boolean 0))) 8 f82) 9 f92) 10 g2) 11 j11) 12 j12) 13 j13) 15 (upd (shf (F 15) (pl + 1) P.length) (pl + 1) (nI Es.length))) 16 (upd (shf (F 16) (pl + 1) P.length) (pl + 1) 0)) 17 (upd (shf (F 17) (pl + 1) P.length) (pl + 1) (nI Rv2.length))) 18 (upd (shf (F 18) (pl + 1) P.length) (pl + 1) (F 18 ((pl + 1) - 1))))) H := hP
                have hD : va_D A (mW h0 q cB cI_ cZ (upd (upd (upd (upd (upd (upd I 1 0) 3 (nI (Es.length + 1))) 14 (nI (P.length + 1))) 25 v1) 26 v2) 27 v3) (va_up (va_up (va_up (va_up (va_up (va_up (va_up (va_up (va_up (va_up (va_up (va_up (va_up (va_up F 4 (upd (F 4) Es.length (nI t))) 5 (upd (F 5) t (vp_nar .boolean 1))) 6 (upd (F 6) t x2)) 7 (upd (F 7) t (vp_nar .boolean 0))) 8 f82) 9 f92) 10 g2) 11 j11) 12 j12) 13 j13) 15 (upd (shf (F 15) (pl + 1) P.length) (pl + 1) (nI Es.length))) 16 (upd (shf (F 16) (pl + 1) P.length) (pl + 1) 0)) 17 (upd (shf (F 17) (pl + 1) P.length) (pl + 1) (nI Rv2.length))) 18 (upd (shf (F 18) (pl + 1) P.length) (pl + 1) (F 18 ((pl + 1) - 1))))) := hD
                refine lv_aload_n hx hb dX10_insert_259 rfl (lv_at hl 4 rfl) ?_
                refine va_get (D := D) (ci := 11) (v := .int (nI (Es.length + 1))) (C := RX10) (T := TX10) (N := 48) hx hb hts inX10 hown hK hP 0 rfl rfl 3 (by decide) (hts _ k_1147) (fun _ h9 => h9) rfl dX10_insert_260 ?_
                refine lv_iconst (v := 1) hx hb dX10_insert_263 (by decide) ?_
                refine lv_isub hx hb dX10_insert_264 ?_
                refine q_seti (y := nI ((Es.length + 1) - 1)) (pk_sub (a := Es.length + 1) (b := 1) (by omega)) ?_
                refine q_seti (y := nI (Es.length)) (congrArg nI (show (Es.length + 1) - 1 = Es.length by omega)) ?_
                exact q_zi hf hr rfl hlocks hK hP hD hS (Nat.le_of_ble_eq_true rfl) (Nat.le_of_ble_eq_true rfl) (Or.inr (Or.inr (Or.inr ⟨j, pl, t, (upd (upd (upd (upd (upd (upd I 1 0) 3 (nI (Es.length + 1))) 14 (nI (P.length + 1))) 25 v1) 26 v2) 27 v3), (va_up (va_up (va_up (va_up (va_up (va_up (va_up (va_up (va_up (va_up (va_up (va_up (va_up (va_up F 4 (upd (F 4) Es.length (nI t))) 5 (upd (F 5) t (vp_nar .boolean 1))) 6 (upd (F 6) t x2)) 7 (upd (F 7) t (vp_nar .boolean 0))) 8 f82) 9 f92) 10 g2) 11 j11) 12 j12) 13 j13) 15 (upd (shf (F 15) (pl + 1) P.length) (pl + 1) (nI Es.length))) 16 (upd (shf (F 16) (pl + 1) P.length) (pl + 1) 0)) 17 (upd (shf (F 17) (pl + 1) P.length) (pl + 1) (nI Rv2.length))) 18 (upd (shf (F 18) (pl + 1) P.length) (pl + 1) (F 18 ((pl + 1) - 1)))), ⟨hj, rfl, in6 c_5 c_6⟩, ⟨by omega, c_8, hwd, by omega⟩, ⟨hpl, hplj, hlst⟩, rfl, ⟨rfl, rfl, rfl⟩, Or.inr ⟨by rw [← hns]; omega, rfl, ⟨rfl, rfl, rfl⟩, hre3, hpc2⟩, rfl⟩))) dX10_insert_265
              · have c_11 := q_nle (a := ns) (b := 27) (by omega) (by omega) c_11
                refine lv_aload_n hx hb dX10_insert_139 rfl (lv_at hl 4 rfl) ?_
                refine lv_dup hx hb dX10_insert_140 rfl ?_
                refine va_get (D := D) (ci := 11) (v := .int (nI (P.length + 1))) (C := RX10) (T := TX10) (N := 48) hx hb hts inX10 hown hK hP 0 rfl rfl 14 (by decide) (hts _ k_1158) (fun _ h9 => h9) rfl dX10_insert_141 ?_
                refine lv_iconst (v := 1) hx hb dX10_insert_144 (by decide) ?_
                refine lv_isub hx hb dX10_insert_145 ?_
                refine q_seti (y := nI ((P.length + 1) - 1)) (pk_sub (a := P.length + 1) (b := 1) (by omega)) ?_
                refine q_seti (y := nI (P.length)) (congrArg nI (show (P.length + 1) - 1 = P.length by omega)) ?_
                refine va_put (D := D) (ci := 11) (v := .int (nI (P.length))) (ty := .int) (C := RX10) (T := TX10) (N := 48) hx hb hts inX10 tyX10 tyX10_ok nmX10 hown hK hP hD hS 0 rfl rfl 14 (by decide) (hts _ k_1158) (fun _ h9 => h9) rfl (by decide +kernel) rfl rfl (Nat.le_of_ble_eq_true rfl) dX10_insert_146 (fun H locs hP hD hS => ?_)
                have hP : va_P D vcl (mW h0 q cB cI_ cZ (upd (upd (upd (upd (upd I 3 (nI (Es.length + 1))) 14 (nI (P.length))) 25 v1) 26 v2) 27 v3) (va_up (va_up (va_up (va_up (va_up (va_up (va_up (va_up (va_up (va_up (va_up (va_up (va_up (va_up F 4 (upd (F 4) Es.length (nI t))) 5 (upd (F 5) t (vp_nar .boolean 1))) 6 (upd (F 6) t x2)) 7 (upd (F 7) t (vp_nar .boolean 0))) 8 f82) 9 f92) 10 g2) 11 j11) 12 j12) 13 j13) 15 (upd (shf (F 15) (pl + 1) P.length) (pl + 1) (nI Es.length))) 16 (upd (shf (F 16) (pl + 1) P.length) (pl + 1) 0)) 17 (upd (shf (F 17) (pl + 1) P.length) (pl + 1) (nI Rv2.length))) 18 (upd (shf (F 18) (pl + 1) P.length) (pl + 1) (F 18 ((pl + 1) - 1))))) H := hP
                have hD : va_D A (mW h0 q cB cI_ cZ (upd (upd (upd (upd (upd I 3 (nI (Es.length + 1))) 14 (nI (P.length))) 25 v1) 26 v2) 27 v3) (va_up (va_up (va_up (va_up (va_up (va_up (va_up (va_up (va_up (va_up (va_up (va_up (va_up (va_up F 4 (upd (F 4) Es.length (nI t))) 5 (upd (F 5) t (vp_nar .boolean 1))) 6 (upd (F 6) t x2)) 7 (upd (F 7) t (vp_nar .boolean 0))) 8 f82) 9 f92) 10 g2) 11 j11) 12 j12) 13 j13) 15 (upd (shf (F 15) (pl + 1) P.length) (pl + 1) (nI Es.length))) 16 (upd (shf (F 16) (pl + 1) P.length) (pl + 1) 0)) 17 (upd (shf (F 17) (pl + 1) P.length) (pl + 1) (nI Rv2.length))) 18 (upd (shf (F 18) (pl + 1) P.length) (pl + 1) (F 18 ((pl + 1) - 1))))) := hD
                refine lv_iload hx hb dX10_insert_149 (lv_at hl 0 rfl) ?_
                refine lv_iconst (v := 1) hx hb dX10_insert_151 (by decide) ?_
                refine lv_iadd hx hb dX10_insert_152 ?_
                refine q_seti (y := nI (pl + 1)) (nI_add pl 1) ?_
                refine lv_istore (lv' := [(5, .int (nI (pl + 1))), (4, .int (nI pl)), (3, .int (nI t)), (2, .int x2), (1, .int (nI j)), (0, .ref h0)]) hx hb dX10_insert_153 hl (by decide) rfl (fun ls hl => ?_)
                have hz9 : (va_up (va_up (va_up (va_up (va_up (va_up (va_up (va_up (va_up (va_up (va_up (va_up (va_up (va_up F 4 (upd (F 4) Es.length (nI t))) 5 (upd (F 5) t (vp_nar .boolean 1))) 6 (upd (F 6) t x2)) 7 (upd (F 7) t (vp_nar .boolean 0))) 8 f82) 9 f92) 10 g2) 11 j11) 12 j12) 13 j13) 15 (upd (shf (F 15) (pl + 1) P.length) (pl + 1) (nI Es.length))) 16 (upd (shf (F 16) (pl + 1) P.length) (pl + 1) 0)) 17 (upd (shf (F 17) (pl + 1) P.length) (pl + 1) (nI Rv2.length))) 18 (upd (shf (F 18) (pl + 1) P.length) (pl + 1) (F 18 ((pl + 1) - 1)))) = va_up (va_up (va_up (va_up (va_up (va_up (va_up (va_up (va_up (va_up (va_up (va_up (va_up (va_up (va_up (va_up (va_up (va_up F 4 (upd (F 4) Es.length (nI t))) 5 (upd (F 5) t (vp_nar .boolean 1))) 6 (upd (F 6) t x2)) 7 (upd (F 7) t (vp_nar .boolean 0))) 8 f82) 9 f92) 10 g2) 11 j11) 12 j12) 13 j13) 15 (upd (shf (F 15) (pl + 1) P.length) (pl + 1) (nI Es.length))) 16 (upd (shf (F 16) (pl + 1) P.length) (pl + 1) 0)) 17 (upd (shf (F 17) (pl + 1) P.length) (pl + 1) (nI Rv2.length))) 18 (upd (shf (F 18) (pl + 1) P.length) (pl + 1) (F 18 ((pl + 1) - 1)))) 15 (shd ((va_up (va_up (va_up (va_up (va_up (va_up (va_up (va_up (va_up (va_up (va_up (va_up (va_up (va_up F 4 (upd (F 4) Es.length (nI t))) 5 (upd (F 5) t (vp_nar .boolean 1))) 6 (upd (F 6) t x2)) 7 (upd (F 7) t (vp_nar .boolean 0))) 8 f82) 9 f92) 10 g2) 11 j11) 12 j12) 13 j13) 15 (upd (shf (F 15) (pl + 1) P.length) (pl + 1) (nI Es.length))) 16 (upd (shf (F 16) (pl + 1) P.length) (pl + 1) 0)) 17 (upd (shf (F 17) (pl + 1) P.length) (pl + 1) (nI Rv2.length))) 18 (upd (shf (F 18) (pl + 1) P.length) (pl + 1) (F 18 ((pl + 1) - 1)))) 15) (pl + 1) (pl + 1))) 16 (shd ((va_up (va_up (va_up (va_up (va_up (va_up (va_up (va_up (va_up (va_up (va_up (va_up (va_up (va_up F 4 (upd (F 4) Es.length (nI t))) 5 (upd (F 5) t (vp_nar .boolean 1))) 6 (upd (F 6) t x2)) 7 (upd (F 7) t (vp_nar .boolean 0))) 8 f82) 9 f92) 10 g2) 11 j11) 12 j12) 13 j13) 15 (upd (shf (F 15) (pl + 1) P.length) (pl + 1) (nI Es.length))) 16 (upd (shf (F 16) (pl + 1) P.length) (pl + 1) 0)) 17 (upd (shf (F 17) (pl + 1) P.length) (pl + 1) (nI Rv2.length))) 18 (upd (shf (F 18) (pl + 1) P.length) (pl + 1) (F 18 ((pl + 1) - 1)))) 16) (pl + 1) (pl + 1))) 17 (shd ((va_up (va_up (va_up (va_up (va_up (va_up (va_up (va_up (va_up (va_up (va_up (va_up (va_up (va_up F 4 (upd (F 4) Es.length (nI t))) 5 (upd (F 5) t (vp_nar .boolean 1))) 6 (upd (F 6) t x2)) 7 (upd (F 7) t (vp_nar .boolean 0))) 8 f82) 9 f92) 10 g2) 11 j11) 12 j12) 13 j13) 15 (upd (shf (F 15) (pl + 1) P.length) (pl + 1) (nI Es.length))) 16 (upd (shf (F 16) (pl + 1) P.length) (pl + 1) 0)) 17 (upd (shf (F 17) (pl + 1) P.length) (pl + 1) (nI Rv2.length))) 18 (upd (shf (F 18) (pl + 1) P.length) (pl + 1) (F 18 ((pl + 1) - 1)))) 17) (pl + 1) (pl + 1))) 18 (shd ((va_up (va_up (va_up (va_up (va_up (va_up (va_up (va_up (va_up (va_up (va_up (va_up (va_up (va_up F 4 (upd (F 4) Es.length (nI t))) 5 (upd (F 5) t (vp_nar .boolean 1))) 6 (upd (F 6) t x2)) 7 (upd (F 7) t (vp_nar .boolean 0))) 8 f82) 9 f92) 10 g2) 11 j11) 12 j12) 13 j13) 15 (upd (shf (F 15) (pl + 1) P.length) (pl + 1) (nI Es.length))) 16 (upd (shf (F 16) (pl + 1) P.length) (pl + 1) 0)) 17 (upd (shf (F 17) (pl + 1) P.length) (pl + 1) (nI Rv2.length))) 18 (upd (shf (F 18) (pl + 1) P.length) (pl + 1) (F 18 ((pl + 1) - 1)))) 18) (pl + 1) (pl + 1)) := by rw [shd_0, shd_0, shd_0, shd_0, va_up_id9, va_up_id9, va_up_id9, va_up_id9]
                obtain ⟨hP, hD⟩ := q_set4 hz9 hP hD
                refine li_un (I := (upd (upd (upd (upd (upd I 3 (nI (Es.length + 1))) 14 (nI (P.length))) 25 v1) 26 v2) 27 v3)) (F := (va_up (va_up (va_up (va_up (va_up (va_up (va_up (va_up (va_up (va_up (va_up (va_up (va_up (va_up F 4 (upd (F 4) Es.length (nI t))) 5 (upd (F 5) t (vp_nar .boolean 1))) 6 (upd (F 6) t x2)) 7 (upd (F 7) t (vp_nar .boolean 0))) 8 f82) 9 f92) 10 g2) 11 j11) 12 j12) 13 j13) 15 (upd (shf (F 15) (pl + 1) P.length) (pl + 1) (nI Es.length))) 16 (upd (shf (F 16) (pl + 1) P.length) (pl + 1) 0)) 17 (upd (shf (F 17) (pl + 1) P.length) (pl + 1) (nI Rv2.length))) 18 (upd (shf (F 18) (pl + 1) P.length) (pl + 1) (F 18 ((pl + 1) - 1))))) (pn0 := P.length) (a_ := pl + 1) (t := t) hpn rfl (Nat.le_of_ble_eq_true rfl) (Nat.le_of_ble_eq_true rfl) (Nat.le_of_ble_eq_true rfl) (Nat.le_of_ble_eq_true rfl) hA hf hK (P.length - (pl + 1)) (pl + 1) _ _ ls (by omega) (Nat.le_refl _) hP hD hS (lv_sub hl (l' := [(5, .int (nI (pl + 1))), (3, .int (nI t)), (0, .ref h0)]) [0, 2, 5] rfl) (fun H locs ls hP hD hS hl => ?_)
                have hP : va_P D vcl (mW h0 q cB cI_ cZ (upd (upd (upd (upd (upd I 3 (nI (Es.length + 1))) 14 (nI (P.length))) 25 v1) 26 v2) 27 v3) (va_up (va_up (va_up (va_up (va_up (va_up (va_up (va_up (va_up (va_up (va_up (va_up (va_up (va_up F 4 (upd (F 4) Es.length (nI t))) 5 (upd (F 5) t (vp_nar .boolean 1))) 6 (upd (F 6) t x2)) 7 (upd (F 7) t (vp_nar .boolean 0))) 8 f82) 9 f92) 10 g2) 11 j11) 12 j12) 13 j13) 15 (shd (upd (shf (F 15) (pl + 1) P.length) (pl + 1) (nI Es.length)) (pl + 1) P.length)) 16 (shd (upd (shf (F 16) (pl + 1) P.length) (pl + 1) 0) (pl + 1) P.length)) 17 (shd (upd (shf (F 17) (pl + 1) P.length) (pl + 1) (nI Rv2.length)) (pl + 1) P.length)) 18 (shd (upd (shf (F 18) (pl + 1) P.length) (pl + 1) (F 18 ((pl + 1) - 1))) (pl + 1) P.length))) H := hP
                have hD : va_D A (mW h0 q cB cI_ cZ (upd (upd (upd (upd (upd I 3 (nI (Es.length + 1))) 14 (nI (P.length))) 25 v1) 26 v2) 27 v3) (va_up (va_up (va_up (va_up (va_up (va_up (va_up (va_up (va_up (va_up (va_up (va_up (va_up (va_up F 4 (upd (F 4) Es.length (nI t))) 5 (upd (F 5) t (vp_nar .boolean 1))) 6 (upd (F 6) t x2)) 7 (upd (F 7) t (vp_nar .boolean 0))) 8 f82) 9 f92) 10 g2) 11 j11) 12 j12) 13 j13) 15 (shd (upd (shf (F 15) (pl + 1) P.length) (pl + 1) (nI Es.length)) (pl + 1) P.length)) 16 (shd (upd (shf (F 16) (pl + 1) P.length) (pl + 1) 0) (pl + 1) P.length)) 17 (shd (upd (shf (F 17) (pl + 1) P.length) (pl + 1) (nI Rv2.length)) (pl + 1) P.length)) 18 (shd (upd (shf (F 18) (pl + 1) P.length) (pl + 1) (F 18 ((pl + 1) - 1))) (pl + 1) P.length))) := hD
                refine lv_aload_n hx hb dX10_insert_234 rfl (lv_at hl 1 rfl) ?_
                refine lv_dup hx hb dX10_insert_235 rfl ?_
                refine va_get (D := D) (ci := 11) (v := .int (nI (Es.length + 1))) (C := RX10) (T := TX10) (N := 48) hx hb hts inX10 hown hK hP 0 rfl rfl 3 (by decide) (hts _ k_1147) (fun _ h9 => h9) rfl dX10_insert_236 ?_
                refine lv_iconst (v := 1) hx hb dX10_insert_239 (by decide) ?_
                refine lv_isub hx hb dX10_insert_240 ?_
                refine q_seti (y := nI ((Es.length + 1) - 1)) (pk_sub (a := Es.length + 1) (b := 1) (by omega)) ?_
                refine q_seti (y := nI (Es.length)) (congrArg nI (show (Es.length + 1) - 1 = Es.length by omega)) ?_
                refine va_put (D := D) (ci := 11) (v := .int (nI (Es.length))) (ty := .int) (C := RX10) (T := TX10) (N := 48) hx hb hts inX10 tyX10 tyX10_ok nmX10 hown hK hP hD hS 0 rfl rfl 3 (by decide) (hts _ k_1147) (fun _ h9 => h9) rfl (by decide +kernel) rfl rfl (Nat.le_of_ble_eq_true rfl) dX10_insert_241 (fun H locs hP hD hS => ?_)
                have hP : va_P D vcl (mW h0 q cB cI_ cZ (upd (upd (upd (upd (upd I 3 (nI (Es.length))) 14 (nI (P.length))) 25 v1) 26 v2) 27 v3) (va_up (va_up (va_up (va_up (va_up (va_up (va_up (va_up (va_up (va_up (va_up (va_up (va_up (va_up F 4 (upd (F 4) Es.length (nI t))) 5 (upd (F 5) t (vp_nar .boolean 1))) 6 (upd (F 6) t x2)) 7 (upd (F 7) t (vp_nar .boolean 0))) 8 f82) 9 f92) 10 g2) 11 j11) 12 j12) 13 j13) 15 (shd (upd (shf (F 15) (pl + 1) P.length) (pl + 1) (nI Es.length)) (pl + 1) P.length)) 16 (shd (upd (shf (F 16) (pl + 1) P.length) (pl + 1) 0) (pl + 1) P.length)) 17 (shd (upd (shf (F 17) (pl + 1) P.length) (pl + 1) (nI Rv2.length)) (pl + 1) P.length)) 18 (shd (upd (shf (F 18) (pl + 1) P.length) (pl + 1) (F 18 ((pl + 1) - 1))) (pl + 1) P.length))) H := hP
                have hD : va_D A (mW h0 q cB cI_ cZ (upd (upd (upd (upd (upd I 3 (nI (Es.length))) 14 (nI (P.length))) 25 v1) 26 v2) 27 v3) (va_up (va_up (va_up (va_up (va_up (va_up (va_up (va_up (va_up (va_up (va_up (va_up (va_up (va_up F 4 (upd (F 4) Es.length (nI t))) 5 (upd (F 5) t (vp_nar .boolean 1))) 6 (upd (F 6) t x2)) 7 (upd (F 7) t (vp_nar .boolean 0))) 8 f82) 9 f92) 10 g2) 11 j11) 12 j12) 13 j13) 15 (shd (upd (shf (F 15) (pl + 1) P.length) (pl + 1) (nI Es.length)) (pl + 1) P.length)) 16 (shd (upd (shf (F 16) (pl + 1) P.length) (pl + 1) 0) (pl + 1) P.length)) 17 (shd (upd (shf (F 17) (pl + 1) P.length) (pl + 1) (nI Rv2.length)) (pl + 1) P.length)) 18 (shd (upd (shf (F 18) (pl + 1) P.length) (pl + 1) (F 18 ((pl + 1) - 1))) (pl + 1) P.length))) := hD
                refine lv_aload_n hx hb dX10_insert_244 rfl (lv_at hl 1 rfl) ?_
                refine va_get (D := D) (ci := 11) (v := .ref (q 5)) (C := RX10) (T := TX10) (N := 48) hx hb hts inX10 hown hK hP 0 rfl rfl 5 (by decide) (hts _ k_1149) (fun _ h9 => h9) rfl dX10_insert_245 ?_
                refine lv_iload_n hx hb dX10_insert_248 rfl (lv_at hl 0 rfl) ?_
                refine lv_iconst (v := 0) hx hb dX10_insert_249 (by decide) ?_
                refine q_zst (X := t) (f := (upd (F 5) t (vp_nar .boolean 1))) (x := 0) hx hb hK hP hD hS 3 2 rfl rfl (by omega) (by decide) dX10_insert_250 (fun H locs hP hD hS => ?_)
                have hP : va_P D vcl (mW h0 q cB cI_ cZ (upd (upd (upd (upd (upd I 3 (nI (Es.length))) 14 (nI (P.length))) 25 v1) 26 v2) 27 v3) (va_up (va_up (va_up (va_up (va_up (va_up (va_up (va_up (va_up (va_up (va_up (va_up (va_up (va_up F 4 (upd (F 4) Es.length (nI t))) 5 (upd (upd (F 5) t (vp_nar .boolean 1)) t (vp_nar .boolean 0))) 6 (upd (F 6) t x2)) 7 (upd (F 7) t (vp_nar .boolean 0))) 8 f82) 9 f92) 10 g2) 11 j11) 12 j12) 13 j13) 15 (shd (upd (shf (F 15) (pl + 1) P.length) (pl + 1) (nI Es.length)) (pl + 1) P.length)) 16 (shd (upd (shf (F 16) (pl + 1) P.length) (pl + 1) 0) (pl + 1) P.length)) 17 (shd (upd (shf (F 17) (pl + 1) P.length) (pl + 1) (nI Rv2.length)) (pl + 1) P.length)) 18 (shd (upd (shf (F 18) (pl + 1) P.length) (pl + 1) (F 18 ((pl + 1) - 1))) (pl + 1) P.length))) H := hP
                have hD : va_D A (mW h0 q cB cI_ cZ (upd (upd (upd (upd (upd I 3 (nI (Es.length))) 14 (nI (P.length))) 25 v1) 26 v2) 27 v3) (va_up (va_up (va_up (va_up (va_up (va_up (va_up (va_up (va_up (va_up (va_up (va_up (va_up (va_up F 4 (upd (F 4) Es.length (nI t))) 5 (upd (upd (F 5) t (vp_nar .boolean 1)) t (vp_nar .boolean 0))) 6 (upd (F 6) t x2)) 7 (upd (F 7) t (vp_nar .boolean 0))) 8 f82) 9 f92) 10 g2) 11 j11) 12 j12) 13 j13) 15 (shd (upd (shf (F 15) (pl + 1) P.length) (pl + 1) (nI Es.length)) (pl + 1) P.length)) 16 (shd (upd (shf (F 16) (pl + 1) P.length) (pl + 1) 0) (pl + 1) P.length)) 17 (shd (upd (shf (F 17) (pl + 1) P.length) (pl + 1) (nI Rv2.length)) (pl + 1) P.length)) 18 (shd (upd (shf (F 18) (pl + 1) P.length) (pl + 1) (F 18 ((pl + 1) - 1))) (pl + 1) P.length))) := hD
                refine lv_bipush (v := (-4)) hx hb dX10_insert_251 (by decide) ?_
                have hag2 : ag F (va_up (va_up (va_up (va_up (va_up (va_up (va_up (va_up (va_up (va_up (va_up (va_up (va_up (va_up F 4 (upd (F 4) Es.length (nI t))) 5 (upd (upd (F 5) t (vp_nar .boolean 1)) t (vp_nar .boolean 0))) 6 (upd (F 6) t x2)) 7 (upd (F 7) t (vp_nar .boolean 0))) 8 f82) 9 f92) 10 g2) 11 j11) 12 j12) 13 j13) 15 (shd (upd (shf (F 15) (pl + 1) P.length) (pl + 1) (nI Es.length)) (pl + 1) P.length)) 16 (shd (upd (shf (F 16) (pl + 1) P.length) (pl + 1) 0) (pl + 1) P.length)) 17 (shd (upd (shf (F 17) (pl + 1) P.length) (pl + 1) (nI Rv2.length)) (pl + 1) P.length)) 18 (shd (upd (shf (F 18) (pl + 1) P.length) (pl + 1) (F 18 ((pl + 1) - 1))) (pl + 1) P.length)) t := ⟨fun w hw => ⟨(pk_un hw).trans (hag.1 w hw).1, (hag.1 w hw).2⟩, hag.2⟩
                have hpc3 : pc_is P ((va_up (va_up (va_up (va_up (va_up (va_up (va_up (va_up (va_up (va_up (va_up (va_up (va_up (va_up F 4 (upd (F 4) Es.length (nI t))) 5 (upd (upd (F 5) t (vp_nar .boolean 1)) t (vp_nar .boolean 0))) 6 (upd (F 6) t x2)) 7 (upd (F 7) t (vp_nar .boolean 0))) 8 f82) 9 f92) 10 g2) 11 j11) 12 j12) 13 j13) 15 (shd (upd (shf (F 15) (pl + 1) P.length) (pl + 1) (nI Es.length)) (pl + 1) P.length)) 16 (shd (upd (shf (F 16) (pl + 1) P.length) (pl + 1) 0) (pl + 1) P.length)) 17 (shd (upd (shf (F 17) (pl + 1) P.length) (pl + 1) (nI Rv2.length)) (pl + 1) P.length)) 18 (shd (upd (shf (F 18) (pl + 1) P.length) (pl + 1) (F 18 ((pl + 1) - 1))) (pl + 1) P.length)) 15) ((va_up (va_up (va_up (va_up (va_up (va_up (va_up (va_up (va_up (va_up (va_up (va_up (va_up (va_up F 4 (upd (F 4) Es.length (nI t))) 5 (upd (upd (F 5) t (vp_nar .boolean 1)) t (vp_nar .boolean 0))) 6 (upd (F 6) t x2)) 7 (upd (F 7) t (vp_nar .boolean 0))) 8 f82) 9 f92) 10 g2) 11 j11) 12 j12) 13 j13) 15 (shd (upd (shf (F 15) (pl + 1) P.length) (pl + 1) (nI Es.length)) (pl + 1) P.length)) 16 (shd (upd (shf (F 16) (pl + 1) P.length) (pl + 1) 0) (pl + 1) P.length)) 17 (shd (upd (shf (F 17) (pl + 1) P.length) (pl + 1) (nI Rv2.length)) (pl + 1) P.length)) 18 (shd (upd (shf (F 18) (pl + 1) P.length) (pl + 1) (F 18 ((pl + 1) - 1))) (pl + 1) P.length)) 16) ((va_up (va_up (va_up (va_up (va_up (va_up (va_up (va_up (va_up (va_up (va_up (va_up (va_up (va_up F 4 (upd (F 4) Es.length (nI t))) 5 (upd (upd (F 5) t (vp_nar .boolean 1)) t (vp_nar .boolean 0))) 6 (upd (F 6) t x2)) 7 (upd (F 7) t (vp_nar .boolean 0))) 8 f82) 9 f92) 10 g2) 11 j11) 12 j12) 13 j13) 15 (shd (upd (shf (F 15) (pl + 1) P.length) (pl + 1) (nI Es.length)) (pl + 1) P.length)) 16 (shd (upd (shf (F 16) (pl + 1) P.length) (pl + 1) 0) (pl + 1) P.length)) 17 (shd (upd (shf (F 17) (pl + 1) P.length) (pl + 1) (nI Rv2.length)) (pl + 1) P.length)) 18 (shd (upd (shf (F 18) (pl + 1) P.length) (pl + 1) (F 18 ((pl + 1) - 1))) (pl + 1) P.length)) 17) ((va_up (va_up (va_up (va_up (va_up (va_up (va_up (va_up (va_up (va_up (va_up (va_up (va_up (va_up F 4 (upd (F 4) Es.length (nI t))) 5 (upd (upd (F 5) t (vp_nar .boolean 1)) t (vp_nar .boolean 0))) 6 (upd (F 6) t x2)) 7 (upd (F 7) t (vp_nar .boolean 0))) 8 f82) 9 f92) 10 g2) 11 j11) 12 j12) 13 j13) 15 (shd (upd (shf (F 15) (pl + 1) P.length) (pl + 1) (nI Es.length)) (pl + 1) P.length)) 16 (shd (upd (shf (F 16) (pl + 1) P.length) (pl + 1) 0) (pl + 1) P.length)) 17 (shd (upd (shf (F 17) (pl + 1) P.length) (pl + 1) (nI Rv2.length)) (pl + 1) P.length)) 18 (shd (upd (shf (F 18) (pl + 1) P.length) (pl + 1) (F 18 ((pl + 1) - 1))) (pl + 1) P.length)) 18) := pc_is_c hpcF (fun i hi => ⟨shd_shf hi, shd_shf hi, shd_shf hi, shd_shf hi⟩)
                exact q_zi hf hr rfl hlocks hK hP hD hS (Nat.le_of_ble_eq_true rfl) (Nat.le_of_ble_eq_true rfl) (Or.inr (Or.inr (Or.inr ⟨j, pl, t, (upd (upd (upd (upd (upd I 3 (nI (Es.length))) 14 (nI (P.length))) 25 v1) 26 v2) 27 v3), (va_up (va_up (va_up (va_up (va_up (va_up (va_up (va_up (va_up (va_up (va_up (va_up (va_up (va_up F 4 (upd (F 4) Es.length (nI t))) 5 (upd (upd (F 5) t (vp_nar .boolean 1)) t (vp_nar .boolean 0))) 6 (upd (F 6) t x2)) 7 (upd (F 7) t (vp_nar .boolean 0))) 8 f82) 9 f92) 10 g2) 11 j11) 12 j12) 13 j13) 15 (shd (upd (shf (F 15) (pl + 1) P.length) (pl + 1) (nI Es.length)) (pl + 1) P.length)) 16 (shd (upd (shf (F 16) (pl + 1) P.length) (pl + 1) 0) (pl + 1) P.length)) 17 (shd (upd (shf (F 17) (pl + 1) P.length) (pl + 1) (nI Rv2.length)) (pl + 1) P.length)) 18 (shd (upd (shf (F 18) (pl + 1) P.length) (pl + 1) (F 18 ((pl + 1) - 1))) (pl + 1) P.length)), ⟨hj, rfl, in6 c_5 c_6⟩, ⟨by omega, c_8, hwd, by omega⟩, ⟨hpl, hplj, hlst⟩, rfl, ⟨rfl, rfl, rfl⟩, Or.inl ⟨by rw [← hns]; omega, rfl, ⟨rfl, rfl, rfl⟩, reR_back hre h3 hag2 (fun e he => pk_un (by omega)) pk_us, hpc3⟩, rfl⟩))) dX10_insert_253
            · have c_10 := q_eqn (a := Es.length) (b := 60) (by omega) (by omega) c_10
              refine lv_bipush (v := (-4)) hx hb dX10_insert_60 (by decide) ?_
              exact q_zi hf hr rfl hlocks hK hP hD hS (Nat.le_of_ble_eq_true rfl) (Nat.le_of_ble_eq_true rfl) (Or.inr (Or.inr (Or.inl ⟨j, ⟨hj, rfl, in6 c_5 c_6⟩, by omega, c_8, hwd, by omega, rfl, rfl⟩))) dX10_insert_62
          · have hP : va_P D vcl (mW h0 q cB cI_ cZ I F) H := hP
            have hD : va_D A (mW h0 q cB cI_ cZ I F) := hD
            refine lv_if_ne (tgt := 51) hx hb dX10_insert_45 (by decide) (fun hno => absurd hno (by decide)) (fun _ => ?_)
            refine lv_bipush (v := (-3)) hx hb dX10_insert_48 (by decide) ?_
            exact q_zi hf hr rfl hlocks hK hP hD hS (Nat.le_of_ble_eq_true rfl) (Nat.le_of_ble_eq_true rfl) (Or.inr (Or.inl ⟨j, ⟨hj, rfl, in6 c_5 c_6⟩, Or.inr (Or.inr c_9), rfl, rfl⟩)) dX10_insert_50
  · have hP : va_P D vcl (mW h0 q cB cI_ cZ I F) H := hP
    have hD : va_D A (mW h0 q cB cI_ cZ I F) := hD
    refine lv_if_eq (tgt := 17) hx hb dX10_insert_5 (by decide) (fun _ => ?_) (fun hno => absurd hno (by decide))
    refine lv_bipush (v := (-2)) hx hb dX10_insert_17 (by decide) ?_
    exact q_zi hf hr rfl hlocks hK hP hD hS (Nat.le_of_ble_eq_true rfl) (Nat.le_of_ble_eq_true rfl) (Or.inl ⟨Or.inl c_1, rfl, rfl⟩) dX10_insert_19
