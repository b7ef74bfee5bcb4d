abbrev cX10_lock : ByteArray := prog_12_method_38_code
def yX10_lock : MethodName := ⟨RX10, "lock", "()I"⟩
theorem k_1182 : (Cond.fieldLink RX10 95 "ScriptDeskModel" "newOf" "[I") ∈ gT := gT_i 1182 (by decide +kernel) rfl
theorem k_1183 : (Cond.fieldLink RX10 98 "ScriptDeskModel" "newFrom" "[I") ∈ gT := gT_i 1183 (by decide +kernel) rfl
theorem k_1184 : (Cond.fieldLink RX10 101 "ScriptDeskModel" "newTo" "[I") ∈ gT := gT_i 1184 (by decide +kernel) rfl
theorem k_1185 : (Cond.fieldLink RX10 104 "ScriptDeskModel" "newGroup" "[I") ∈ gT := gT_i 1185 (by decide +kernel) rfl
theorem dX10_lock_63 : decode cX10_lock 63 = .ok (.iload 5, 2) := by decide +kernel
theorem dX10_lock_65 : decode cX10_lock 65 = .ok (.iload_n 3, 1) := by decide +kernel
theorem dX10_lock_66 : decode cX10_lock 66 = .ok (.if_icmp .lt 14, 3) := by decide +kernel
theorem dX10_lock_69 : decode cX10_lock 69 = .ok (.iload 5, 2) := by decide +kernel
theorem dX10_lock_71 : decode cX10_lock 71 = .ok (.iload_n 3, 1) := by decide +kernel
theorem dX10_lock_72 : decode cX10_lock 72 = .ok (.if_icmp .ne 96, 3) := by decide +kernel
theorem dX10_lock_75 : decode cX10_lock 75 = .ok (.iload 4, 2) := by decide +kernel
theorem dX10_lock_77 : decode cX10_lock 77 = .ok (.ifCond .le 91, 3) := by decide +kernel
theorem dX10_lock_80 : decode cX10_lock 80 = .ok (.aload_n 0, 1) := by decide +kernel
theorem dX10_lock_81 : decode cX10_lock 81 = .ok (.getfield 95, 3) := by decide +kernel
theorem dX10_lock_84 : decode cX10_lock 84 = .ok (.iload_n 1, 1) := by decide +kernel
theorem dX10_lock_85 : decode cX10_lock 85 = .ok (.iload 5, 2) := by decide +kernel
theorem dX10_lock_87 : decode cX10_lock 87 = .ok (.iastore, 1) := by decide +kernel
theorem dX10_lock_88 : decode cX10_lock 88 = .ok (.aload_n 0, 1) := by decide +kernel
theorem dX10_lock_89 : decode cX10_lock 89 = .ok (.getfield 98, 3) := by decide +kernel
theorem dX10_lock_92 : decode cX10_lock 92 = .ok (.iload_n 1, 1) := by decide +kernel
theorem dX10_lock_93 : decode cX10_lock 93 = .ok (.iload 5, 2) := by decide +kernel
theorem dX10_lock_95 : decode cX10_lock 95 = .ok (.aload_n 0, 1) := by decide +kernel
theorem dX10_lock_96 : decode cX10_lock 96 = .ok (.getfield 86, 3) := by decide +kernel
theorem dX10_lock_99 : decode cX10_lock 99 = .ok (.iload_n 2, 1) := by decide +kernel
theorem dX10_lock_100 : decode cX10_lock 100 = .ok (.iaload, 1) := by decide +kernel
theorem dX10_lock_101 : decode cX10_lock 101 = .ok (.if_icmp .ne 12, 3) := by decide +kernel
theorem dX10_lock_113 : decode cX10_lock 113 = .ok (.iconst 0, 1) := by decide +kernel
theorem dX10_lock_114 : decode cX10_lock 114 = .ok (.iastore, 1) := by decide +kernel
theorem dX10_lock_115 : decode cX10_lock 115 = .ok (.aload_n 0, 1) := by decide +kernel
theorem dX10_lock_116 : decode cX10_lock 116 = .ok (.getfield 101, 3) := by decide +kernel
theorem dX10_lock_119 : decode cX10_lock 119 = .ok (.iload_n 1, 1) := by decide +kernel
theorem dX10_lock_120 : decode cX10_lock 120 = .ok (.iload 5, 2) := by decide +kernel
theorem dX10_lock_122 : decode cX10_lock 122 = .ok (.iload_n 3, 1) := by decide +kernel
theorem dX10_lock_123 : decode cX10_lock 123 = .ok (.if_icmp .ne 8, 3) := by decide +kernel
theorem dX10_lock_131 : decode cX10_lock 131 = .ok (.aload_n 0, 1) := by decide +kernel
theorem dX10_lock_132 : decode cX10_lock 132 = .ok (.iload 5, 2) := by decide +kernel
theorem dX10_lock_134 : decode cX10_lock 134 = .ok (.invokevirtual 198, 3) := by decide +kernel
theorem dX10_lock_137 : decode cX10_lock 137 = .ok (.iastore, 1) := by decide +kernel
theorem dX10_lock_138 : decode cX10_lock 138 = .ok (.aload_n 0, 1) := by decide +kernel
theorem dX10_lock_139 : decode cX10_lock 139 = .ok (.getfield 104, 3) := by decide +kernel
theorem dX10_lock_142 : decode cX10_lock 142 = .ok (.iload_n 1, 1) := by decide +kernel
theorem dX10_lock_143 : decode cX10_lock 143 = .ok (.iload_n 2, 1) := by decide +kernel
theorem dX10_lock_144 : decode cX10_lock 144 = .ok (.iastore, 1) := by decide +kernel
theorem dX10_lock_145 : decode cX10_lock 145 = .ok (.iinc 1 1, 3) := by decide +kernel
theorem dX10_lock_148 : decode cX10_lock 148 = .ok (.iload 5, 2) := by decide +kernel
theorem dX10_lock_150 : decode cX10_lock 150 = .ok (.iload_n 3, 1) := by decide +kernel
theorem dX10_lock_151 : decode cX10_lock 151 = .ok (.if_icmp .ne 7, 3) := by decide +kernel
theorem dX10_lock_158 : decode cX10_lock 158 = .ok (.iload 4, 2) := by decide +kernel
theorem dX10_lock_160 : decode cX10_lock 160 = .ok (.istore 4, 2) := by decide +kernel
theorem dX10_lock_162 : decode cX10_lock 162 = .ok (.iinc 5 1, 3) := by decide +kernel
theorem dX10_lock_165 : decode cX10_lock 165 = .ok (.goto (-102), 3) := by decide +kernel
theorem dX10_lock_104 : decode cX10_lock 104 = .ok (.aload_n 0, 1) := by decide +kernel
theorem dX10_lock_105 : decode cX10_lock 105 = .ok (.getfield 89, 3) := by decide +kernel
theorem dX10_lock_108 : decode cX10_lock 108 = .ok (.iload_n 2, 1) := by decide +kernel
theorem dX10_lock_109 : decode cX10_lock 109 = .ok (.iaload, 1) := by decide +kernel
theorem dX10_lock_110 : decode cX10_lock 110 = .ok (.goto 4, 3) := by decide +kernel
theorem dX10_lock_126 : decode cX10_lock 126 = .ok (.iload 4, 2) := by decide +kernel
theorem dX10_lock_128 : decode cX10_lock 128 = .ok (.goto 9, 3) := by decide +kernel
theorem dX10_lock_154 : decode cX10_lock 154 = .ok (.iconst 0, 1) := by decide +kernel
theorem dX10_lock_155 : decode cX10_lock 155 = .ok (.goto 5, 3) := by decide +kernel
theorem rs_ord {Fm To : Nat → Nat} {p r q0 ss pn : Nat} (hp : p < pn) (hr : r < To p - Fm p) (hq : q0 ≤ pn) (hs : q0 < pn → ss < To q0 - Fm q0) (h0 : q0 = pn → ss = 0) (h : rs_S Fm To p + r < rs_S Fm To q0 + ss) : p ≤ q0 ∧ (p = q0 → r < ss) := by
  refine ⟨?_, fun e => by rw [e] at h; omega⟩
  by_cases c : p ≤ q0
  · exact c
  · have h1 := rs_S_le (Fm := Fm) (To := To) (show q0 < p by omega)
    have h2 := hs (by omega)
    omega
/-- what a call may not change that only looks -/
def ix (I I2 : Nat → Int32) : Prop := I2 1 = I 1 ∧ I2 2 = I 2 ∧ I2 3 = I 3
def iy (I I2 : Nat → Int32) : Prop := I2 14 = I 14 ∧ I2 19 = I 19 ∧ I2 20 = I 20
def fx (F F2 : Nat → Nat → Int32) : Prop := F2 0 = F 0 ∧ F2 4 = F 4 ∧ F2 5 = F 5 ∧ F2 6 = F 6 ∧ F2 7 = F 7 ∧ F2 8 = F 8 ∧ F2 9 = F 9 ∧ F2 10 = F 10 ∧ F2 11 = F 11 ∧ F2 12 = F 12 ∧ F2 13 = F 13
def px (F F2 : Nat → Nat → Int32) : Prop := F2 15 = F 15 ∧ F2 16 = F 16 ∧ F2 17 = F 17 ∧ F2 18 = F 18
def sm (I I2 : Nat → Int32) (F F2 : Nat → Nat → Int32) : Prop := ix I I2 ∧ iy I I2 ∧ fx F F2 ∧ px F F2
/-- where the pages begin, with the end behind the last -/
def pg_B (pn : Nat) (Pg : List (Nat × Nat × Nat)) (g : Nat) : Nat := (Pg.getD g (pn, 0, 0)).1
def pg_R (pn : Nat) (Pg : List (Nat × Nat × Nat)) (g : Nat) : Nat := (Pg.getD g (pn, 0, 0)).2.1
def pg_good (Fm To : Nat → Nat) (pn gn : Nat) (Bp Br : Nat → Nat) : Prop := ∀ g, g < gn → Bp g < pn ∧ Br g < To (Bp g) - Fm (Bp g) ∧ Bp (g + 1) ≤ pn ∧ (Bp (g + 1) < pn → Br (g + 1) < To (Bp (g + 1)) - Fm (Bp (g + 1))) ∧ (Bp (g + 1) = pn → Br (g + 1) = 0) ∧ rs_S Fm To (Bp g) + Br g < rs_S Fm To (Bp (g + 1)) + Br (g + 1)
theorem pg_ok {Fm To : Nat → Nat} {pn : Nat} {C : Nat → Option Q4} {f1 f2 f3 f4 : Nat → Int32} (hz : ∀ p, p < pn → 0 < To p - Fm p) (htab : bk_tab Fm To pn C 0 f1 f2 f3 f4) (hcl : bk_cl Fm To pn C 0) : ∀ f p r, pg_at Fm To pn C p r → rs_S Fm To pn ≤ rs_S Fm To p + r + f → pg_B pn (bk_pg Fm To pn C f p r) 0 = p ∧ pg_R pn (bk_pg Fm To pn C f p r) 0 = r ∧ pg_good Fm To pn (bk_pg Fm To pn C f p r).length (pg_B pn (bk_pg Fm To pn C f p r)) (pg_R pn (bk_pg Fm To pn C f p r)) := by
  intro f
  induction f with
  | zero =>
    intro p r h hf
    have hs := rs_S_end h.1 (fun z => (h.2.2 z).1) h.2.1
    have hp : p = pn := rs_S_pn hz h.1 (fun z => (h.2.2 z).1) (by omega)
    exact ⟨hp.symm, (h.2.1 hp).symm, fun g hg => absurd hg (Nat.not_lt_zero g)⟩
  | succ f ih =>
    intro p r h hf
    by_cases hp : p < pn
    · obtain ⟨hr, y, hy⟩ := h.2.2 hp
      have hn := pg_nx hz htab hcl hp hr hy
      have h1 := ih y.2.1 y.2.2.1 hn.1 (by omega)
      rw [bk_pg_in hp hy]
      refine ⟨rfl, rfl, fun g hg => ?_⟩
      cases g with
      | zero =>
        have e1 : pg_B pn ((p, r, y.2.2.2) :: bk_pg Fm To pn C f y.2.1 y.2.2.1) (0 + 1) = y.2.1 := h1.1
        have e2 : pg_R pn ((p, r, y.2.2.2) :: bk_pg Fm To pn C f y.2.1 y.2.2.1) (0 + 1) = y.2.2.1 := h1.2.1
        rw [e1, e2]
        exact ⟨hp, hr, hn.1.1, fun z => (hn.1.2.2 z).1, hn.1.2.1, hn.2⟩
      | succ g => exact h1.2.2 g (by simpa using hg)
    · have e : p = pn := by have := h.1; omega
      rw [bk_pg_out hp]
      exact ⟨e.symm, (h.2.1 e).symm, fun g hg => absurd hg (Nat.not_lt_zero g)⟩
theorem pg_rd {pn : Nat} {Pg : List (Nat × Nat × Nat)} {f35 f36 f37 : Nat → Int32} (h : pg_is Pg f35 f36 f37) (hl : 0 < Pg.length → f35 Pg.length = nI pn ∧ f36 Pg.length = 0) (h0 : 0 < Pg.length) : ∀ g, g ≤ Pg.length → f35 g = nI (pg_B pn Pg g) ∧ f36 g = nI (pg_R pn Pg g) := by
  intro g hg
  by_cases e : g = Pg.length
  · have e2 : Pg.getD g (pn, 0, 0) = (pn, 0, 0) := by
      rw [List.getD_eq_getElem?_getD, List.getElem?_eq_none (by omega)]
      rfl
    unfold pg_B pg_R
    rw [e2, e]
    exact hl h0
  · have e2 : Pg.getD g (pn, 0, 0) = Pg.getD g (0, 0, 0) := by
      rw [List.getD_eq_getElem?_getD, List.getD_eq_getElem?_getD, List.getElem?_eq_getElem (show g < Pg.length by omega)]
      rfl
    unfold pg_B pg_R
    rw [e2]
    have := h g (by omega)
    exact ⟨this.1, this.2.1⟩
/-- the pieces of a page from piece p on: element, from, to, group -/
def lk_page (Fm To : Nat → Nat) (p0 r0 qq ss g : Nat) : Nat → Nat → List Q4
  | 0, _ => []
  | f + 1, p => if p < qq then (p, (if p = p0 then r0 else 0), To p - Fm p, g) :: lk_page Fm To p0 r0 qq ss g f (p + 1) else if p = qq ∧ 0 < ss then [(p, (if p = p0 then r0 else 0), ss, g)] else []
theorem lk_page_lt {Fm To : Nat → Nat} {p0 r0 qq ss g f p a : Nat} (h : p < qq) (ha : a = if p = p0 then r0 else 0) : lk_page Fm To p0 r0 qq ss g (f + 1) p = (p, a, To p - Fm p, g) :: lk_page Fm To p0 r0 qq ss g f (p + 1) := by
  rw [ha]
  exact if_pos h
theorem lk_page_out {Fm To : Nat → Nat} {p0 r0 qq ss g f p : Nat} (h : ¬ p < qq) (h2 : ¬ (p = qq ∧ 0 < ss)) : lk_page Fm To p0 r0 qq ss g f p = [] := by
  cases f with
  | zero => rfl
  | succ f => exact (if_neg h).trans (if_neg h2)
theorem lk_page_eq {Fm To : Nat → Nat} {p0 r0 qq ss g f p a : Nat} (h : p = qq) (h2 : 0 < ss) (ha : a = if p = p0 then r0 else 0) : lk_page Fm To p0 r0 qq ss g (f + 1) p = (p, a, ss, g) :: lk_page Fm To p0 r0 qq ss g f (p + 1) := by
  rw [ha, lk_page_out (f := f) (p := p + 1) (by omega) (by omega)]
  exact (if_neg (by omega)).trans (if_pos ⟨h, h2⟩)
def lk_pcs (Fm To Bp Br : Nat → Nat) : Nat → List Q4
  | 0 => []
  | g + 1 => lk_pcs Fm To Bp Br g ++ lk_page Fm To (Bp g) (Br g) (Bp (g + 1)) (Br (g + 1)) g 8001 (Bp g)
/-- four rows hold a list of pieces -/
def pc_is (P : List Q4) (f1 f2 f3 f4 : Nat → Int32) : Prop := ∀ j, j < P.length → f1 j = nI (P.getD j (0, 0, 0, 0)).1 ∧ f2 j = nI (P.getD j (0, 0, 0, 0)).2.1 ∧ f3 j = nI (P.getD j (0, 0, 0, 0)).2.2.1 ∧ f4 j = nI (P.getD j (0, 0, 0, 0)).2.2.2
theorem pc_is_s {P : List Q4} {f1 f2 f3 f4 : Nat → Int32} {a b c d n : Nat} (hn : n = P.length) (h : pc_is P f1 f2 f3 f4) : pc_is (P ++ [(a, b, c, d)]) (upd f1 n (nI a)) (upd f2 n (nI b)) (upd f3 n (nI c)) (upd f4 n (nI d)) := by
  intro j hj
  rw [List.length_append] at hj
  have hj : j < P.length + 1 := hj
  by_cases e : j = n
  · rw [e, pk_us, pk_us, pk_us, pk_us, hn]
    simp
  · rw [pk_un e, pk_un e, pk_un e, pk_un e]
    have e2 : (P ++ [(a, b, c, d)]).getD j (0, 0, 0, 0) = P.getD j (0, 0, 0, 0) := by
      simp only [List.getD_eq_getElem?_getD]
      rw [List.getElem?_append_left (by omega)]
    rw [e2]
    exact h j (by omega)
theorem pc_is_c {P : List Q4} {f1 f2 f3 f4 g1 g2 g3 g4 : Nat → Int32} (h : pc_is P f1 f2 f3 f4) (e : ∀ j, j < P.length → g1 j = f1 j ∧ g2 j = f2 j ∧ g3 j = f3 j ∧ g4 j = f4 j) : pc_is P g1 g2 g3 g4 := by
  intro j hj
  rw [(e j hj).1, (e j hj).2.1, (e j hj).2.2.1, (e j hj).2.2.2]
  exact h j hj
set_option maxHeartbeats 1000000 in
set_option maxRecDepth 100000 in
theorem lo_in {p : Program} {l : Launch} {e : Env} {R : Room} {s : State} {m : MethodId} {args : Array Value} {below : List Frame} {meth : Method} {c : Code} {cells slots : Nat} {Q : State → Prop} {D : va_G} {A : Nat → Prop} {h0 : Nat} {q : Nat → Nat} {cB cI cZ : ClassId} {I : Nat → Int32} {F : Nat → Nat → Int32} {pn : Nat} {pe sl : Nat → Nat} {K : Nat → Int32} {Fm To Rr : Nat → Nat} (hpv : rp_ok F pn pe sl K Fm To Rr) (hSS : rs_S Fm To pn ≤ 8000) {gn : Nat} {Bp Br : Nat → Nat} (hI28 : I 28 = nI gn) (hgn : gn ≤ 8000) (hrd : ∀ g, g ≤ gn → F 35 g = nI (Bp g) ∧ F 36 g = nI (Br g)) (hgood : pg_good Fm To pn gn Bp Br) {g : Nat} (hg : g < gn) (hRf : 1 ≤ R.frames) (hRl : 25 ≤ R.locals) (hRc : cells ≤ R.cells) (hRs : slots ≤ R.slots) (hA : ∀ q : Nat, s.heap.size ≤ q → A q) (hf : CallFix p m c cX10_lock 6 s args gT yX10_lock.cls) (hK : va_K D vcl (mT cB cI cZ) s) :
    ∀ (k : Nat) (pp : Nat) (sv : Nat) (n : Nat) (P : List Q4) (f38 : Nat → Int32) (f39 : Nat → Int32) (f40 : Nat → Int32) (f41 : Nat → Int32) (H : Heap) (locs : List Loc) (ls : Array Slot), Bp (g + 1) + 1 ≤ pp + k → (Bp g ≤ pp ∧ pp ≤ Bp (g + 1) + 1) → (pp ≤ Bp (g + 1) → sv = Br (g + 1)) → n = P.length → pc_is P f38 f39 f40 f41 → (pp ≤ Bp (g + 1) → n ≤ rs_S Fm To pp + (if pp = Bp g then Br g else 0)) → (pp = Bp (g + 1) + 1 → n ≤ rs_S Fm To (Bp (g + 1)) + Br (g + 1)) →  va_P D vcl (mW h0 q cB cI cZ I (va_up (va_up (va_up (va_up F 38 f38) 39 f39) 40 f40) 41 f41)) H → va_D A (mW h0 q cB cI cZ I (va_up (va_up (va_up (va_up F 38 f38) 39 f39) 40 f40) 41 f41)) → va_S A s.heap H locs → lv_has ls 6 [(5, .int (nI pp)), (4, .int (nI sv)), (3, .int (nI (Bp (g + 1)))), (2, .int (nI g)), (1, .int (nI n)), (0, .ref h0)] →
    (∀ (n2 : Nat) (P2 : List Q4) (g38 : Nat → Int32) (g39 : Nat → Int32) (g40 : Nat → Int32) (g41 : Nat → Int32) (H : Heap) (locs : List Loc) (ls : Array Slot), P2 = P ++ lk_page Fm To (Bp g) (Br g) (Bp (g + 1)) (Br (g + 1)) g k pp → n2 = P2.length → pc_is P2 g38 g39 g40 g41 → n2 ≤ rs_S Fm To (Bp (g + 1)) + Br (g + 1) → va_P D vcl (mW h0 q cB cI cZ I (va_up (va_up (va_up (va_up F 38 g38) 39 g39) 40 g40) 41 g41)) H → va_D A (mW h0 q cB cI cZ I (va_up (va_up (va_up (va_up F 38 g38) 39 g39) 40 g40) 41 g41)) → va_S A s.heap H locs → lv_has ls 6 [(2, .int (nI g)), (1, .int (nI n2)), (0, .ref h0)] → W p l e R s m args below meth c H locs cells slots Q (F0 m 168 ls [])) →
    W p l e R s m args below meth c H locs cells slots Q (F0 m 63 ls []) := by
  obtain ⟨hx, hb, hml, hown, hts⟩ := id hf
  have hpn8 := hpv.1
  have hgg := hgood g hg
  have hor := rs_ord hgg.1 hgg.2.1 hgg.2.2.1 hgg.2.2.2.1 hgg.2.2.2.2.1 hgg.2.2.2.2.2
  have hse := rs_S_end (Fm := Fm) (To := To) hgg.2.2.1 hgg.2.2.2.1 hgg.2.2.2.2.1
  intro k
  induction k with
  | zero =>
    intro pp sv n P f38 f39 f40 f41 H locs ls hik hpp hsv hnP hpc hnb hnc hP hD hS hl kk
    refine lv_iload hx hb dX10_lock_63 (lv_at hl 0 rfl) ?_
    refine lv_iload_n hx hb dX10_lock_65 rfl (lv_at hl 2 rfl) ?_
    refine lv_icmp_lt (tgt := 80) hx hb dX10_lock_66 (by decide) (fun c_1 => ?_) (fun c_1 => ?_)
    · have c_1 := q_lt (a := pp) (b := Bp (g + 1)) (by omega) (by omega) c_1
      exact False.elim (by omega)
    · have c_1 := q_nlt (a := pp) (b := Bp (g + 1)) (by omega) (by omega) c_1
      refine lv_iload hx hb dX10_lock_69 (lv_at hl 0 rfl) ?_
      refine lv_iload_n hx hb dX10_lock_71 rfl (lv_at hl 2 rfl) ?_
      refine lv_icmp_ne (tgt := 168) hx hb dX10_lock_72 (by decide) (fun c_2 => ?_) (fun c_2 => ?_)
      · have c_2 := q_nen (a := pp) (b := Bp (g + 1)) (by omega) (by omega) c_2
        exact kk n P f38 f39 f40 f41 H locs ls (by rw [lk_page_out (by omega) (fun z => by have := hsv (by omega); omega), List.append_nil]) hnP hpc (hnc (by omega)) hP hD hS (lv_sub hl (l' := [(2, .int (nI g)), (1, .int (nI n)), (0, .ref h0)]) [3, 4, 5] rfl)
      · have c_2 := q_eqn (a := pp) (b := Bp (g + 1)) (by omega) (by omega) c_2
        refine lv_iload hx hb dX10_lock_75 (lv_at hl 1 rfl) ?_
        refine lv_if_le (tgt := 168) hx hb dX10_lock_77 (by decide) (fun c_3 => ?_) (fun c_3 => ?_)
        · have c_3 := q_le (a := sv) (b := 0) (by omega) (by omega) c_3
          have e9 : pp = Bp (g + 1) := by omega
          have h1 := hsv (by omega)
          have h2 := hnb (by omega)
          rw [if_neg (show ¬ pp = Bp g from fun z => by have := hor.2 (by omega); omega), e9] at h2
          exact kk n P f38 f39 f40 f41 H locs ls (by rw [lk_page_out (by omega) (fun z => by have := hsv (by omega); omega), List.append_nil]) hnP hpc (by omega) hP hD hS (lv_sub hl (l' := [(2, .int (nI g)), (1, .int (nI n)), (0, .ref h0)]) [3, 4, 5] rfl)
        · have c_3 := q_nle (a := sv) (b := 0) (by omega) (by omega) c_3
          exact False.elim (by omega)
  | succ k ih =>
    intro pp sv n P f38 f39 f40 f41 H locs ls hik hpp hsv hnP hpc hnb hnc hP hD hS hl kk
    refine lv_iload hx hb dX10_lock_63 (lv_at hl 0 rfl) ?_
    refine lv_iload_n hx hb dX10_lock_65 rfl (lv_at hl 2 rfl) ?_
    refine lv_icmp_lt (tgt := 80) hx hb dX10_lock_66 (by decide) (fun c_1 => ?_) (fun c_1 => ?_)
    · have c_1 := q_lt (a := pp) (b := Bp (g + 1)) (by omega) (by omega) c_1
      have hpvq : pp < pn := by omega
      have hpvp := hpv.2 pp hpvq
      have hs3 := rs_S_le (Fm := Fm) (To := To) hpvq
      have hn8 : n < 8000 := by
        have h2 := hnb (by omega)
        by_cases e : pp = Bp g
        · rw [if_pos e] at h2; have h3 := hgg.2.1; rw [← e] at h3; omega
        · rw [if_neg e] at h2; omega
      refine lv_aload_n hx hb dX10_lock_80 rfl (lv_at hl 5 rfl) ?_
      refine va_get (D := D) (ci := 11) (v := .ref (q 38)) (C := RX10) (T := TX10) (N := 48) hx hb hts inX10 hown hK hP 0 rfl rfl 38 (by decide) (hts _ k_1182) (fun _ h9 => h9) rfl dX10_lock_81 ?_
      refine lv_iload_n hx hb dX10_lock_84 rfl (lv_at hl 4 rfl) ?_
      refine lv_iload hx hb dX10_lock_85 (lv_at hl 0 rfl) ?_
      refine q_ist (X := n) (f := f38) (x := (nI pp)) hx hb hK hP hD hS 27 1 rfl rfl (by omega) (by decide) dX10_lock_87 (fun H locs hP hD hS => ?_)
      have hP : va_P D vcl (mW h0 q cB cI cZ I (va_up (va_up (va_up (va_up F 38 (upd f38 n (nI pp))) 39 f39) 40 f40) 41 f41)) H := hP
      have hD : va_D A (mW h0 q cB cI cZ I (va_up (va_up (va_up (va_up F 38 (upd f38 n (nI pp))) 39 f39) 40 f40) 41 f41)) := hD
      refine lv_aload_n hx hb dX10_lock_88 rfl (lv_at hl 5 rfl) ?_
      refine va_get (D := D) (ci := 11) (v := .ref (q 39)) (C := RX10) (T := TX10) (N := 48) hx hb hts inX10 hown hK hP 0 rfl rfl 39 (by decide) (hts _ k_1183) (fun _ h9 => h9) rfl dX10_lock_89 ?_
      refine lv_iload_n hx hb dX10_lock_92 rfl (lv_at hl 4 rfl) ?_
      refine lv_iload hx hb dX10_lock_93 (lv_at hl 0 rfl) ?_
      refine lv_aload_n hx hb dX10_lock_95 rfl (lv_at hl 5 rfl) ?_
      refine va_get (D := D) (ci := 11) (v := .ref (q 35)) (C := RX10) (T := TX10) (N := 48) hx hb hts inX10 hown hK hP 0 rfl rfl 35 (by decide) (hts _ k_1179) (fun _ h9 => h9) rfl dX10_lock_96 ?_
      refine lv_iload_n hx hb dX10_lock_99 rfl (lv_at hl 3 rfl) ?_
      refine q_ild (X := g) (f := (F 35)) hx hb hK hP 24 1 rfl rfl (by omega) (by decide) dX10_lock_100 ?_
      refine q_seti (y := (nI (Bp g))) (hrd g (by omega)).1 ?_
      refine lv_icmp_ne (tgt := 113) hx hb dX10_lock_101 (by decide) (fun c_2 => ?_) (fun c_2 => ?_)
      · have c_2 := q_nen (a := pp) (b := Bp g) (by omega) (by omega) c_2
        refine lv_iconst (v := 0) hx hb dX10_lock_113 (by decide) ?_
        refine q_ist (X := n) (f := f39) (x := 0) hx hb hK hP hD hS 28 1 rfl rfl (by omega) (by decide) dX10_lock_114 (fun H locs hP hD hS => ?_)
        have hP : va_P D vcl (mW h0 q cB cI cZ I (va_up (va_up (va_up (va_up F 38 (upd f38 n (nI pp))) 39 (upd f39 n 0)) 40 f40) 41 f41)) H := hP
        have hD : va_D A (mW h0 q cB cI cZ I (va_up (va_up (va_up (va_up F 38 (upd f38 n (nI pp))) 39 (upd f39 n 0)) 40 f40) 41 f41)) := hD
        refine lv_aload_n hx hb dX10_lock_115 rfl (lv_at hl 5 rfl) ?_
        refine va_get (D := D) (ci := 11) (v := .ref (q 40)) (C := RX10) (T := TX10) (N := 48) hx hb hts inX10 hown hK hP 0 rfl rfl 40 (by decide) (hts _ k_1184) (fun _ h9 => h9) rfl dX10_lock_116 ?_
        refine lv_iload_n hx hb dX10_lock_119 rfl (lv_at hl 4 rfl) ?_
        refine lv_iload hx hb dX10_lock_120 (lv_at hl 0 rfl) ?_
        refine lv_iload_n hx hb dX10_lock_122 rfl (lv_at hl 2 rfl) ?_
        refine lv_icmp_ne (tgt := 131) hx hb dX10_lock_123 (by decide) (fun c_3 => ?_) (fun c_3 => ?_)
        · have c_3 := q_nen (a := pp) (b := Bp (g + 1)) (by omega) (by omega) c_3
          refine lv_aload_n hx hb dX10_lock_131 rfl (lv_at hl 5 rfl) ?_
          refine lv_iload hx hb dX10_lock_132 (lv_at hl 0 rfl) ?_
          refine q_ci (k := cells) (n := slots) hK hP hD hS hA (fun hPc hKc hDc => q_rV (As := [.int (nI pp)]) (rest := [.int (nI n), .ref (q 40)]) hf (r_size _ D h0 q cB cI cZ I (va_up (va_up (va_up (va_up F 38 (upd f38 n (nI pp))) 39 (upd f39 n 0)) 40 f40) 41 f41) pn pe sl K Fm To Rr pp hpv (by omega) _) k_1391 k_1388 k_1390 k_62 k_98 (nA := 1) (by decide +kernel) ⟨Nat.le_trans (by decide) hRf, Nat.le_trans (by decide) hRl⟩ hK hP (ci := 11) (q0 := 0) rfl rfl rfl hPc hKc hDc (fun _ _ _ _ h => h) (fun _ _ _ => trivial) rfl hl.1 rfl (Nat.le_of_ble_eq_true rfl) dX10_lock_134 ⟨hRc, hRs⟩) (Nat.le_refl _) (Nat.le_refl _) (fun r u H locs hw hK hP hD hS => ?_)
          obtain ⟨rfl, rfl⟩ := hw
          have hP : va_P D vcl (mW h0 q cB cI cZ I (va_up (va_up (va_up (va_up F 38 (upd f38 n (nI pp))) 39 (upd f39 n 0)) 40 f40) 41 f41)) H := hP
          have hD : va_D A (mW h0 q cB cI cZ I (va_up (va_up (va_up (va_up F 38 (upd f38 n (nI pp))) 39 (upd f39 n 0)) 40 f40) 41 f41)) := hD
          refine q_ist (X := n) (f := f40) (x := (nI (To pp - Fm pp))) hx hb hK hP hD hS 29 1 rfl rfl (by omega) (by decide) dX10_lock_137 (fun H locs hP hD hS => ?_)
          have hP : va_P D vcl (mW h0 q cB cI cZ I (va_up (va_up (va_up (va_up F 38 (upd f38 n (nI pp))) 39 (upd f39 n 0)) 40 (upd f40 n (nI (To pp - Fm pp)))) 41 f41)) H := hP
          have hD : va_D A (mW h0 q cB cI cZ I (va_up (va_up (va_up (va_up F 38 (upd f38 n (nI pp))) 39 (upd f39 n 0)) 40 (upd f40 n (nI (To pp - Fm pp)))) 41 f41)) := hD
          refine lv_aload_n hx hb dX10_lock_138 rfl (lv_at hl 5 rfl) ?_
          refine va_get (D := D) (ci := 11) (v := .ref (q 41)) (C := RX10) (T := TX10) (N := 48) hx hb hts inX10 hown hK hP 0 rfl rfl 41 (by decide) (hts _ k_1185) (fun _ h9 => h9) rfl dX10_lock_139 ?_
          refine lv_iload_n hx hb dX10_lock_142 rfl (lv_at hl 4 rfl) ?_
          refine lv_iload_n hx hb dX10_lock_143 rfl (lv_at hl 3 rfl) ?_
          refine q_ist (X := n) (f := f41) (x := (nI g)) hx hb hK hP hD hS 30 1 rfl rfl (by omega) (by decide) dX10_lock_144 (fun H locs hP hD hS => ?_)
          have hP : va_P D vcl (mW h0 q cB cI cZ I (va_up (va_up (va_up (va_up F 38 (upd f38 n (nI pp))) 39 (upd f39 n 0)) 40 (upd f40 n (nI (To pp - Fm pp)))) 41 (upd f41 n (nI g)))) H := hP
          have hD : va_D A (mW h0 q cB cI cZ I (va_up (va_up (va_up (va_up F 38 (upd f38 n (nI pp))) 39 (upd f39 n 0)) 40 (upd f40 n (nI (To pp - Fm pp)))) 41 (upd f41 n (nI g)))) := hD
          refine lv_iinc (v := (nI (n + 1))) (lv' := [(1, .int (nI (n + 1))), (5, .int (nI pp)), (4, .int (nI sv)), (3, .int (nI (Bp (g + 1)))), (2, .int (nI g)), (0, .ref h0)]) hx hb dX10_lock_145 hl (k := 4) rfl (nI_add n 1) (by decide) rfl (fun ls hl => ?_)
          refine lv_iload hx hb dX10_lock_148 (lv_at hl 1 rfl) ?_
          refine lv_iload_n hx hb dX10_lock_150 rfl (lv_at hl 3 rfl) ?_
          refine lv_icmp_ne (tgt := 158) hx hb dX10_lock_151 (by decide) (fun c_4 => ?_) (fun c_4 => ?_)
          · have c_4 := q_nen (a := pp) (b := Bp (g + 1)) (by omega) (by omega) c_4
            refine lv_iload hx hb dX10_lock_158 (lv_at hl 2 rfl) ?_
            refine lv_istore (lv' := [(4, .int (nI sv)), (1, .int (nI (n + 1))), (5, .int (nI pp)), (3, .int (nI (Bp (g + 1)))), (2, .int (nI g)), (0, .ref h0)]) hx hb dX10_lock_160 hl (by decide) rfl (fun ls hl => ?_)
            refine lv_iinc (v := (nI (pp + 1))) (lv' := [(5, .int (nI (pp + 1))), (4, .int (nI sv)), (1, .int (nI (n + 1))), (3, .int (nI (Bp (g + 1)))), (2, .int (nI g)), (0, .ref h0)]) hx hb dX10_lock_162 hl (k := 2) rfl (nI_add pp 1) (by decide) rfl (fun ls hl => ?_)
            refine lv_goto (tgt := 63) hx hb dX10_lock_165 (by decide) ?_
            have hnb2 := hnb (by omega)
            rw [if_neg (by omega)] at hnb2
            refine ih (pp + 1) sv (n + 1) (P ++ [(pp, 0, To pp - Fm pp, g)]) _ _ _ _ H locs ls (by omega) (by omega) (fun z => hsv (by omega)) (by rw [List.length_append, hnP]; rfl) (pc_is_s hnP hpc) (fun z => by rw [if_neg (show ¬ pp + 1 = Bp g by omega)]; have z2 : rs_S Fm To (pp + 1) = rs_S Fm To pp + (To pp - Fm pp) := rfl; omega) (fun z => absurd z (by omega)) hP hD hS (lv_sub hl (l' := [(5, .int (nI (pp + 1))), (4, .int (nI sv)), (3, .int (nI (Bp (g + 1)))), (2, .int (nI g)), (1, .int (nI (n + 1))), (0, .ref h0)]) [0, 1, 3, 4, 2, 5] rfl) (fun n2 P2 g1 g2 g3 g4 H locs ls e1 => kk n2 P2 g1 g2 g3 g4 H locs ls (by rw [e1, (lk_page_lt (by omega) (if_neg (by omega)).symm), List.append_assoc]; rfl))
          · have c_4 := q_eqn (a := pp) (b := Bp (g + 1)) (by omega) (by omega) c_4
            exact False.elim (by omega)
        · have c_3 := q_eqn (a := pp) (b := Bp (g + 1)) (by omega) (by omega) c_3
          exact False.elim (by omega)
      · have c_2 := q_eqn (a := pp) (b := Bp g) (by omega) (by omega) c_2
        refine lv_aload_n hx hb dX10_lock_104 rfl (lv_at hl 5 rfl) ?_
        refine va_get (D := D) (ci := 11) (v := .ref (q 36)) (C := RX10) (T := TX10) (N := 48) hx hb hts inX10 hown hK hP 0 rfl rfl 36 (by decide) (hts _ k_1180) (fun _ h9 => h9) rfl dX10_lock_105 ?_
        refine lv_iload_n hx hb dX10_lock_108 rfl (lv_at hl 3 rfl) ?_
        refine q_ild (X := g) (f := (F 36)) hx hb hK hP 25 1 rfl rfl (by omega) (by decide) dX10_lock_109 ?_
        refine q_seti (y := (nI (Br g))) (hrd g (by omega)).2 ?_
        refine lv_goto (tgt := 114) hx hb dX10_lock_110 (by decide) ?_
        refine q_ist (X := n) (f := f39) (x := (nI (Br g))) hx hb hK hP hD hS 28 1 rfl rfl (by omega) (by decide) dX10_lock_114 (fun H locs hP hD hS => ?_)
        have hP : va_P D vcl (mW h0 q cB cI cZ I (va_up (va_up (va_up (va_up F 38 (upd f38 n (nI pp))) 39 (upd f39 n (nI (Br g)))) 40 f40) 41 f41)) H := hP
        have hD : va_D A (mW h0 q cB cI cZ I (va_up (va_up (va_up (va_up F 38 (upd f38 n (nI pp))) 39 (upd f39 n (nI (Br g)))) 40 f40) 41 f41)) := hD
        refine lv_aload_n hx hb dX10_lock_115 rfl (lv_at hl 5 rfl) ?_
        refine va_get (D := D) (ci := 11) (v := .ref (q 40)) (C := RX10) (T := TX10) (N := 48) hx hb hts inX10 hown hK hP 0 rfl rfl 40 (by decide) (hts _ k_1184) (fun _ h9 => h9) rfl dX10_lock_116 ?_
        refine lv_iload_n hx hb dX10_lock_119 rfl (lv_at hl 4 rfl) ?_
        refine lv_iload hx hb dX10_lock_120 (lv_at hl 0 rfl) ?_
        refine lv_iload_n hx hb dX10_lock_122 rfl (lv_at hl 2 rfl) ?_
        refine lv_icmp_ne (tgt := 131) hx hb dX10_lock_123 (by decide) (fun c_5 => ?_) (fun c_5 => ?_)
        · have c_5 := q_nen (a := pp) (b := Bp (g + 1)) (by omega) (by omega) c_5
          refine lv_aload_n hx hb dX10_lock_131 rfl (lv_at hl 5 rfl) ?_
          refine lv_iload hx hb dX10_lock_132 (lv_at hl 0 rfl) ?_
          refine q_ci (k := cells) (n := slots) hK hP hD hS hA (fun hPc hKc hDc => q_rV (As := [.int (nI pp)]) (rest := [.int (nI n), .ref (q 40)]) hf (r_size _ D h0 q cB cI cZ I (va_up (va_up (va_up (va_up F 38 (upd f38 n (nI pp))) 39 (upd f39 n (nI (Br g)))) 40 f40) 41 f41) pn pe sl K Fm To Rr pp hpv (by omega) _) k_1391 k_1388 k_1390 k_62 k_98 (nA := 1) (by decide +kernel) ⟨Nat.le_trans (by decide) hRf, Nat.le_trans (by decide) hRl⟩ hK hP (ci := 11) (q0 := 0) rfl rfl rfl hPc hKc hDc (fun _ _ _ _ h => h) (fun _ _ _ => trivial) rfl hl.1 rfl (Nat.le_of_ble_eq_true rfl) dX10_lock_134 ⟨hRc, hRs⟩) (Nat.le_refl _) (Nat.le_refl _) (fun r u H locs hw hK hP hD hS => ?_)
          obtain ⟨rfl, rfl⟩ := hw
          have hP : va_P D vcl (mW h0 q cB cI cZ I (va_up (va_up (va_up (va_up F 38 (upd f38 n (nI pp))) 39 (upd f39 n (nI (Br g)))) 40 f40) 41 f41)) H := hP
          have hD : va_D A (mW h0 q cB cI cZ I (va_up (va_up (va_up (va_up F 38 (upd f38 n (nI pp))) 39 (upd f39 n (nI (Br g)))) 40 f40) 41 f41)) := hD
          refine q_ist (X := n) (f := f40) (x := (nI (To pp - Fm pp))) hx hb hK hP hD hS 29 1 rfl rfl (by omega) (by decide) dX10_lock_137 (fun H locs hP hD hS => ?_)
          have hP : va_P D vcl (mW h0 q cB cI cZ I (va_up (va_up (va_up (va_up F 38 (upd f38 n (nI pp))) 39 (upd f39 n (nI (Br g)))) 40 (upd f40 n (nI (To pp - Fm pp)))) 41 f41)) H := hP
          have hD : va_D A (mW h0 q cB cI cZ I (va_up (va_up (va_up (va_up F 38 (upd f38 n (nI pp))) 39 (upd f39 n (nI (Br g)))) 40 (upd f40 n (nI (To pp - Fm pp)))) 41 f41)) := hD
          refine lv_aload_n hx hb dX10_lock_138 rfl (lv_at hl 5 rfl) ?_
          refine va_get (D := D) (ci := 11) (v := .ref (q 41)) (C := RX10) (T := TX10) (N := 48) hx hb hts inX10 hown hK hP 0 rfl rfl 41 (by decide) (hts _ k_1185) (fun _ h9 => h9) rfl dX10_lock_139 ?_
          refine lv_iload_n hx hb dX10_lock_142 rfl (lv_at hl 4 rfl) ?_
          refine lv_iload_n hx hb dX10_lock_143 rfl (lv_at hl 3 rfl) ?_
          refine q_ist (X := n) (f := f41) (x := (nI g)) hx hb hK hP hD hS 30 1 rfl rfl (by omega) (by decide) dX10_lock_144 (fun H locs hP hD hS => ?_)
          have hP : va_P D vcl (mW h0 q cB cI cZ I (va_up (va_up (va_up (va_up F 38 (upd f38 n (nI pp))) 39 (upd f39 n (nI (Br g)))) 40 (upd f40 n (nI (To pp - Fm pp)))) 41 (upd f41 n (nI g)))) H := hP
          have hD : va_D A (mW h0 q cB cI cZ I (va_up (va_up (va_up (va_up F 38 (upd f38 n (nI pp))) 39 (upd f39 n (nI (Br g)))) 40 (upd f40 n (nI (To pp - Fm pp)))) 41 (upd f41 n (nI g)))) := hD
          refine lv_iinc (v := (nI (n + 1))) (lv' := [(1, .int (nI (n + 1))), (5, .int (nI pp)), (4, .int (nI sv)), (3, .int (nI (Bp (g + 1)))), (2, .int (nI g)), (0, .ref h0)]) hx hb dX10_lock_145 hl (k := 4) rfl (nI_add n 1) (by decide) rfl (fun ls hl => ?_)
          refine lv_iload hx hb dX10_lock_148 (lv_at hl 1 rfl) ?_
          refine lv_iload_n hx hb dX10_lock_150 rfl (lv_at hl 3 rfl) ?_
          refine lv_icmp_ne (tgt := 158) hx hb dX10_lock_151 (by decide) (fun c_6 => ?_) (fun c_6 => ?_)
          · have c_6 := q_nen (a := pp) (b := Bp (g + 1)) (by omega) (by omega) c_6
            refine lv_iload hx hb dX10_lock_158 (lv_at hl 2 rfl) ?_
            refine lv_istore (lv' := [(4, .int (nI sv)), (1, .int (nI (n + 1))), (5, .int (nI pp)), (3, .int (nI (Bp (g + 1)))), (2, .int (nI g)), (0, .ref h0)]) hx hb dX10_lock_160 hl (by decide) rfl (fun ls hl => ?_)
            refine lv_iinc (v := (nI (pp + 1))) (lv' := [(5, .int (nI (pp + 1))), (4, .int (nI sv)), (1, .int (nI (n + 1))), (3, .int (nI (Bp (g + 1)))), (2, .int (nI g)), (0, .ref h0)]) hx hb dX10_lock_162 hl (k := 2) rfl (nI_add pp 1) (by decide) rfl (fun ls hl => ?_)
            refine lv_goto (tgt := 63) hx hb dX10_lock_165 (by decide) ?_
            have h3 := hgg.2.1
            rw [← show pp = Bp g by omega] at h3
            have hnb2 := hnb (by omega)
            rw [if_pos (by omega)] at hnb2
            refine ih (pp + 1) sv (n + 1) (P ++ [(pp, Br g, To pp - Fm pp, g)]) _ _ _ _ H locs ls (by omega) (by omega) (fun z => hsv (by omega)) (by rw [List.length_append, hnP]; rfl) (pc_is_s hnP hpc) (fun z => by rw [if_neg (show ¬ pp + 1 = Bp g by omega)]; have z2 : rs_S Fm To (pp + 1) = rs_S Fm To pp + (To pp - Fm pp) := rfl; omega) (fun z => absurd z (by omega)) hP hD hS (lv_sub hl (l' := [(5, .int (nI (pp + 1))), (4, .int (nI sv)), (3, .int (nI (Bp (g + 1)))), (2, .int (nI g)), (1, .int (nI (n + 1))), (0, .ref h0)]) [0, 1, 3, 4, 2, 5] rfl) (fun n2 P2 g1 g2 g3 g4 H locs ls e1 => kk n2 P2 g1 g2 g3 g4 H locs ls (by rw [e1, (lk_page_lt (by omega) (if_pos (by omega)).symm), List.append_assoc]; rfl))
          · have c_6 := q_eqn (a := pp) (b := Bp (g + 1)) (by omega) (by omega) c_6
            exact False.elim (by omega)
        · have c_5 := q_eqn (a := pp) (b := Bp (g + 1)) (by omega) (by omega) c_5
          exact False.elim (by omega)
    · have c_1 := q_nlt (a := pp) (b := Bp (g + 1)) (by omega) (by omega) c_1
      refine lv_iload hx hb dX10_lock_69 (lv_at hl 0 rfl) ?_
      refine lv_iload_n hx hb dX10_lock_71 rfl (lv_at hl 2 rfl) ?_
      refine lv_icmp_ne (tgt := 168) hx hb dX10_lock_72 (by decide) (fun c_7 => ?_) (fun c_7 => ?_)
      · have c_7 := q_nen (a := pp) (b := Bp (g + 1)) (by omega) (by omega) c_7
        exact kk n P f38 f39 f40 f41 H locs ls (by rw [lk_page_out (by omega) (fun z => by have := hsv (by omega); omega), List.append_nil]) hnP hpc (hnc (by omega)) hP hD hS (lv_sub hl (l' := [(2, .int (nI g)), (1, .int (nI n)), (0, .ref h0)]) [3, 4, 5] rfl)
      · have c_7 := q_eqn (a := pp) (b := Bp (g + 1)) (by omega) (by omega) c_7
        refine lv_iload hx hb dX10_lock_75 (lv_at hl 1 rfl) ?_
        refine lv_if_le (tgt := 168) hx hb dX10_lock_77 (by decide) (fun c_8 => ?_) (fun c_8 => ?_)
        · have c_8 := q_le (a := sv) (b := 0) (by omega) (by omega) c_8
          have e9 : pp = Bp (g + 1) := by omega
          have h1 := hsv (by omega)
          have h2 := hnb (by omega)
          rw [if_neg (show ¬ pp = Bp g from fun z => by have := hor.2 (by omega); omega), e9] at h2
          exact kk n P f38 f39 f40 f41 H locs ls (by rw [lk_page_out (by omega) (fun z => by have := hsv (by omega); omega), List.append_nil]) hnP hpc (by omega) hP hD hS (lv_sub hl (l' := [(2, .int (nI g)), (1, .int (nI n)), (0, .ref h0)]) [3, 4, 5] rfl)
        · have c_8 := q_nle (a := sv) (b := 0) (by omega) (by omega) c_8
          have hpvq : pp < pn := by omega
          have hpvp := hpv.2 pp hpvq
          have hs3 := rs_S_le (Fm := Fm) (To := To) hpvq
          have hn8 : n < 8000 := by
            have h2 := hnb (by omega)
            by_cases e : pp = Bp g
            · rw [if_pos e] at h2; have h3 := hgg.2.1; rw [← e] at h3; omega
            · rw [if_neg e] at h2; omega
          obtain rfl : sv = Br (g + 1) := hsv (by omega)
          refine lv_aload_n hx hb dX10_lock_80 rfl (lv_at hl 5 rfl) ?_
          refine va_get (D := D) (ci := 11) (v := .ref (q 38)) (C := RX10) (T := TX10) (N := 48) hx hb hts inX10 hown hK hP 0 rfl rfl 38 (by decide) (hts _ k_1182) (fun _ h9 => h9) rfl dX10_lock_81 ?_
          refine lv_iload_n hx hb dX10_lock_84 rfl (lv_at hl 4 rfl) ?_
          refine lv_iload hx hb dX10_lock_85 (lv_at hl 0 rfl) ?_
          refine q_ist (X := n) (f := f38) (x := (nI pp)) hx hb hK hP hD hS 27 1 rfl rfl (by omega) (by decide) dX10_lock_87 (fun H locs hP hD hS => ?_)
          have hP : va_P D vcl (mW h0 q cB cI cZ I (va_up (va_up (va_up (va_up F 38 (upd f38 n (nI pp))) 39 f39) 40 f40) 41 f41)) H := hP
          have hD : va_D A (mW h0 q cB cI cZ I (va_up (va_up (va_up (va_up F 38 (upd f38 n (nI pp))) 39 f39) 40 f40) 41 f41)) := hD
          refine lv_aload_n hx hb dX10_lock_88 rfl (lv_at hl 5 rfl) ?_
          refine va_get (D := D) (ci := 11) (v := .ref (q 39)) (C := RX10) (T := TX10) (N := 48) hx hb hts inX10 hown hK hP 0 rfl rfl 39 (by decide) (hts _ k_1183) (fun _ h9 => h9) rfl dX10_lock_89 ?_
          refine lv_iload_n hx hb dX10_lock_92 rfl (lv_at hl 4 rfl) ?_
          refine lv_iload hx hb dX10_lock_93 (lv_at hl 0 rfl) ?_
          refine lv_aload_n hx hb dX10_lock_95 rfl (lv_at hl 5 rfl) ?_
          refine va_get (D := D) (ci := 11) (v := .ref (q 35)) (C := RX10) (T := TX10) (N := 48) hx hb hts inX10 hown hK hP 0 rfl rfl 35 (by decide) (hts _ k_1179) (fun _ h9 => h9) rfl dX10_lock_96 ?_
          refine lv_iload_n hx hb dX10_lock_99 rfl (lv_at hl 3 rfl) ?_
          refine q_ild (X := g) (f := (F 35)) hx hb hK hP 24 1 rfl rfl (by omega) (by decide) dX10_lock_100 ?_
          refine q_seti (y := (nI (Bp g))) (hrd g (by omega)).1 ?_
          refine lv_icmp_ne (tgt := 113) hx hb dX10_lock_101 (by decide) (fun c_9 => ?_) (fun c_9 => ?_)
          · have c_9 := q_nen (a := pp) (b := Bp g) (by omega) (by omega) c_9
            refine lv_iconst (v := 0) hx hb dX10_lock_113 (by decide) ?_
            refine q_ist (X := n) (f := f39) (x := 0) hx hb hK hP hD hS 28 1 rfl rfl (by omega) (by decide) dX10_lock_114 (fun H locs hP hD hS => ?_)
            have hP : va_P D vcl (mW h0 q cB cI cZ I (va_up (va_up (va_up (va_up F 38 (upd f38 n (nI pp))) 39 (upd f39 n 0)) 40 f40) 41 f41)) H := hP
            have hD : va_D A (mW h0 q cB cI cZ I (va_up (va_up (va_up (va_up F 38 (upd f38 n (nI pp))) 39 (upd f39 n 0)) 40 f40) 41 f41)) := hD
            refine lv_aload_n hx hb dX10_lock_115 rfl (lv_at hl 5 rfl) ?_
            refine va_get (D := D) (ci := 11) (v := .ref (q 40)) (C := RX10) (T := TX10) (N := 48) hx hb hts inX10 hown hK hP 0 rfl rfl 40 (by decide) (hts _ k_1184) (fun _ h9 => h9) rfl dX10_lock_116 ?_
            refine lv_iload_n hx hb dX10_lock_119 rfl (lv_at hl 4 rfl) ?_
            refine lv_iload hx hb dX10_lock_120 (lv_at hl 0 rfl) ?_
            refine lv_iload_n hx hb dX10_lock_122 rfl (lv_at hl 2 rfl) ?_
            refine lv_icmp_ne (tgt := 131) hx hb dX10_lock_123 (by decide) (fun c_10 => ?_) (fun c_10 => ?_)
            · have c_10 := q_nen (a := pp) (b := Bp (g + 1)) (by omega) (by omega) c_10
              exact False.elim (by omega)
            · have c_10 := q_eqn (a := pp) (b := Bp (g + 1)) (by omega) (by omega) c_10
              refine lv_iload hx hb dX10_lock_126 (lv_at hl 1 rfl) ?_
              refine lv_goto (tgt := 137) hx hb dX10_lock_128 (by decide) ?_
              refine q_ist (X := n) (f := f40) (x := (nI (Br (g + 1)))) hx hb hK hP hD hS 29 1 rfl rfl (by omega) (by decide) dX10_lock_137 (fun H locs hP hD hS => ?_)
              have hP : va_P D vcl (mW h0 q cB cI cZ I (va_up (va_up (va_up (va_up F 38 (upd f38 n (nI pp))) 39 (upd f39 n 0)) 40 (upd f40 n (nI (Br (g + 1))))) 41 f41)) H := hP
              have hD : va_D A (mW h0 q cB cI cZ I (va_up (va_up (va_up (va_up F 38 (upd f38 n (nI pp))) 39 (upd f39 n 0)) 40 (upd f40 n (nI (Br (g + 1))))) 41 f41)) := hD
              refine lv_aload_n hx hb dX10_lock_138 rfl (lv_at hl 5 rfl) ?_
              refine va_get (D := D) (ci := 11) (v := .ref (q 41)) (C := RX10) (T := TX10) (N := 48) hx hb hts inX10 hown hK hP 0 rfl rfl 41 (by decide) (hts _ k_1185) (fun _ h9 => h9) rfl dX10_lock_139 ?_
              refine lv_iload_n hx hb dX10_lock_142 rfl (lv_at hl 4 rfl) ?_
              refine lv_iload_n hx hb dX10_lock_143 rfl (lv_at hl 3 rfl) ?_
              refine q_ist (X := n) (f := f41) (x := (nI g)) hx hb hK hP hD hS 30 1 rfl rfl (by omega) (by decide) dX10_lock_144 (fun H locs hP hD hS => ?_)
              have hP : va_P D vcl (mW h0 q cB cI cZ I (va_up (va_up (va_up (va_up F 38 (upd f38 n (nI pp))) 39 (upd f39 n 0)) 40 (upd f40 n (nI (Br (g + 1))))) 41 (upd f41 n (nI g)))) H := hP
              have hD : va_D A (mW h0 q cB cI cZ I (va_up (va_up (va_up (va_up F 38 (upd f38 n (nI pp))) 39 (upd f39 n 0)) 40 (upd f40 n (nI (Br (g + 1))))) 41 (upd f41 n (nI g)))) := hD
              refine lv_iinc (v := (nI (n + 1))) (lv' := [(1, .int (nI (n + 1))), (5, .int (nI pp)), (4, .int (nI (Br (g + 1)))), (3, .int (nI (Bp (g + 1)))), (2, .int (nI g)), (0, .ref h0)]) hx hb dX10_lock_145 hl (k := 4) rfl (nI_add n 1) (by decide) rfl (fun ls hl => ?_)
              refine lv_iload hx hb dX10_lock_148 (lv_at hl 1 rfl) ?_
              refine lv_iload_n hx hb dX10_lock_150 rfl (lv_at hl 3 rfl) ?_
              refine lv_icmp_ne (tgt := 158) hx hb dX10_lock_151 (by decide) (fun c_11 => ?_) (fun c_11 => ?_)
              · have c_11 := q_nen (a := pp) (b := Bp (g + 1)) (by omega) (by omega) c_11
                exact False.elim (by omega)
              · have c_11 := q_eqn (a := pp) (b := Bp (g + 1)) (by omega) (by omega) c_11
                refine lv_iconst (v := 0) hx hb dX10_lock_154 (by decide) ?_
                refine lv_goto (tgt := 160) hx hb dX10_lock_155 (by decide) ?_
                refine lv_istore (lv' := [(4, .int 0), (1, .int (nI (n + 1))), (5, .int (nI pp)), (3, .int (nI (Bp (g + 1)))), (2, .int (nI g)), (0, .ref h0)]) hx hb dX10_lock_160 hl (by decide) rfl (fun ls hl => ?_)
                refine lv_iinc (v := (nI (pp + 1))) (lv' := [(5, .int (nI (pp + 1))), (4, .int 0), (1, .int (nI (n + 1))), (3, .int (nI (Bp (g + 1)))), (2, .int (nI g)), (0, .ref h0)]) hx hb dX10_lock_162 hl (k := 2) rfl (nI_add pp 1) (by decide) rfl (fun ls hl => ?_)
                refine lv_goto (tgt := 63) hx hb dX10_lock_165 (by decide) ?_
                have hnb2 := hnb (by omega)
                rw [if_neg (by omega)] at hnb2
                refine ih (pp + 1) 0 (n + 1) (P ++ [(pp, 0, Br (g + 1), g)]) _ _ _ _ H locs ls (by omega) (by omega) (fun z => absurd z (by omega)) (by rw [List.length_append, hnP]; rfl) (pc_is_s hnP hpc) (fun z => by rw [if_neg (show ¬ pp + 1 = Bp g by omega)]; have z2 : rs_S Fm To (pp + 1) = rs_S Fm To pp + (To pp - Fm pp) := rfl; omega) (fun z => by have e9 : pp = Bp (g + 1) := (by omega); rw [e9] at hnb2; omega) hP hD hS (lv_sub hl (l' := [(5, .int (nI (pp + 1))), (4, .int 0), (3, .int (nI (Bp (g + 1)))), (2, .int (nI g)), (1, .int (nI (n + 1))), (0, .ref h0)]) [0, 1, 3, 4, 2, 5] rfl) (fun n2 P2 g1 g2 g3 g4 H locs ls e1 => kk n2 P2 g1 g2 g3 g4 H locs ls (by rw [e1, (lk_page_eq (by omega) (by omega) (if_neg (by omega)).symm), List.append_assoc]; rfl))
          · have c_9 := q_eqn (a := pp) (b := Bp g) (by omega) (by omega) c_9
            refine lv_aload_n hx hb dX10_lock_104 rfl (lv_at hl 5 rfl) ?_
            refine va_get (D := D) (ci := 11) (v := .ref (q 36)) (C := RX10) (T := TX10) (N := 48) hx hb hts inX10 hown hK hP 0 rfl rfl 36 (by decide) (hts _ k_1180) (fun _ h9 => h9) rfl dX10_lock_105 ?_
            refine lv_iload_n hx hb dX10_lock_108 rfl (lv_at hl 3 rfl) ?_
            refine q_ild (X := g) (f := (F 36)) hx hb hK hP 25 1 rfl rfl (by omega) (by decide) dX10_lock_109 ?_
            refine q_seti (y := (nI (Br g))) (hrd g (by omega)).2 ?_
            refine lv_goto (tgt := 114) hx hb dX10_lock_110 (by decide) ?_
            refine q_ist (X := n) (f := f39) (x := (nI (Br g))) hx hb hK hP hD hS 28 1 rfl rfl (by omega) (by decide) dX10_lock_114 (fun H locs hP hD hS => ?_)
            have hP : va_P D vcl (mW h0 q cB cI cZ I (va_up (va_up (va_up (va_up F 38 (upd f38 n (nI pp))) 39 (upd f39 n (nI (Br g)))) 40 f40) 41 f41)) H := hP
            have hD : va_D A (mW h0 q cB cI cZ I (va_up (va_up (va_up (va_up F 38 (upd f38 n (nI pp))) 39 (upd f39 n (nI (Br g)))) 40 f40) 41 f41)) := hD
            refine lv_aload_n hx hb dX10_lock_115 rfl (lv_at hl 5 rfl) ?_
            refine va_get (D := D) (ci := 11) (v := .ref (q 40)) (C := RX10) (T := TX10) (N := 48) hx hb hts inX10 hown hK hP 0 rfl rfl 40 (by decide) (hts _ k_1184) (fun _ h9 => h9) rfl dX10_lock_116 ?_
            refine lv_iload_n hx hb dX10_lock_119 rfl (lv_at hl 4 rfl) ?_
            refine lv_iload hx hb dX10_lock_120 (lv_at hl 0 rfl) ?_
            refine lv_iload_n hx hb dX10_lock_122 rfl (lv_at hl 2 rfl) ?_
            refine lv_icmp_ne (tgt := 131) hx hb dX10_lock_123 (by decide) (fun c_12 => ?_) (fun c_12 => ?_)
            · have c_12 := q_nen (a := pp) (b := Bp (g + 1)) (by omega) (by omega) c_12
              exact False.elim (by omega)
            · have c_12 := q_eqn (a := pp) (b := Bp (g + 1)) (by omega) (by omega) c_12
              refine lv_iload hx hb dX10_lock_126 (lv_at hl 1 rfl) ?_
              refine lv_goto (tgt := 137) hx hb dX10_lock_128 (by decide) ?_
              refine q_ist (X := n) (f := f40) (x := (nI (Br (g + 1)))) hx hb hK hP hD hS 29 1 rfl rfl (by omega) (by decide) dX10_lock_137 (fun H locs hP hD hS => ?_)
              have hP : va_P D vcl (mW h0 q cB cI cZ I (va_up (va_up (va_up (va_up F 38 (upd f38 n (nI pp))) 39 (upd f39 n (nI (Br g)))) 40 (upd f40 n (nI (Br (g + 1))))) 41 f41)) H := hP
              have hD : va_D A (mW h0 q cB cI cZ I (va_up (va_up (va_up (va_up F 38 (upd f38 n (nI pp))) 39 (upd f39 n (nI (Br g)))) 40 (upd f40 n (nI (Br (g + 1))))) 41 f41)) := hD
              refine lv_aload_n hx hb dX10_lock_138 rfl (lv_at hl 5 rfl) ?_
              refine va_get (D := D) (ci := 11) (v := .ref (q 41)) (C := RX10) (T := TX10) (N := 48) hx hb hts inX10 hown hK hP 0 rfl rfl 41 (by decide) (hts _ k_1185) (fun _ h9 => h9) rfl dX10_lock_139 ?_
              refine lv_iload_n hx hb dX10_lock_142 rfl (lv_at hl 4 rfl) ?_
              refine lv_iload_n hx hb dX10_lock_143 rfl (lv_at hl 3 rfl) ?_
              refine q_ist (X := n) (f := f41) (x := (nI g)) hx hb hK hP hD hS 30 1 rfl rfl (by omega) (by decide) dX10_lock_144 (fun H locs hP hD hS => ?_)
              have hP : va_P D vcl (mW h0 q cB cI cZ I (va_up (va_up (va_up (va_up F 38 (upd f38 n (nI pp))) 39 (upd f39 n (nI (Br g)))) 40 (upd f40 n (nI (Br (g + 1))))) 41 (upd f41 n (nI g)))) H := hP
              have hD : va_D A (mW h0 q cB cI cZ I (va_up (va_up (va_up (va_up F 38 (upd f38 n (nI pp))) 39 (upd f39 n (nI (Br g)))) 40 (upd f40 n (nI (Br (g + 1))))) 41 (upd f41 n (nI g)))) := hD
              refine lv_iinc (v := (nI (n + 1))) (lv' := [(1, .int (nI (n + 1))), (5, .int (nI pp)), (4, .int (nI (Br (g + 1)))), (3, .int (nI (Bp (g + 1)))), (2, .int (nI g)), (0, .ref h0)]) hx hb dX10_lock_145 hl (k := 4) rfl (nI_add n 1) (by decide) rfl (fun ls hl => ?_)
              refine lv_iload hx hb dX10_lock_148 (lv_at hl 1 rfl) ?_
              refine lv_iload_n hx hb dX10_lock_150 rfl (lv_at hl 3 rfl) ?_
              refine lv_icmp_ne (tgt := 158) hx hb dX10_lock_151 (by decide) (fun c_13 => ?_) (fun c_13 => ?_)
              · have c_13 := q_nen (a := pp) (b := Bp (g + 1)) (by omega) (by omega) c_13
                exact False.elim (by omega)
              · have c_13 := q_eqn (a := pp) (b := Bp (g + 1)) (by omega) (by omega) c_13
                refine lv_iconst (v := 0) hx hb dX10_lock_154 (by decide) ?_
                refine lv_goto (tgt := 160) hx hb dX10_lock_155 (by decide) ?_
                refine lv_istore (lv' := [(4, .int 0), (1, .int (nI (n + 1))), (5, .int (nI pp)), (3, .int (nI (Bp (g + 1)))), (2, .int (nI g)), (0, .ref h0)]) hx hb dX10_lock_160 hl (by decide) rfl (fun ls hl => ?_)
                refine lv_iinc (v := (nI (pp + 1))) (lv' := [(5, .int (nI (pp + 1))), (4, .int 0), (1, .int (nI (n + 1))), (3, .int (nI (Bp (g + 1)))), (2, .int (nI g)), (0, .ref h0)]) hx hb dX10_lock_162 hl (k := 2) rfl (nI_add pp 1) (by decide) rfl (fun ls hl => ?_)
                refine lv_goto (tgt := 63) hx hb dX10_lock_165 (by decide) ?_
                have h3 := hgg.2.1
                rw [← show pp = Bp g by omega] at h3
                have hnb2 := hnb (by omega)
                rw [if_pos (by omega)] at hnb2
                refine ih (pp + 1) 0 (n + 1) (P ++ [(pp, Br g, Br (g + 1), g)]) _ _ _ _ H locs ls (by omega) (by omega) (fun z => absurd z (by omega)) (by rw [List.length_append, hnP]; rfl) (pc_is_s hnP hpc) (fun z => by rw [if_neg (show ¬ pp + 1 = Bp g by omega)]; have z2 : rs_S Fm To (pp + 1) = rs_S Fm To pp + (To pp - Fm pp) := rfl; omega) (fun z => by have e9 : pp = Bp (g + 1) := (by omega); have := hor.2 (by omega); rw [e9] at hnb2; omega) hP hD hS (lv_sub hl (l' := [(5, .int (nI (pp + 1))), (4, .int 0), (3, .int (nI (Bp (g + 1)))), (2, .int (nI g)), (1, .int (nI (n + 1))), (0, .ref h0)]) [0, 1, 3, 4, 2, 5] rfl) (fun n2 P2 g1 g2 g3 g4 H locs ls e1 => kk n2 P2 g1 g2 g3 g4 H locs ls (by rw [e1, (lk_page_eq (by omega) (by omega) (if_pos (by omega)).symm), List.append_assoc]; rfl))
