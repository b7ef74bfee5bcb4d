def gT : List Cond := lw_tbl.filter goodWord
theorem gT_i {w : Cond} (i : Nat) (h : lw_tbl[i]? = some w) (hg : goodWord w = true) : w ∈ gT := List.mem_filter.mpr ⟨List.mem_of_getElem? h, hg⟩
theorem gT_lw : ∀ w ∈ gT, w ∈ lw_tbl := fun w h => (List.mem_filter.mp h).1
theorem gT_ins {ws : List Cond} (ps : List Nat) (hp : ws = ps.filterMap (fun i => lw_tbl[i]?)) (h : ws.all goodWord = true) : ∀ w ∈ ws, w ∈ gT := by
  intro w hw
  have h1 := List.all_eq_true.mp h w hw
  rw [hp] at hw
  obtain ⟨i, -, hi⟩ := List.mem_filterMap.mp hw
  exact gT_i i hi h1
theorem gT_good {w : Cond} (h : w ∈ gT) : GoodIn gT (w :: gT) := by
  intro v hv
  have hm : v ∈ gT := by
    rcases List.mem_cons.mp hv with h1 | h1
    · rw [h1]; exact h
    · exact h1
  exact ⟨hm, good_of_word (List.mem_filter.mp hm).2⟩
theorem q_fm {α : Type} {ws : List α} {is : List Nat} {w : List α} (h : is.map (fun i => ws[i]?) = w.map some) : is.filterMap (fun i => ws[i]?) = w := by
  have h2 : (is.map (fun i => ws[i]?)).filterMap id = (w.map some).filterMap id := by rw [h]
  rw [List.filterMap_map, List.filterMap_map] at h2
  have h3 : w.filterMap (id ∘ some) = w := by
    induction w with
    | nil => rfl
    | cons a l ih => simp
  rw [h3] at h2
  exact h2
abbrev wU : Type := va_W × List (ClassId × FieldType)
def wB (D : va_G) (A : Nat → Prop) (u : wU) (t : State) : Prop := va_P D vcl u.1 t.heap ∧ va_K D vcl u.2 t ∧ va_D A u.1
def wI (D : va_G) (Z : Nat → State → Prop) (sz : Nat) (w0 : va_W) (t0 : List (ClassId × FieldType)) (U : State) : Prop := U.heap.size = sz ∧ va_P D vcl w0 U.heap ∧ va_K D vcl t0 U ∧ va_D (fun _ => True) w0 ∧ Z sz U
def zT : Nat → State → Prop := fun _ _ => True
abbrev cW (y : MethodName) (b : ByteArray) (n : Nat) (r : Option FieldType) : List Cond := Cond.code y b n r :: gT
def cI (l : Launch) (D : va_G) (y : MethodName) (b : ByteArray) (n : Nat) (r : Option FieldType) (fr lo mc ms : Nat) (As : List Value) (Z : Nat → State → Prop) (w0 : va_W) (t0 : List (ClassId × FieldType)) (post : Int32 → wU → Prop) : Prop :=
  ∀ sz : Nat, Met l y (cW y b n r) ({ frames := fr, cells := mc, slots := ms, locals := lo }) (va_Pc As (wI D Z sz w0 t0)) (va_Qi post (wB D (va_A w0 sz)) (va_A w0 sz)) mc ms (va_A w0 sz)
def cL (l : Launch) (D : va_G) (y : MethodName) (b : ByteArray) (n : Nat) (r : Option FieldType) (fr lo mc ms : Nat) (As : List Value) (Z : Nat → State → Prop) (w0 : va_W) (t0 : List (ClassId × FieldType)) (post : Int64 → wU → Prop) : Prop :=
  ∀ sz : Nat, Met l y (cW y b n r) ({ frames := fr, cells := mc, slots := ms, locals := lo }) (va_Pc As (wI D Z sz w0 t0)) (va_Ql post (wB D (va_A w0 sz)) (va_A w0 sz)) mc ms (va_A w0 sz)
def cV (l : Launch) (D : va_G) (y : MethodName) (b : ByteArray) (n : Nat) (r : Option FieldType) (fr lo mc ms : Nat) (As : List Value) (Z : Nat → State → Prop) (w0 : va_W) (t0 : List (ClassId × FieldType)) (post : wU → Prop) : Prop :=
  ∀ sz : Nat, Met l y (cW y b n r) ({ frames := fr, cells := mc, slots := ms, locals := lo }) (va_Pc As (wI D Z sz w0 t0)) (va_Qv post (wB D (va_A w0 sz)) (va_A w0 sz)) mc ms (va_A w0 sz)
theorem q_s {l : Launch} {D : va_G} {y : MethodName} {b : ByteArray} {n : Nat} {r : Option FieldType} {rm : Room} {mc ms : Nat} {As : List Value} {Z : Nat → State → Prop} {w0 : va_W} {t0 : List (ClassId × FieldType)} {Qc : (Nat → Prop) → Array Value → State → Outcome → State → Prop} {sz : Nat}
    (hy : plainName y.cls = true) (hn : (lg_sl As).length ≤ n)
    (body : ∀ (p : Program) (e : Env) (s : State) (m : MethodId) (below : List Frame) (meth : Method) (c : Code) (A : Nat → Prop) (ls : Array Slot),
      va_A w0 s.heap.size = A → CallFix p m c b n s As.toArray gT y.cls → meth.sig.returnType = r → meth.locks = false → meth.name = y.name → va_K D vcl t0 s → va_P D vcl w0 s.heap → va_D A w0 → va_S A s.heap s.heap [] → (∀ q : Nat, s.heap.size ≤ q → A q) → Z s.heap.size s → lv_has ls n (lv_args 0 As) →
      W p l e rm s m As.toArray below meth c s.heap [] 0 0 (MQ below (Qc A) As.toArray s mc ms A) (F0 m 0 ls [])) :
    Met l y (cW y b n r) rm (va_Pc As (wI D Z sz w0 t0)) (Qc (va_A w0 sz)) mc ms (va_A w0 sz) := by
  refine Met.ofW (cc := b) (maxL := n) (ret := r) hy rfl ?_
  intro p e s m args below meth c s₁ B hml hv
  obtain ⟨rfl, hsz, hP, hK, hD0, hZ⟩ := hv
  have hts := atoms_spec (ws := cW y b n r) B.pre
  have hown : s.vm.findClass y.cls = some m.cls := findClass_of_methodNamed B.named
  have hin := (name_of_methodNamed B.named B.method).1
  subst hsz
  have hl := lv_entry As (n := n) hn
  rw [lg_entry_eq]
  exact body p e s m below meth c _ _ rfl ⟨B.exec, B.bytes, hml, hown, fun w h => hts w (List.mem_cons_of_mem _ h)⟩ B.returns B.notSynchronized hin hK hP hD0.self va_S.rf (fun q h => Or.inr h) hZ hl
theorem q_si {l : Launch} {D : va_G} {y : MethodName} {b : ByteArray} {n : Nat} {r : Option FieldType} {fr lo mc ms : Nat} {As : List Value} {Z : Nat → State → Prop} {w0 : va_W} {t0 : List (ClassId × FieldType)} {post : Int32 → wU → Prop}
    (hy : plainName y.cls = true) (hn : (lg_sl As).length ≤ n)
    (body : ∀ (p : Program) (e : Env) (s : State) (m : MethodId) (below : List Frame) (meth : Method) (c : Code) (A : Nat → Prop) (ls : Array Slot),
      va_A w0 s.heap.size = A → CallFix p m c b n s As.toArray gT y.cls → meth.sig.returnType = r → meth.locks = false → meth.name = y.name → va_K D vcl t0 s → va_P D vcl w0 s.heap → va_D A w0 → va_S A s.heap s.heap [] → (∀ q : Nat, s.heap.size ≤ q → A q) → Z s.heap.size s → lv_has ls n (lv_args 0 As) →
      W p l e ({ frames := fr, cells := mc, slots := ms, locals := lo }) s m As.toArray below meth c s.heap [] 0 0 (MQ below (va_Qi post (wB D A) A) As.toArray s mc ms A) (F0 m 0 ls [])) : cI l D y b n r fr lo mc ms As Z w0 t0 post := fun _ => q_s (Qc := fun A => va_Qi post (wB D A) A) hy hn body
theorem q_sl {l : Launch} {D : va_G} {y : MethodName} {b : ByteArray} {n : Nat} {r : Option FieldType} {fr lo mc ms : Nat} {As : List Value} {Z : Nat → State → Prop} {w0 : va_W} {t0 : List (ClassId × FieldType)} {post : Int64 → wU → Prop}
    (hy : plainName y.cls = true) (hn : (lg_sl As).length ≤ n)
    (body : ∀ (p : Program) (e : Env) (s : State) (m : MethodId) (below : List Frame) (meth : Method) (c : Code) (A : Nat → Prop) (ls : Array Slot),
      va_A w0 s.heap.size = A → CallFix p m c b n s As.toArray gT y.cls → meth.sig.returnType = r → meth.locks = false → meth.name = y.name → va_K D vcl t0 s → va_P D vcl w0 s.heap → va_D A w0 → va_S A s.heap s.heap [] → (∀ q : Nat, s.heap.size ≤ q → A q) → Z s.heap.size s → lv_has ls n (lv_args 0 As) →
      W p l e ({ frames := fr, cells := mc, slots := ms, locals := lo }) s m As.toArray below meth c s.heap [] 0 0 (MQ below (va_Ql post (wB D A) A) As.toArray s mc ms A) (F0 m 0 ls [])) : cL l D y b n r fr lo mc ms As Z w0 t0 post := fun _ => q_s (Qc := fun A => va_Ql post (wB D A) A) hy hn body
theorem q_sv {l : Launch} {D : va_G} {y : MethodName} {b : ByteArray} {n : Nat} {r : Option FieldType} {fr lo mc ms : Nat} {As : List Value} {Z : Nat → State → Prop} {w0 : va_W} {t0 : List (ClassId × FieldType)} {post : wU → Prop}
    (hy : plainName y.cls = true) (hn : (lg_sl As).length ≤ n)
    (body : ∀ (p : Program) (e : Env) (s : State) (m : MethodId) (below : List Frame) (meth : Method) (c : Code) (A : Nat → Prop) (ls : Array Slot),
      va_A w0 s.heap.size = A → CallFix p m c b n s As.toArray gT y.cls → meth.sig.returnType = r → meth.locks = false → meth.name = y.name → va_K D vcl t0 s → va_P D vcl w0 s.heap → va_D A w0 → va_S A s.heap s.heap [] → (∀ q : Nat, s.heap.size ≤ q → A q) → Z s.heap.size s → lv_has ls n (lv_args 0 As) →
      W p l e ({ frames := fr, cells := mc, slots := ms, locals := lo }) s m As.toArray below meth c s.heap [] 0 0 (MQ below (va_Qv post (wB D A) A) As.toArray s mc ms A) (F0 m 0 ls [])) : cV l D y b n r fr lo mc ms As Z w0 t0 post := fun _ => q_s (Qc := fun A => va_Qv post (wB D A) A) hy hn body
section QW
variable {p : Program} {l : Launch} {e : Env} {R : Room} {s : State} {m : MethodId} {args : Array Value} {below : List Frame} {meth : Method} {c : Code} {H : Heap} {locs : List Loc} {cells slots : Nat} {Q : State → Prop}
variable {cc : ByteArray} {pc nL : Nat} {ls : Array Slot} {rest st0 : List Value} {D : va_G} {A : Nat → Prop} {tys tc tr : List (ClassId × FieldType)} {ws wc wr : va_W} {own : String}
theorem q_seti {x y : Int32} (h : x = y) (k : W p l e R s m args below meth c H locs cells slots Q (F0 m pc ls (.int y :: rest))) : W p l e R s m args below meth c H locs cells slots Q (F0 m pc ls (.int x :: rest)) := by
  rw [h]; exact k
theorem q_setl {x y : Int64} (h : x = y) (k : W p l e R s m args below meth c H locs cells slots Q (F0 m pc ls (.long y :: rest))) : W p l e R s m args below meth c H locs cells slots Q (F0 m pc ls (.long x :: rest)) := by
  rw [h]; exact k
theorem q_eq {g : JFrame} {pc : Nat} {st : List Value} (h : g = F0 m pc ls st) (k : W p l e R s m args below meth c H locs cells slots Q (F0 m pc ls st)) : W p l e R s m args below meth c H locs cells slots Q g := by
  rw [h]; exact k
/-- the ends -/
theorem q_ri {v : Int32} {ty : FieldType} {post : Int32 → wU → Prop} {w1 : va_W} {t1 : List (ClassId × FieldType)} {mc ms : Nat} (F : CallFix p m c cc nL s args gT own) (hr : meth.sig.returnType = some ty) (hnar : narrow ty (.int v) = .int v) (hlocks : meth.locks = false) (hK : va_K D vcl tys s) (hP : va_P D vcl ws H) (hD : va_D A ws) (hS : va_S A s.heap H locs)
    (isW isT : List Nat) (hw : isW.map (fun i => ws[i]?) = w1.map some) (hn : va_nd isW = true) (ht : isT.filterMap (fun i => tys[i]?) = t1) (hc : cells ≤ mc) (hs : slots ≤ ms) (hp : post v (w1, t1)) (hdg : decode cc pc = .ok (.ireturn, 1)) :
    W p l e R s m args below meth c H locs cells slots (MQ below (va_Qi post (wB D A) A) args s mc ms A) (F0 m pc ls [.int v]) := by
  have hP9 := hP.sub isW (q_fm hw)
  have hD9 := hD.sub isW hn hw
  have hK9 := hK.sub isT ht
  refine W.widen (k := mc) (n := ms) hc hs ?_
  exact W.zret F.1 F.2.1 hr hnar (fun t ht hW => ⟨⟨v, (w1, t1), rfl, hp, by rw [ht]; exact hP9, va_K.moved hW.alike hK9, hD9⟩, hS.F ht⟩) hS.2.2 hdg hlocks
theorem q_rl {v : Int64} {post : Int64 → wU → Prop} {w1 : va_W} {t1 : List (ClassId × FieldType)} {mc ms : Nat} (F : CallFix p m c cc nL s args gT own) (hr : meth.sig.returnType = some .long) (hlocks : meth.locks = false) (hK : va_K D vcl tys s) (hP : va_P D vcl ws H) (hD : va_D A ws) (hS : va_S A s.heap H locs)
    (isW isT : List Nat) (hw : isW.map (fun i => ws[i]?) = w1.map some) (hn : va_nd isW = true) (ht : isT.filterMap (fun i => tys[i]?) = t1) (hc : cells ≤ mc) (hs : slots ≤ ms) (hp : post v (w1, t1)) (hdg : decode cc pc = .ok (.lreturn, 1)) :
    W p l e R s m args below meth c H locs cells slots (MQ below (va_Ql post (wB D A) A) args s mc ms A) (F0 m pc ls [.long v]) := by
  have hP9 := hP.sub isW (q_fm hw)
  have hD9 := hD.sub isW hn hw
  have hK9 := hK.sub isT ht
  refine W.widen (k := mc) (n := ms) hc hs ?_
  exact W.lret F.1 F.2.1 hr (fun t ht hW => ⟨⟨v, (w1, t1), rfl, hp, by rw [ht]; exact hP9, va_K.moved hW.alike hK9, hD9⟩, hS.F ht⟩) hS.2.2 hdg hlocks
theorem q_rv {post : wU → Prop} {w1 : va_W} {t1 : List (ClassId × FieldType)} {mc ms : Nat} (F : CallFix p m c cc nL s args gT own) (hr : meth.sig.returnType = none) (hlocks : meth.locks = false) (hK : va_K D vcl tys s) (hP : va_P D vcl ws H) (hD : va_D A ws) (hS : va_S A s.heap H locs)
    (isW isT : List Nat) (hw : isW.map (fun i => ws[i]?) = w1.map some) (hn : va_nd isW = true) (ht : isT.filterMap (fun i => tys[i]?) = t1) (hc : cells ≤ mc) (hs : slots ≤ ms) (hp : post (w1, t1)) (hdg : decode cc pc = .ok (.return_, 1)) :
    W p l e R s m args below meth c H locs cells slots (MQ below (va_Qv post (wB D A) A) args s mc ms A) (F0 m pc ls []) := by
  have hP9 := hP.sub isW (q_fm hw)
  have hD9 := hD.sub isW hn hw
  have hK9 := hK.sub isT ht
  refine W.widen (k := mc) (n := ms) hc hs ?_
  exact W.vret F.1 F.2.1 hr (fun t ht hW => ⟨⟨(w1, t1), rfl, hp, by rw [ht]; exact hP9, va_K.moved hW.alike hK9, hD9⟩, hS.F ht⟩) hS.2.2 hdg hlocks
/-- behind a call -/
theorem q_bi {post : Int32 → wU → Prop} {a : Array Value} {mc ms k n : Nat} (hK : va_K D vcl tys s) (hP : va_P D vcl ws H) (hD : va_D A ws) (hS : va_S A s.heap H locs) (hA : ∀ q : Nat, s.heap.size ≤ q → A q)
    (isC isR tC tR : List Nat) (hC : isC.map (fun i => ws[i]?) = wc.map some) (hR : isR.map (fun i => ws[i]?) = wr.map some) (hnC : va_nd isC = true) (hn : va_nd isR = true) (hdis : ∀ i ∈ isR, i ∉ isC) (hTc : tC.filterMap (fun i => tys[i]?) = tc) (hTr : tR.filterMap (fun i => tys[i]?) = tr)
    (run : va_P D vcl wc H → va_K D vcl tc s → va_D A wc → (∀ q, va_A wc H.size q → A q) → va_Run p l e R s m args below meth c H locs cells slots mc ms (F0 m pc ls st0) rest (va_Qi post (wB D (va_A wc H.size)) (va_A wc H.size) a) (va_A wc H.size))
    (hk : cells + mc ≤ k) (hs : slots + ms ≤ n)
    (kk : ∀ (r : Int32) (u : wU) (H1 : Heap) (locs1 : List Loc), post r u → va_K D vcl (tr ++ u.2) s → va_P D vcl (wr ++ u.1) H1 → va_D A (wr ++ u.1) → va_S A s.heap H1 locs1 → W p l e R s m args below meth c H1 locs1 k n Q (F0 m (pc + 3) ls (.int r :: rest))) :
    W p l e R s m args below meth c H locs cells slots Q (F0 m pc ls st0) := by
  have hFc := va_free (wc := wc) hD hS hA isC hC
  refine va_calli (run (hP.sub isC (q_fm hC)) (hK.sub tC hTc) (hD.sub isC hnC hC) hFc) hS (fun q _ h => hFc q h) hFc (fun r u t H1 locs1 ht hvm hw hB hz1 hk1 hS1 => ?_)
  obtain ⟨hP1, hK1, hD1⟩ := hB
  rw [ht] at hP1
  have hK1 := va_K.moved hvm.symm hK1
  obtain ⟨hP2, hD2⟩ := va_join (wr := wr) (w1 := u.1) hP hD isC isR hC hR hn hdis hk1 hFc hP1 hD1
  exact W.widen hk hs (kk r u H1 locs1 hw ((hK.sub tR hTr).app hK1) hP2 hD2 hS1)
theorem q_bl {post : Int64 → wU → Prop} {a : Array Value} {mc ms k n : Nat} (hK : va_K D vcl tys s) (hP : va_P D vcl ws H) (hD : va_D A ws) (hS : va_S A s.heap H locs) (hA : ∀ q : Nat, s.heap.size ≤ q → A q)
    (isC isR tC tR : List Nat) (hC : isC.map (fun i => ws[i]?) = wc.map some) (hR : isR.map (fun i => ws[i]?) = wr.map some) (hnC : va_nd isC = true) (hn : va_nd isR = true) (hdis : ∀ i ∈ isR, i ∉ isC) (hTc : tC.filterMap (fun i => tys[i]?) = tc) (hTr : tR.filterMap (fun i => tys[i]?) = tr)
    (run : va_P D vcl wc H → va_K D vcl tc s → va_D A wc → (∀ q, va_A wc H.size q → A q) → va_Run p l e R s m args below meth c H locs cells slots mc ms (F0 m pc ls st0) rest (va_Ql post (wB D (va_A wc H.size)) (va_A wc H.size) a) (va_A wc H.size))
    (hk : cells + mc ≤ k) (hs : slots + ms ≤ n)
    (kk : ∀ (r : Int64) (u : wU) (H1 : Heap) (locs1 : List Loc), post r u → va_K D vcl (tr ++ u.2) s → va_P D vcl (wr ++ u.1) H1 → va_D A (wr ++ u.1) → va_S A s.heap H1 locs1 → W p l e R s m args below meth c H1 locs1 k n Q (F0 m (pc + 3) ls (.long r :: rest))) :
    W p l e R s m args below meth c H locs cells slots Q (F0 m pc ls st0) := by
  have hFc := va_free (wc := wc) hD hS hA isC hC
  refine va_calll (run (hP.sub isC (q_fm hC)) (hK.sub tC hTc) (hD.sub isC hnC hC) hFc) hS (fun q _ h => hFc q h) hFc (fun r u t H1 locs1 ht hvm hw hB hz1 hk1 hS1 => ?_)
  obtain ⟨hP1, hK1, hD1⟩ := hB
  rw [ht] at hP1
  have hK1 := va_K.moved hvm.symm hK1
  obtain ⟨hP2, hD2⟩ := va_join (wr := wr) (w1 := u.1) hP hD isC isR hC hR hn hdis hk1 hFc hP1 hD1
  exact W.widen hk hs (kk r u H1 locs1 hw ((hK.sub tR hTr).app hK1) hP2 hD2 hS1)
theorem q_bv {post : wU → Prop} {a : Array Value} {mc ms k n : Nat} (hK : va_K D vcl tys s) (hP : va_P D vcl ws H) (hD : va_D A ws) (hS : va_S A s.heap H locs) (hA : ∀ q : Nat, s.heap.size ≤ q → A q)
    (isC isR tC tR : List Nat) (hC : isC.map (fun i => ws[i]?) = wc.map some) (hR : isR.map (fun i => ws[i]?) = wr.map some) (hnC : va_nd isC = true) (hn : va_nd isR = true) (hdis : ∀ i ∈ isR, i ∉ isC) (hTc : tC.filterMap (fun i => tys[i]?) = tc) (hTr : tR.filterMap (fun i => tys[i]?) = tr)
    (run : va_P D vcl wc H → va_K D vcl tc s → va_D A wc → (∀ q, va_A wc H.size q → A q) → va_Run p l e R s m args below meth c H locs cells slots mc ms (F0 m pc ls st0) rest (va_Qv post (wB D (va_A wc H.size)) (va_A wc H.size) a) (va_A wc H.size))
    (hk : cells + mc ≤ k) (hs : slots + ms ≤ n)
    (kk : ∀ (u : wU) (H1 : Heap) (locs1 : List Loc), post u → va_K D vcl (tr ++ u.2) s → va_P D vcl (wr ++ u.1) H1 → va_D A (wr ++ u.1) → va_S A s.heap H1 locs1 → W p l e R s m args below meth c H1 locs1 k n Q (F0 m (pc + 3) ls rest)) :
    W p l e R s m args below meth c H locs cells slots Q (F0 m pc ls st0) := by
  have hFc := va_free (wc := wc) hD hS hA isC hC
  refine va_callv (run (hP.sub isC (q_fm hC)) (hK.sub tC hTc) (hD.sub isC hnC hC) hFc) hS (fun q _ h => hFc q h) hFc (fun u t H1 locs1 ht hvm hw hB hz1 hk1 hS1 => ?_)
  obtain ⟨hP1, hK1, hD1⟩ := hB
  rw [ht] at hP1
  have hK1 := va_K.moved hvm.symm hK1
  obtain ⟨hP2, hD2⟩ := va_join (wr := wr) (w1 := u.1) hP hD isC isR hC hR hn hdis hk1 hFc hP1 hD1
  exact W.widen hk hs (kk u H1 locs1 hw ((hK.sub tR hTr).app hK1) hP2 hD2 hS1)
/-- what a contract's start asks, out of the caller's state -/
theorem q_blind {Z : Nat → State → Prop} {As : List Value} {sz : Nat} {w0 : va_W} {t0 : List (ClassId × FieldType)} (hz : ∀ (U : State) (g : JFrame) (mk : MethodId) (a : Array Value), Z sz U → Z sz (U.calling g mk a)) : FrameBlind (va_Pc As (wI D Z sz w0 t0)) := by
  intro a U g mk q
  obtain ⟨q0, q1, qP, qK, qD, qZ⟩ := q
  exact ⟨q0, q1, qP, va_K.moved (u := U) (U := U.calling g mk a) (Vm.Alike.refl U.vm) qK, qD, hz U g mk a qZ⟩
theorem q_pre {Z : Nat → State → Prop} {As : List Value} (hPc : va_P D vcl wc H) (hKc : va_K D vcl tc s) (hDc : va_D A wc) (hZ : ∀ U : State, U.heap = H → s.WarmedH U.vm → Z H.size U) : ∀ U : State, U.heap = H → s.WarmedH U.vm → va_Pc As (wI D Z H.size wc tc) As.toArray U :=
  fun U hU hW => ⟨rfl, by rw [hU], by rw [hU]; exact hPc, va_K.moved hW.alike hKc, hDc.weaken (fun _ _ _ _ => trivial), hZ U hU hW⟩
theorem q_rV {y : MethodName} {bytes : ByteArray} {maxL index nA mc ms fr lo q0 ci : Nat} {ret : Option FieldType} {Z : Nat → State → Prop} {Qc : Array Value → State → Outcome → State → Prop} {free : Addr → Prop} {C : String} {b : Addr} {As : List Value} {qc : vw_C} {fs : List Value}
    (F : CallFix p m c cc nL s args gT own) (hM : Met l y (cW y bytes maxL ret) ({ frames := fr, cells := mc, slots := ms, locals := lo }) (va_Pc (.ref b :: As) (wI D Z H.size wc tc)) Qc mc ms free)
    (kc : Cond.code y bytes maxL ret ∈ gT) (kl : Cond.methodLink own index y ∈ gT) (ki : Cond.instanceMethod y ∈ gT) (ks : Cond.selects C y y ∈ gT) (kn : Cond.initialized y.cls ∈ gT)
    (hd : y.cls ≠ "java/lang/invoke/MethodHandle" ∧ y.cls ≠ "java/lang/invoke/VarHandle" ∧ (parseMethodDescriptor y.desc).map (fun d => d.parameters.length) = some nA) (hR : fr + 1 ≤ R.frames ∧ 8 + (maxL + 11) + lo ≤ R.locals)
    (hK : va_K D vcl tys s) (hP : va_P D vcl ws H) (hcl : vcl[ci]? = some qc) (hC : qc.1 = C) (he : ws[q0]? = some (b, .inr (ci, fs)))
    (hPc : va_P D vcl wc H) (hKc : va_K D vcl tc s) (hDc : va_D A wc) (hz1 : ∀ (U : State) (g : JFrame) (mk : MethodId) (a : Array Value), Z H.size U → Z H.size (U.calling g mk a)) (hz2 : ∀ U : State, U.heap = H → s.WarmedH U.vm → Z H.size U)
    (hn : As.length = nA) (hsz : ls.size = nL) (hst : st0 = As.reverse ++ .ref b :: rest) (hW : (rest.map fun v => v.category).sum ≤ 8) (hdg : decode cc pc = .ok (.invokevirtual index, 3)) (hf : cells + mc ≤ R.cells ∧ slots + ms ≤ R.slots) :
    va_Run p l e R s m args below meth c H locs cells slots mc ms (F0 m pc ls st0) rest (Qc (Value.ref b :: As).toArray) free := by
  have hrc := va_recv hK hP hcl he
  rw [hC] at hrc
  exact va_runV F hM ⟨callB_of nA F.2.2.2.2 (gT_good kc) rfl rfl rfl (F.2.2.2.2 _ kn) (F.2.2.2.2 _ kl) hd hR, F.2.2.2.2 _ ki, F.2.2.2.2 _ ks⟩ ⟨q_blind hz1, hrc, q_pre hPc hKc hDc hz2⟩ rfl hn hsz hst (lv_room hW) hdg hf
theorem q_rS {y : MethodName} {bytes : ByteArray} {maxL index nA mc ms fr lo : Nat} {ret : Option FieldType} {Z : Nat → State → Prop} {Qc : Array Value → State → Outcome → State → Prop} {free : Addr → Prop} {As : List Value}
    (F : CallFix p m c cc nL s args gT own) (hM : Met l y (cW y bytes maxL ret) ({ frames := fr, cells := mc, slots := ms, locals := lo }) (va_Pc As (wI D Z H.size wc tc)) Qc mc ms free)
    (kc : Cond.code y bytes maxL ret ∈ gT) (kl : Cond.methodLink own index y ∈ gT) (ks : Cond.static y ∈ gT) (kn : Cond.initialized y.cls ∈ gT)
    (hd : y.cls ≠ "java/lang/invoke/MethodHandle" ∧ y.cls ≠ "java/lang/invoke/VarHandle" ∧ (parseMethodDescriptor y.desc).map (fun d => d.parameters.length) = some nA) (hR : fr + 1 ≤ R.frames ∧ 8 + (maxL + 11) + lo ≤ R.locals)
    (hPc : va_P D vcl wc H) (hKc : va_K D vcl tc s) (hDc : va_D A wc) (hz1 : ∀ (U : State) (g : JFrame) (mk : MethodId) (a : Array Value), Z H.size U → Z H.size (U.calling g mk a)) (hz2 : ∀ U : State, U.heap = H → s.WarmedH U.vm → Z H.size U)
    (hn : As.length = nA) (hsz : ls.size = nL) (hst : st0 = As.reverse ++ rest) (hW : (rest.map fun v => v.category).sum ≤ 8) (hdg : decode cc pc = .ok (.invokestatic index, 3)) (hf : cells + mc ≤ R.cells ∧ slots + ms ≤ R.slots) :
    va_Run p l e R s m args below meth c H locs cells slots mc ms (F0 m pc ls st0) rest (Qc As.toArray) free :=
  va_runS F hM ⟨callB_of nA F.2.2.2.2 (gT_good kc) rfl rfl rfl (F.2.2.2.2 _ kn) (F.2.2.2.2 _ kl) hd hR, F.2.2.2.2 _ ks⟩ ⟨q_blind hz1, q_pre hPc hKc hDc hz2⟩ rfl hn hsz hst (lv_room hW) hdg hf
theorem q_rI {y : MethodName} {bytes : ByteArray} {maxL index nA mc ms fr lo : Nat} {Z : Nat → State → Prop} {Qc : Array Value → State → Outcome → State → Prop} {free : Addr → Prop} {b : Addr} {As : List Value}
    (F : CallFix p m c cc nL s args gT own) (hM : Met l y (cW y bytes maxL none) ({ frames := fr, cells := mc, slots := ms, locals := lo }) (va_Pc (.ref b :: As) (wI D Z H.size wc tc)) Qc mc ms free)
    (kc : Cond.code y bytes maxL none ∈ gT) (kl : Cond.methodLink own index y ∈ gT) (ki : Cond.instanceMethod y ∈ gT) (kn : Cond.initialized y.cls ∈ gT) (hy1 : y.name = "<init>")
    (hd : y.cls ≠ "java/lang/invoke/MethodHandle" ∧ y.cls ≠ "java/lang/invoke/VarHandle" ∧ (parseMethodDescriptor y.desc).map (fun d => d.parameters.length) = some nA) (hR : fr + 1 ≤ R.frames ∧ 8 + (maxL + 11) + lo ≤ R.locals)
    (hPc : va_P D vcl wc H) (hKc : va_K D vcl tc s) (hDc : va_D A wc) (hz1 : ∀ (U : State) (g : JFrame) (mk : MethodId) (a : Array Value), Z H.size U → Z H.size (U.calling g mk a)) (hz2 : ∀ U : State, U.heap = H → s.WarmedH U.vm → Z H.size U)
    (hn : As.length = nA) (hsz : ls.size = nL) (hst : st0 = As.reverse ++ .ref b :: rest) (hW : (rest.map fun v => v.category).sum ≤ 8) (hdg : decode cc pc = .ok (.invokespecial index, 3)) (hf : cells + mc ≤ R.cells ∧ slots + ms ≤ R.slots) :
    va_Run p l e R s m args below meth c H locs cells slots mc ms (F0 m pc ls st0) rest (Qc (Value.ref b :: As).toArray) free :=
  va_runI F hM ⟨callB_of nA F.2.2.2.2 (gT_good kc) rfl rfl rfl (F.2.2.2.2 _ kn) (F.2.2.2.2 _ kl) hd hR, hy1, F.2.2.2.2 _ ki⟩ ⟨q_blind hz1, q_pre hPc hKc hDc hz2⟩ rfl hn hsz hst (lv_room hW) hdg hf
theorem q_rIN {y : MethodName} {bytes : ByteArray} {maxL index nA mc ms fr lo : Nat} {host : String} {Z : Nat → State → Prop} {Qc : Array Value → State → Outcome → State → Prop} {free : Addr → Prop} {b : Addr} {As : List Value}
    (F : CallFix p m c cc nL s args gT own) (hM : Met l y (cW y bytes maxL none) ({ frames := fr, cells := mc, slots := ms, locals := lo }) (va_Pc (.ref b :: As) (wI D Z H.size wc tc)) Qc mc ms free)
    (kc : Cond.code y bytes maxL none ∈ gT) (kl : va_Nw (.methodLinkNest own index y host) s) (ki : Cond.instanceMethod y ∈ gT) (kn : Cond.initialized y.cls ∈ gT) (hy1 : y.name = "<init>")
    (hd : y.cls ≠ "java/lang/invoke/MethodHandle" ∧ y.cls ≠ "java/lang/invoke/VarHandle" ∧ (parseMethodDescriptor y.desc).map (fun d => d.parameters.length) = some nA) (hR : fr + 1 ≤ R.frames ∧ 8 + (maxL + 11) + lo ≤ R.locals)
    (hPc : va_P D vcl wc H) (hKc : va_K D vcl tc s) (hDc : va_D A wc) (hz1 : ∀ (U : State) (g : JFrame) (mk : MethodId) (a : Array Value), Z H.size U → Z H.size (U.calling g mk a)) (hz2 : ∀ U : State, U.heap = H → s.WarmedH U.vm → Z H.size U)
    (hn : As.length = nA) (hsz : ls.size = nL) (hst : st0 = As.reverse ++ .ref b :: rest) (hW : (rest.map fun v => v.category).sum ≤ 8) (hdg : decode cc pc = .ok (.invokespecial index, 3)) (hf : cells + mc ≤ R.cells ∧ slots + ms ≤ R.slots) :
    va_Run p l e R s m args below meth c H locs cells slots mc ms (F0 m pc ls st0) rest (Qc (Value.ref b :: As).toArray) free :=
  va_runIN F hM ⟨va_cnB nA F.2.2.2.2 (gT_good kc) rfl rfl rfl kl (F.2.2.2.2 _ kn) hd hR, hy1, F.2.2.2.2 _ ki⟩ ⟨q_blind hz1, q_pre hPc hKc hDc hz2⟩ rfl hn hsz hst (lv_room hW) hdg hf
end QW
theorem q_lt_nle {a b : Int32} (h : ¬ b ≤ a) : a < b := by
  rw [Int32.lt_iff_toInt_lt]; rw [Int32.le_iff_toInt_le] at h; omega
theorem q_nlt_le {a b : Int32} (h : b ≤ a) : ¬ a < b := by
  rw [Int32.lt_iff_toInt_lt]; rw [Int32.le_iff_toInt_le] at h; omega
theorem q_le_nlt {a b : Int32} (h : ¬ a < b) : b ≤ a := by
  rw [Int32.le_iff_toInt_le]; rw [Int32.lt_iff_toInt_lt] at h; omega
theorem q_nle_lt {a b : Int32} (h : a < b) : ¬ b ≤ a := by
  rw [Int32.le_iff_toInt_le]; rw [Int32.lt_iff_toInt_lt] at h; omega
theorem q_a0_int (n : Nat) (cA : ClassId) : vp_cell cA (n, .inl (fun _ => 0)) = arrV cA n (fun _ => defaultValue .int) := rfl
theorem q_a0_byte (n : Nat) (cA : ClassId) : vp_cell cA (n, .inl (fun _ => 0)) = arrV cA n (fun _ => defaultValue .byte) := rfl
theorem q_a0_boolean (n : Nat) (cA : ClassId) : vp_cell cA (n, .inl (fun _ => 0)) = arrV cA n (fun _ => defaultValue .boolean) := rfl
theorem q_emp_ww {v a b : Int32} (h1 : ¬ v < a) (h2 : ¬ b < v) (hab : b < a) : False := by
  rw [Int32.lt_iff_toInt_lt] at h1 h2 hab; omega
theorem q_emp_sw {v a b : Int32} (h1 : a < v) (h2 : ¬ b < v) (hab : b ≤ a) : False := by
  rw [Int32.lt_iff_toInt_lt] at h1 h2; rw [Int32.le_iff_toInt_le] at hab; omega
theorem q_emp_ws {v a b : Int32} (h1 : ¬ v < a) (h2 : v < b) (hab : b ≤ a) : False := by
  rw [Int32.lt_iff_toInt_lt] at h1 h2; rw [Int32.le_iff_toInt_le] at hab; omega
theorem q_emp_ss {v a b : Int32} (h1 : a < v) (h2 : v < b) (hab : b.toInt ≤ a.toInt + 1) : False := by
  rw [Int32.lt_iff_toInt_lt] at h1 h2; omega
theorem inJx4a65c : ∀ w ∈ u_ws RJx4a65c TJx4a65c 3, w ∈ gT := gT_ins [177, 173, 175] (by decide +kernel) (by decide +kernel)
theorem inX0 : ∀ w ∈ u_ws RX0 TX0 11, w ∈ gT := gT_ins [359, 361, 363, 365, 367, 369, 371, 373, 375, 377, 379] (by decide +kernel) (by decide +kernel)
theorem inX1 : ∀ w ∈ u_ws RX1 TX1 9, w ∈ gT := gT_ins [242, 244, 246, 248, 250, 252, 254, 256, 258] (by decide +kernel) (by decide +kernel)
theorem inX2 : ∀ w ∈ u_ws RX2 TX2 10, w ∈ gT := gT_ins [398, 400, 402, 404, 406, 408, 410, 412, 414, 416] (by decide +kernel) (by decide +kernel)
theorem inX3 : ∀ w ∈ u_ws RX3 TX3 7, w ∈ gT := gT_ins [327, 329, 331, 333, 335, 337, 339] (by decide +kernel) (by decide +kernel)
theorem inX4 : ∀ w ∈ u_ws RX4 TX4 6, w ∈ gT := gT_ins [141, 143, 145, 147, 149, 151] (by decide +kernel) (by decide +kernel)
theorem inX5 : ∀ w ∈ u_ws RX5 TX5 4, w ∈ gT := gT_ins [295, 297, 299, 301] (by decide +kernel) (by decide +kernel)
theorem inX6 : ∀ w ∈ u_ws RX6 TX6 3, w ∈ gT := gT_ins [307, 309, 311] (by decide +kernel) (by decide +kernel)
theorem inX7 : ∀ w ∈ u_ws RX7 TX7 1, w ∈ gT := gT_ins [426] (by decide +kernel) (by decide +kernel)
theorem inX8 : ∀ w ∈ u_ws RX8 TX8 2, w ∈ gT := gT_ins [123, 125] (by decide +kernel) (by decide +kernel)
theorem inX9 : ∀ w ∈ u_ws RX9 TX9 12, w ∈ gT := gT_ins [441, 443, 445, 447, 449, 451, 453, 455, 457, 459, 461, 463] (by decide +kernel) (by decide +kernel)
theorem inX10 : ∀ w ∈ u_ws RX10 TX10 48, w ∈ gT := gT_ins [1192, 1194, 1196, 1198, 1200, 1202, 1204, 1206, 1208, 1210, 1212, 1214, 1216, 1218, 1220, 1222, 1224, 1226, 1228, 1230, 1232, 1234, 1236, 1238, 1240, 1242, 1244, 1246, 1248, 1250, 1252, 1254, 1256, 1258, 1260, 1262, 1264, 1266, 1268, 1270, 1272, 1274, 1276, 1278, 1280, 1282, 1284, 1286] (by decide +kernel) (by decide +kernel)
def zN (z : Nat) (w0 : va_W) : Nat → State → Prop := fun sz U => va_Z "java/util/ArrayList" "DEFAULTCAPACITY_EMPTY_ELEMENTDATA" "[Ljava/lang/Object;" (.ref z) (va_A w0 sz) U U.heap ∧ va_Nw (.methodLinkNest "ScriptDesk" 9 ⟨"ScriptDesk$Tape", "<init>", "()V"⟩ "ScriptDesk") U
theorem zN_blind {z : Nat} {w0 : va_W} {sz : Nat} : ∀ (U : State) (g : JFrame) (mk : MethodId) (a : Array Value), zN z w0 sz U → zN z w0 sz (U.calling g mk a) := fun U g mk a h => ⟨va_Z.moved (u := U) (U := U.calling g mk a) (Vm.Alike.refl U.vm) h.1, va_Nw.same rfl rfl h.2⟩
theorem zN_pass {z : Nat} {wc : va_W} {s : State} {A : Nat → Prop} {H : Heap} {locs : List Loc} (hZ : va_Z "java/util/ArrayList" "DEFAULTCAPACITY_EMPTY_ELEMENTDATA" "[Ljava/lang/Object;" (.ref z) A s s.heap) (hN : va_Nw (.methodLinkNest "ScriptDesk" 9 ⟨"ScriptDesk$Tape", "<init>", "()V"⟩ "ScriptDesk") s) (hS : va_S A s.heap H locs) (hF : ∀ q, va_A wc H.size q → A q) : ∀ U : State, U.heap = H → s.WarmedH U.vm → zN z wc H.size U := by
  intro U hU hW
  refine ⟨?_, va_Nw.warmM hW hN⟩
  rw [hU]
  exact ((hZ.kept hS.2.1).narrow hF).moved hW.alike
theorem q_sw_0_5 (x : Int32) : x = 0 ∨ x = 1 ∨ x = 2 ∨ x = 3 ∨ x = 4 ∨ x = 5 ∨ (x.toInt < 0 ∨ 5 < x.toInt) := by
  by_cases h : x.toInt < 0 ∨ 5 < x.toInt
  · exact Or.inr (Or.inr (Or.inr (Or.inr (Or.inr (Or.inr h)))))
  · have h1 : x.toInt = 0 ∨ x.toInt = 1 ∨ x.toInt = 2 ∨ x.toInt = 3 ∨ x.toInt = 4 ∨ x.toInt = 5 := by omega
    rcases h1 with h1 | h1 | h1 | h1 | h1 | h1
    · exact Or.inl (Int32.toInt_inj.mp h1)
    · exact Or.inr (Or.inl (Int32.toInt_inj.mp h1))
    · exact Or.inr (Or.inr (Or.inl (Int32.toInt_inj.mp h1)))
    · exact Or.inr (Or.inr (Or.inr (Or.inl (Int32.toInt_inj.mp h1))))
    · exact Or.inr (Or.inr (Or.inr (Or.inr (Or.inl (Int32.toInt_inj.mp h1)))))
    · exact Or.inr (Or.inr (Or.inr (Or.inr (Or.inr (Or.inl (Int32.toInt_inj.mp h1))))))
