/-- what the class takes as given beside its own cells -/
def zA (z : Nat → Nat) (A : Nat → Prop) (U : State) (H : Heap) : Prop :=
  va_Z "java/util/ArrayList" "DEFAULTCAPACITY_EMPTY_ELEMENTDATA" "[Ljava/lang/Object;" (.ref (z 0)) A U H ∧ va_T (.object "java/lang/Object") (z 0) 0 (fun _ => .null) A U H ∧
  va_Z "ScriptDesk$Element" "WIDTHS" "[I" (.ref (z 1)) A U H ∧ va_T .int (z 1) 6 (fun j => .int ([40, 40, 24, 20, 28, 40].getD j 0)) A U H ∧
  va_Z "java/lang/String" "COMPACT_STRINGS" "Z" (.int 1) A U H ∧ vk_S 2 [4, 4] [[73, 78, 84, 46], [69, 88, 84, 46]] (fun i => z (2 + i)) (fun i => z (4 + i)) A U H ∧ va_Zq "jdk/internal/util/Preconditions" "SIOOBE_FORMATTER" "Ljava/util/function/BiFunction;" A U H
def zB (z : Nat → Nat) (U : State) : Prop :=
  vk_R "ScriptDesk$LineReader" 88 "INT." (z 2) U ∧ vk_R "ScriptDesk$LineReader" 94 "EXT." (z 3) U ∧ va_AO "java/lang/Object" U ∧ va_Mi "[Ljava/lang/Object;" (z 6) U ∧ va_Dc U ∧
  va_Nw (.castable "ScriptDesk$Element" "java/lang/Object") U ∧ va_Nw (.castable "ScriptDesk$Piece" "java/lang/Object") U ∧ va_Nw (.methodLinkNest "ScriptDesk" 9 ⟨"ScriptDesk$Tape", "<init>", "()V"⟩ "ScriptDesk") U
theorem zA.mv {z : Nat → Nat} {A : Nat → Prop} {u U : State} {H : Heap} (hvm : u.vm.Alike U.vm) (h : zA z A u H) : zA z A U H := ⟨h.1.moved hvm, h.2.1.moved hvm, h.2.2.1.moved hvm, h.2.2.2.1.moved hvm, h.2.2.2.2.1.moved hvm, h.2.2.2.2.2.1.moved hvm, h.2.2.2.2.2.2.moved hvm⟩
theorem zA.kept {z : Nat → Nat} {A : Nat → Prop} {U : State} {H H1 : Heap} (h : zA z A U H) (hq : ∀ a : Nat, a < H.size → ¬ A a → H1[a]? = H[a]?) : zA z A U H1 := ⟨h.1.kept hq, h.2.1.kept hq, h.2.2.1.kept hq, h.2.2.2.1.kept hq, h.2.2.2.2.1.kept hq, h.2.2.2.2.2.1.kept hq, h.2.2.2.2.2.2.kept hq⟩
theorem zA.narrow {z : Nat → Nat} {A B : Nat → Prop} {U : State} {H : Heap} (h : zA z A U H) (hAB : ∀ q, B q → A q) : zA z B U H := ⟨h.1.narrow hAB, h.2.1.narrow hAB, h.2.2.1.narrow hAB, h.2.2.2.1.narrow hAB, h.2.2.2.2.1.narrow hAB, h.2.2.2.2.2.1.narrow hAB, h.2.2.2.2.2.2.narrow hAB⟩
theorem zB.wm {z : Nat → Nat} {s U : State} (hW : s.WarmedH U.vm) (h : zB z s) : zB z U := ⟨h.1.warm hW, h.2.1.warm hW, h.2.2.1.moved hW.alike, h.2.2.2.1.moved hW.alike, h.2.2.2.2.1.moved hW.alike, h.2.2.2.2.2.1.warmC hW, h.2.2.2.2.2.2.1.warmC hW, h.2.2.2.2.2.2.2.warmM hW⟩
theorem zB.sm {z : Nat → Nat} {u U : State} (hv : u.vm = U.vm) (h : zB z u) : zB z U := by
  have ha : u.vm.Alike U.vm := by rw [hv]; exact Vm.Alike.refl _
  exact ⟨h.1.same hv.symm, h.2.1.same hv.symm, h.2.2.1.moved ha, h.2.2.2.1.moved ha, h.2.2.2.2.1.moved ha, va_Nw.same rfl hv h.2.2.2.2.2.1, va_Nw.same rfl hv h.2.2.2.2.2.2.1, va_Nw.same rfl hv h.2.2.2.2.2.2.2⟩
def zD (z : Nat → Nat) (w0 : va_W) : Nat → State → Prop := fun sz U => zA z (va_A w0 sz) U U.heap ∧ zB z U
theorem zD_blind {z : Nat → Nat} {w0 : va_W} {sz : Nat} : ∀ (U : State) (g : JFrame) (mk : MethodId) (a : Array Value), zD z w0 sz U → zD z w0 sz (U.calling g mk a) := fun U g mk a h => ⟨zA.mv (u := U) (U := U.calling g mk a) (Vm.Alike.refl U.vm) h.1, h.2.sm rfl⟩
theorem zD_pass {z : Nat → Nat} {wc : va_W} {s : State} {A : Nat → Prop} {H : Heap} {locs : List Loc} (hZ : zA z A s s.heap) (hN : zB z s) (hS : va_S A s.heap H locs) (hF : ∀ q, va_A wc H.size q → A q) : ∀ U : State, U.heap = H → s.WarmedH U.vm → zD z wc H.size U := by
  intro U hU hW
  refine ⟨?_, hN.wm hW⟩
  rw [hU]
  exact ((hZ.kept hS.2.1).narrow hF).mv hW.alike
def cR (l : Launch) (D : va_G) (y : MethodName) (b : ByteArray) (n : Nat) (r : Option FieldType) (fr lo mc ms : Nat) (As : List Value) (Z : Nat → State → Prop) (w0 : va_W) (t0 : List (ClassId × FieldType)) (post : Nat → wU → Prop) : Prop :=
  ∀ sz : Nat, Met l y (cW y b n r) ({ frames := fr, cells := mc, slots := ms, locals := lo }) (va_Pc As (wI D Z sz w0 t0)) (va_Qq (fun r u => ∃ a : Nat, r = some a ∧ post a u) (wB D (va_A w0 sz)) (va_A w0 sz)) mc ms (va_A w0 sz)
def eI (l : Launch) (D : va_G) (y : MethodName) (b : ByteArray) (n : Nat) (r : Option FieldType) (fr lo mc ms : Nat) (As : List Value) (z : Nat → Nat) (cB cI_ cO : ClassId) (L : List Nat) (g : hG) (post : Int32 → List Nat → hG → Prop) : Prop :=
  cI l D y b n r fr lo mc ms As (zD z (dW L g)) (dW L g) (dT cB cI_ cO) (fun v u => ∃ (L1 : List Nat) (g1 : hG), post v L1 g1 ∧ u = (dW L1 g1, dT cB cI_ cO))
def eL (l : Launch) (D : va_G) (y : MethodName) (b : ByteArray) (n : Nat) (r : Option FieldType) (fr lo mc ms : Nat) (As : List Value) (z : Nat → Nat) (cB cI_ cO : ClassId) (L : List Nat) (g : hG) (post : Int64 → List Nat → hG → Prop) : Prop :=
  cL l D y b n r fr lo mc ms As (zD z (dW L g)) (dW L g) (dT cB cI_ cO) (fun v u => ∃ (L1 : List Nat) (g1 : hG), post v L1 g1 ∧ u = (dW L1 g1, dT cB cI_ cO))
def eV (l : Launch) (D : va_G) (y : MethodName) (b : ByteArray) (n : Nat) (r : Option FieldType) (fr lo mc ms : Nat) (As : List Value) (z : Nat → Nat) (cB cI_ cO : ClassId) (L : List Nat) (g : hG) (post : List Nat → hG → Prop) : Prop :=
  cV l D y b n r fr lo mc ms As (zD z (dW L g)) (dW L g) (dT cB cI_ cO) (fun u => ∃ (L1 : List Nat) (g1 : hG), post L1 g1 ∧ u = (dW L1 g1, dT cB cI_ cO))
def eR (l : Launch) (D : va_G) (y : MethodName) (b : ByteArray) (n : Nat) (r : Option FieldType) (fr lo mc ms : Nat) (As : List Value) (z : Nat → Nat) (cB cI_ cO : ClassId) (L : List Nat) (g : hG) (post : Nat → List Nat → hG → Prop) : Prop :=
  cR l D y b n r fr lo mc ms As (zD z (dW L g)) (dW L g) (dT cB cI_ cO) (fun v u => ∃ (L1 : List Nat) (g1 : hG), post v L1 g1 ∧ u = (dW L1 g1, dT cB cI_ cO))
/-- the start of a contract of the class: B is the frame's end -/
theorem o_s {l : Launch} {D : va_G} {y : MethodName} {b : ByteArray} {n : Nat} {r : Option FieldType} {rm : Room} {mc ms : Nat} {As : List Value} {z : Nat → Nat} {cB cI_ cO : ClassId} {L : List Nat} {g : hG} {Qc : (Nat → Prop) → Array Value → State → Outcome → State → Prop} {sz : Nat}
    (hy : plainName y.cls = true) (hn : (lg_sl As).length ≤ n)
    (body : ∀ (p : Program) (e : Env) (s : State) (m : MethodId) (below : List Frame) (meth : Method) (c : Code) (A : Nat → Prop) (ls : Array Slot),
      CallFix p m c b n s As.toArray gT y.cls → meth.sig.returnType = r → meth.locks = false → meth.name = y.name → va_K D vcl (dT cB cI_ cO) s → va_P D vcl (dW L g) s.heap → va_D A (dW L g) → va_S A s.heap s.heap [] → (∀ q : Nat, s.heap.size ≤ q → A q) → zA z A s s.heap → zB z s → lv_has ls n (lv_args 0 As) →
      W p l e rm s m As.toArray below meth c s.heap [] 0 0 (MQ below (Qc A) As.toArray s mc ms A) (F0 m 0 ls [])) :
    Met l y (cW y b n r) rm (va_Pc As (wI D (zD z (dW L g)) sz (dW L g) (dT cB cI_ cO))) (Qc (va_A (dW L g) sz)) mc ms (va_A (dW L g) sz) := by
  refine q_s (Qc := Qc) hy hn ?_
  intro p e s m below meth c A ls hAe hf hr hlocks hin hK hP hD hS hA hZ hl
  obtain ⟨hZ, hN⟩ := hZ
  rw [hAe] at hZ
  exact body p e s m below meth c A ls hf hr hlocks hin hK hP hD hS hA hZ hN hl
theorem o_si {l : Launch} {D : va_G} {y : MethodName} {b : ByteArray} {n : Nat} {r : Option FieldType} {fr lo mc ms : Nat} {As : List Value} {z : Nat → Nat} {cB cI_ cO : ClassId} {L : List Nat} {g : hG} {post : Int32 → List Nat → hG → Prop}
    (hy : plainName y.cls = true) (hn : (lg_sl As).length ≤ n)
    (body : ∀ (p : Program) (e : Env) (s : State) (m : MethodId) (below : List Frame) (meth : Method) (c : Code) (A : Nat → Prop) (ls : Array Slot),
      CallFix p m c b n s As.toArray gT y.cls → meth.sig.returnType = r → meth.locks = false → meth.name = y.name → va_K D vcl (dT cB cI_ cO) s → va_P D vcl (dW L g) s.heap → va_D A (dW L g) → va_S A s.heap s.heap [] → (∀ q : Nat, s.heap.size ≤ q → A q) → zA z A s s.heap → zB z s → lv_has ls n (lv_args 0 As) →
      W p l e ({ frames := fr, cells := mc, slots := ms, locals := lo }) s m As.toArray below meth c s.heap [] 0 0 (MQ below (va_Qi (fun v u => ∃ (L1 : List Nat) (g1 : hG), post v L1 g1 ∧ u = (dW L1 g1, dT cB cI_ cO)) (wB D A) A) As.toArray s mc ms A) (F0 m 0 ls [])) : eI l D y b n r fr lo mc ms As z cB cI_ cO L g post := fun _ => o_s (Qc := fun A => va_Qi _ (wB D A) A) hy hn body
theorem o_sl {l : Launch} {D : va_G} {y : MethodName} {b : ByteArray} {n : Nat} {r : Option FieldType} {fr lo mc ms : Nat} {As : List Value} {z : Nat → Nat} {cB cI_ cO : ClassId} {L : List Nat} {g : hG} {post : Int64 → List Nat → hG → Prop}
    (hy : plainName y.cls = true) (hn : (lg_sl As).length ≤ n)
    (body : ∀ (p : Program) (e : Env) (s : State) (m : MethodId) (below : List Frame) (meth : Method) (c : Code) (A : Nat → Prop) (ls : Array Slot),
      CallFix p m c b n s As.toArray gT y.cls → meth.sig.returnType = r → meth.locks = false → meth.name = y.name → va_K D vcl (dT cB cI_ cO) s → va_P D vcl (dW L g) s.heap → va_D A (dW L g) → va_S A s.heap s.heap [] → (∀ q : Nat, s.heap.size ≤ q → A q) → zA z A s s.heap → zB z s → lv_has ls n (lv_args 0 As) →
      W p l e ({ frames := fr, cells := mc, slots := ms, locals := lo }) s m As.toArray below meth c s.heap [] 0 0 (MQ below (va_Ql (fun v u => ∃ (L1 : List Nat) (g1 : hG), post v L1 g1 ∧ u = (dW L1 g1, dT cB cI_ cO)) (wB D A) A) As.toArray s mc ms A) (F0 m 0 ls [])) : eL l D y b n r fr lo mc ms As z cB cI_ cO L g post := fun _ => o_s (Qc := fun A => va_Ql _ (wB D A) A) hy hn body
theorem o_sv {l : Launch} {D : va_G} {y : MethodName} {b : ByteArray} {n : Nat} {r : Option FieldType} {fr lo mc ms : Nat} {As : List Value} {z : Nat → Nat} {cB cI_ cO : ClassId} {L : List Nat} {g : hG} {post : List Nat → hG → Prop}
    (hy : plainName y.cls = true) (hn : (lg_sl As).length ≤ n)
    (body : ∀ (p : Program) (e : Env) (s : State) (m : MethodId) (below : List Frame) (meth : Method) (c : Code) (A : Nat → Prop) (ls : Array Slot),
      CallFix p m c b n s As.toArray gT y.cls → meth.sig.returnType = r → meth.locks = false → meth.name = y.name → va_K D vcl (dT cB cI_ cO) s → va_P D vcl (dW L g) s.heap → va_D A (dW L g) → va_S A s.heap s.heap [] → (∀ q : Nat, s.heap.size ≤ q → A q) → zA z A s s.heap → zB z s → lv_has ls n (lv_args 0 As) →
      W p l e ({ frames := fr, cells := mc, slots := ms, locals := lo }) s m As.toArray below meth c s.heap [] 0 0 (MQ below (va_Qv (fun u => ∃ (L1 : List Nat) (g1 : hG), post L1 g1 ∧ u = (dW L1 g1, dT cB cI_ cO)) (wB D A) A) As.toArray s mc ms A) (F0 m 0 ls [])) : eV l D y b n r fr lo mc ms As z cB cI_ cO L g post := fun _ => o_s (Qc := fun A => va_Qv _ (wB D A) A) hy hn body
theorem o_sr {l : Launch} {D : va_G} {y : MethodName} {b : ByteArray} {n : Nat} {r : Option FieldType} {fr lo mc ms : Nat} {As : List Value} {z : Nat → Nat} {cB cI_ cO : ClassId} {L : List Nat} {g : hG} {post : Nat → List Nat → hG → Prop}
    (hy : plainName y.cls = true) (hn : (lg_sl As).length ≤ n)
    (body : ∀ (p : Program) (e : Env) (s : State) (m : MethodId) (below : List Frame) (meth : Method) (c : Code) (A : Nat → Prop) (ls : Array Slot),
      CallFix p m c b n s As.toArray gT y.cls → meth.sig.returnType = r → meth.locks = false → meth.name = y.name → va_K D vcl (dT cB cI_ cO) s → va_P D vcl (dW L g) s.heap → va_D A (dW L g) → va_S A s.heap s.heap [] → (∀ q : Nat, s.heap.size ≤ q → A q) → zA z A s s.heap → zB z s → lv_has ls n (lv_args 0 As) →
      W p l e ({ frames := fr, cells := mc, slots := ms, locals := lo }) s m As.toArray below meth c s.heap [] 0 0 (MQ below (va_Qq (fun r u => ∃ a : Nat, r = some a ∧ ∃ (L1 : List Nat) (g1 : hG), post a L1 g1 ∧ u = (dW L1 g1, dT cB cI_ cO)) (wB D A) A) As.toArray s mc ms A) (F0 m 0 ls [])) : eR l D y b n r fr lo mc ms As z cB cI_ cO L g post := fun _ => o_s (Qc := fun A => va_Qq _ (wB D A) A) hy hn body
section OC
variable {p : Program} {l : Launch} {e : Env} {R : Room} {s : State} {m : MethodId} {args : Array Value} {below : List Frame} {meth : Method} {c : Code} {H : Heap} {locs : List Loc} {cells slots : Nat} {Q : State → Prop}
variable {cc : ByteArray} {pc nL : Nat} {ls : Array Slot} {rest st0 : List Value} {D : va_G} {A : Nat → Prop} {cB cI_ cO : ClassId} {L : List Nat} {g : hG} {own : String} {z : Nat → Nat}
/-- the ends -/
theorem o_ri {v : Int32} {ty : FieldType} {post : Int32 → List Nat → hG → Prop} {mc ms : Nat} (F : CallFix p m c cc nL s args gT own) (hr : meth.sig.returnType = some ty) (hnar : narrow ty (.int v) = .int v) (hlocks : meth.locks = false) (hK : va_K D vcl (dT cB cI_ cO) s) (hP : va_P D vcl (dW L g) H) (hD : va_D A (dW L g)) (hS : va_S A s.heap H locs)
    (hc : cells ≤ mc) (hs : slots ≤ ms) (hp : post v L g) (hdg : decode cc pc = .ok (.ireturn, 1)) :
    W p l e R s m args below meth c H locs cells slots (MQ below (va_Qi (fun v u => ∃ (L1 : List Nat) (g1 : hG), post v L1 g1 ∧ u = (dW L1 g1, dT cB cI_ cO)) (wB D A) A) args s mc ms A) (F0 m pc ls [.int v]) :=
  q_zi F hr hnar hlocks hK hP hD hS hc hs ⟨L, g, hp, rfl⟩ hdg
theorem o_rv {post : List Nat → hG → Prop} {mc ms : Nat} (F : CallFix p m c cc nL s args gT own) (hr : meth.sig.returnType = none) (hlocks : meth.locks = false) (hK : va_K D vcl (dT cB cI_ cO) s) (hP : va_P D vcl (dW L g) H) (hD : va_D A (dW L g)) (hS : va_S A s.heap H locs)
    (hc : cells ≤ mc) (hs : slots ≤ ms) (hp : post L g) (hdg : decode cc pc = .ok (.return_, 1)) :
    W p l e R s m args below meth c H locs cells slots (MQ below (va_Qv (fun u => ∃ (L1 : List Nat) (g1 : hG), post L1 g1 ∧ u = (dW L1 g1, dT cB cI_ cO)) (wB D A) A) args s mc ms A) (F0 m pc ls []) :=
  q_zv F hr hlocks hK hP hD hS hc hs ⟨L, g, hp, rfl⟩ hdg
theorem o_rl {v : Int64} {post : Int64 → List Nat → hG → Prop} {mc ms : Nat} (F : CallFix p m c cc nL s args gT own) (hr : meth.sig.returnType = some .long) (hlocks : meth.locks = false) (hK : va_K D vcl (dT cB cI_ cO) s) (hP : va_P D vcl (dW L g) H) (hD : va_D A (dW L g)) (hS : va_S A s.heap H locs)
    (hc : cells ≤ mc) (hs : slots ≤ ms) (hp : post v L g) (hdg : decode cc pc = .ok (.lreturn, 1)) :
    W p l e R s m args below meth c H locs cells slots (MQ below (va_Ql (fun v u => ∃ (L1 : List Nat) (g1 : hG), post v L1 g1 ∧ u = (dW L1 g1, dT cB cI_ cO)) (wB D A) A) args s mc ms A) (F0 m pc ls [.long v]) := by
  refine W.widen (k := mc) (n := ms) hc hs ?_
  exact W.lret F.1 F.2.1 hr (fun t ht hW => ⟨⟨v, _, rfl, ⟨L, g, hp, rfl⟩, by rw [ht]; exact hP, va_K.moved hW.alike hK, hD⟩, hS.F ht⟩) hS.2.2 hdg hlocks
theorem o_rr {v : Nat} {rt : FieldType} {post : Nat → List Nat → hG → Prop} {mc ms : Nat} (F : CallFix p m c cc nL s args gT own) (hr : meth.sig.returnType = some rt) (hrt : (∃ n, rt = .object n) ∨ ∃ t, rt = .array t) (hlocks : meth.locks = false) (hK : va_K D vcl (dT cB cI_ cO) s) (hP : va_P D vcl (dW L g) H) (hD : va_D A (dW L g)) (hS : va_S A s.heap H locs)
    (hc : cells ≤ mc) (hs : slots ≤ ms) (hp : post v L g) (hdg : decode cc pc = .ok (.areturn, 1)) :
    W p l e R s m args below meth c H locs cells slots (MQ below (va_Qq (fun r u => ∃ a : Nat, r = some a ∧ ∃ (L1 : List Nat) (g1 : hG), post a L1 g1 ∧ u = (dW L1 g1, dT cB cI_ cO)) (wB D A) A) args s mc ms A) (F0 m pc ls [.ref v]) := by
  refine W.widen (k := mc) (n := ms) hc hs ?_
  exact W.aret F.1 F.2.1 hr hrt (Or.inr ⟨v, rfl⟩) (fun t ht hW => ⟨⟨some v, (dW L g, dT cB cI_ cO), rfl, ⟨v, rfl, L, g, hp, rfl⟩, by rw [ht]; exact hP, va_K.moved hW.alike hK, hD⟩, hS.F ht⟩) hS.2.2 hdg hlocks
/-- behind a call -/
theorem o_ci {post : Int32 → List Nat → hG → Prop} {a : Array Value} {mc ms k n : Nat} (hK : va_K D vcl (dT cB cI_ cO) s) (hP : va_P D vcl (dW L g) H) (hD : va_D A (dW L g)) (hS : va_S A s.heap H locs) (hA : ∀ q : Nat, s.heap.size ≤ q → A q)
    (run : va_Run p l e R s m args below meth c H locs cells slots mc ms (F0 m pc ls st0) rest (va_Qi (fun v u => ∃ (L1 : List Nat) (g1 : hG), post v L1 g1 ∧ u = (dW L1 g1, dT cB cI_ cO)) (wB D (va_A (dW L g) H.size)) (va_A (dW L g) H.size) a) (va_A (dW L g) H.size))
    (hk : cells + mc ≤ k) (hs : slots + ms ≤ n)
    (kk : ∀ (r : Int32) (L1 : List Nat) (g1 : hG) (H1 : Heap) (locs1 : List Loc), post r L1 g1 → va_P D vcl (dW L1 g1) H1 → va_D A (dW L1 g1) → va_S A s.heap H1 locs1 → W p l e R s m args below meth c H1 locs1 k n Q (F0 m (pc + 3) ls (.int r :: rest))) :
    W p l e R s m args below meth c H locs cells slots Q (F0 m pc ls st0) := by
  refine q_ci hK hP hD hS hA (fun _ _ _ => run) hk hs (fun r u H1 locs1 hw _ hP1 hD1 hS1 => ?_)
  obtain ⟨L1, g1, hp, rfl⟩ := hw
  exact kk r L1 g1 H1 locs1 hp hP1 hD1 hS1
theorem o_cv {post : List Nat → hG → Prop} {a : Array Value} {mc ms k n : Nat} (hK : va_K D vcl (dT cB cI_ cO) s) (hP : va_P D vcl (dW L g) H) (hD : va_D A (dW L g)) (hS : va_S A s.heap H locs) (hA : ∀ q : Nat, s.heap.size ≤ q → A q)
    (run : va_Run p l e R s m args below meth c H locs cells slots mc ms (F0 m pc ls st0) rest (va_Qv (fun u => ∃ (L1 : List Nat) (g1 : hG), post L1 g1 ∧ u = (dW L1 g1, dT cB cI_ cO)) (wB D (va_A (dW L g) H.size)) (va_A (dW L g) H.size) a) (va_A (dW L g) H.size))
    (hk : cells + mc ≤ k) (hs : slots + ms ≤ n)
    (kk : ∀ (L1 : List Nat) (g1 : hG) (H1 : Heap) (locs1 : List Loc), post L1 g1 → va_P D vcl (dW L1 g1) H1 → va_D A (dW L1 g1) → va_S A s.heap H1 locs1 → W p l e R s m args below meth c H1 locs1 k n Q (F0 m (pc + 3) ls rest)) :
    W p l e R s m args below meth c H locs cells slots Q (F0 m pc ls st0) := by
  refine q_cv hK hP hD hS hA (fun _ _ _ => run) hk hs (fun u H1 locs1 hw _ hP1 hD1 hS1 => ?_)
  obtain ⟨L1, g1, hp, rfl⟩ := hw
  exact kk L1 g1 H1 locs1 hp hP1 hD1 hS1
theorem o_cl {post : Int64 → List Nat → hG → Prop} {a : Array Value} {mc ms k n : Nat} (hK : va_K D vcl (dT cB cI_ cO) s) (hP : va_P D vcl (dW L g) H) (hD : va_D A (dW L g)) (hS : va_S A s.heap H locs) (hA : ∀ q : Nat, s.heap.size ≤ q → A q)
    (run : va_Run p l e R s m args below meth c H locs cells slots mc ms (F0 m pc ls st0) rest (va_Ql (fun v u => ∃ (L1 : List Nat) (g1 : hG), post v L1 g1 ∧ u = (dW L1 g1, dT cB cI_ cO)) (wB D (va_A (dW L g) H.size)) (va_A (dW L g) H.size) a) (va_A (dW L g) H.size))
    (hk : cells + mc ≤ k) (hs : slots + ms ≤ n)
    (kk : ∀ (r : Int64) (L1 : List Nat) (g1 : hG) (H1 : Heap) (locs1 : List Loc), post r L1 g1 → va_P D vcl (dW L1 g1) H1 → va_D A (dW L1 g1) → va_S A s.heap H1 locs1 → W p l e R s m args below meth c H1 locs1 k n Q (F0 m (pc + 3) ls (.long r :: rest))) :
    W p l e R s m args below meth c H locs cells slots Q (F0 m pc ls st0) := by
  have hFc := q_all hD hS hA
  refine va_calll run hS (fun q _ h => hFc q h) hFc (fun r u t H1 locs1 ht hvm hw hB hz1 hk1 hS1 => ?_)
  obtain ⟨hP1, hK1, hD1⟩ := hB
  rw [ht] at hP1
  obtain ⟨L1, g1, hp, rfl⟩ := hw
  exact W.widen hk hs (kk r L1 g1 H1 locs1 hp hP1 (hD1.weaken (fun _ _ _ h => hFc _ h)) hS1)
theorem o_cr {post : Nat → List Nat → hG → Prop} {a : Array Value} {mc ms k n : Nat} (hK : va_K D vcl (dT cB cI_ cO) s) (hP : va_P D vcl (dW L g) H) (hD : va_D A (dW L g)) (hS : va_S A s.heap H locs) (hA : ∀ q : Nat, s.heap.size ≤ q → A q)
    (run : va_Run p l e R s m args below meth c H locs cells slots mc ms (F0 m pc ls st0) rest (va_Qq (fun r u => ∃ b : Nat, r = some b ∧ ∃ (L1 : List Nat) (g1 : hG), post b L1 g1 ∧ u = (dW L1 g1, dT cB cI_ cO)) (wB D (va_A (dW L g) H.size)) (va_A (dW L g) H.size) a) (va_A (dW L g) H.size))
    (hk : cells + mc ≤ k) (hs : slots + ms ≤ n)
    (kk : ∀ (r : Nat) (L1 : List Nat) (g1 : hG) (H1 : Heap) (locs1 : List Loc), post r L1 g1 → va_P D vcl (dW L1 g1) H1 → va_D A (dW L1 g1) → va_S A s.heap H1 locs1 → W p l e R s m args below meth c H1 locs1 k n Q (F0 m (pc + 3) ls (.ref r :: rest))) :
    W p l e R s m args below meth c H locs cells slots Q (F0 m pc ls st0) := by
  have hFc := q_all hD hS hA
  refine va_callq run hS (fun q _ h => hFc q h) hFc (fun r u t H1 locs1 ht hvm hw hB hz1 hk1 hS1 => ?_)
  obtain ⟨hP1, hK1, hD1⟩ := hB
  rw [ht] at hP1
  obtain ⟨b, rfl, L1, g1, hp, rfl⟩ := hw
  exact W.widen hk hs (kk b L1 g1 H1 locs1 hp hP1 (hD1.weaken (fun _ _ _ h => hFc _ h)) hS1)
/-- the runs -/
theorem o_rV {y : MethodName} {bytes : ByteArray} {maxL index nA mc ms fr lo t ci : Nat} {ret : Option FieldType} {Qc : Array Value → State → Outcome → State → Prop} {free : Addr → Prop} {C : String} {b : Addr} {As : List Value} {qc : vw_C} {fs : List Value}
    (F : CallFix p m c cc nL s args gT own) (hM : Met l y (cW y bytes maxL ret) ({ frames := fr, cells := mc, slots := ms, locals := lo }) (va_Pc (.ref b :: As) (wI D (zD z (dW L g)) H.size (dW L g) (dT cB cI_ cO))) Qc mc ms free)
    (kc : Cond.code y bytes maxL ret ∈ gT) (kl : Cond.methodLink own index y ∈ gT) (ki : Cond.instanceMethod y ∈ gT) (ks : Cond.selects C y y ∈ gT) (kn : Cond.initialized y.cls ∈ gT)
    (hd : y.cls ≠ "java/lang/invoke/MethodHandle" ∧ y.cls ≠ "java/lang/invoke/VarHandle" ∧ (parseMethodDescriptor y.desc).map (fun d => d.parameters.length) = some nA) (hR : fr + 1 ≤ R.frames ∧ 8 + (maxL + 11) + lo ≤ R.locals)
    (hK : va_K D vcl (dT cB cI_ cO) s) (hP : va_P D vcl (dW L g) H) (hD : va_D A (dW L g)) (hS : va_S A s.heap H locs) (hA : ∀ q : Nat, s.heap.size ≤ q → A q) (hZ : zA z A s s.heap) (hN : zB z s) (he : ho L g b t (.inr (ci, fs))) (hcl : vcl[ci]? = some qc) (hC : qc.1 = C)
    (hn : As.length = nA) (hsz : ls.size = nL) (hst : st0 = As.reverse ++ .ref b :: rest) (hW : (rest.map fun v => v.category).sum ≤ 8) (hdg : decode cc pc = .ok (.invokevirtual index, 3)) (hf : cells + mc ≤ R.cells ∧ slots + ms ≤ R.slots) :
    va_Run p l e R s m args below meth c H locs cells slots mc ms (F0 m pc ls st0) rest (Qc (Value.ref b :: As).toArray) free := by
  obtain ⟨q0, h0⟩ := he.at
  exact q_rV F hM kc kl ki ks kn hd hR hK hP hcl hC h0 hP hK hD zD_blind (zD_pass hZ hN hS (q_all hD hS hA)) hn hsz hst hW hdg hf
theorem o_rS {y : MethodName} {bytes : ByteArray} {maxL index nA mc ms fr lo : Nat} {ret : Option FieldType} {Qc : Array Value → State → Outcome → State → Prop} {free : Addr → Prop} {As : List Value}
    (F : CallFix p m c cc nL s args gT own) (hM : Met l y (cW y bytes maxL ret) ({ frames := fr, cells := mc, slots := ms, locals := lo }) (va_Pc As (wI D (zD z (dW L g)) H.size (dW L g) (dT cB cI_ cO))) Qc mc ms free)
    (kc : Cond.code y bytes maxL ret ∈ gT) (kl : Cond.methodLink own index y ∈ gT) (ks : Cond.static y ∈ gT) (kn : Cond.initialized y.cls ∈ gT)
    (hd : y.cls ≠ "java/lang/invoke/MethodHandle" ∧ y.cls ≠ "java/lang/invoke/VarHandle" ∧ (parseMethodDescriptor y.desc).map (fun d => d.parameters.length) = some nA) (hR : fr + 1 ≤ R.frames ∧ 8 + (maxL + 11) + lo ≤ R.locals)
    (hK : va_K D vcl (dT cB cI_ cO) s) (hP : va_P D vcl (dW L g) H) (hD : va_D A (dW L g)) (hS : va_S A s.heap H locs) (hA : ∀ q : Nat, s.heap.size ≤ q → A q) (hZ : zA z A s s.heap) (hN : zB z s)
    (hn : As.length = nA) (hsz : ls.size = nL) (hst : st0 = As.reverse ++ rest) (hW : (rest.map fun v => v.category).sum ≤ 8) (hdg : decode cc pc = .ok (.invokestatic index, 3)) (hf : cells + mc ≤ R.cells ∧ slots + ms ≤ R.slots) :
    va_Run p l e R s m args below meth c H locs cells slots mc ms (F0 m pc ls st0) rest (Qc As.toArray) free :=
  q_rS F hM kc kl ks kn hd hR hP hK hD zD_blind (zD_pass hZ hN hS (q_all hD hS hA)) hn hsz hst hW hdg hf
theorem o_rI {y : MethodName} {bytes : ByteArray} {maxL index nA mc ms fr lo : Nat} {Qc : Array Value → State → Outcome → State → Prop} {free : Addr → Prop} {b : Addr} {As : List Value}
    (F : CallFix p m c cc nL s args gT own) (hM : Met l y (cW y bytes maxL none) ({ frames := fr, cells := mc, slots := ms, locals := lo }) (va_Pc (.ref b :: As) (wI D (zD z (dW L g)) H.size (dW L g) (dT cB cI_ cO))) Qc mc ms free)
    (kc : Cond.code y bytes maxL none ∈ gT) (kl : Cond.methodLink own index y ∈ gT) (ki : Cond.instanceMethod y ∈ gT) (kn : Cond.initialized y.cls ∈ gT) (hy1 : y.name = "<init>")
    (hd : y.cls ≠ "java/lang/invoke/MethodHandle" ∧ y.cls ≠ "java/lang/invoke/VarHandle" ∧ (parseMethodDescriptor y.desc).map (fun d => d.parameters.length) = some nA) (hR : fr + 1 ≤ R.frames ∧ 8 + (maxL + 11) + lo ≤ R.locals)
    (hK : va_K D vcl (dT cB cI_ cO) s) (hP : va_P D vcl (dW L g) H) (hD : va_D A (dW L g)) (hS : va_S A s.heap H locs) (hA : ∀ q : Nat, s.heap.size ≤ q → A q) (hZ : zA z A s s.heap) (hN : zB z s)
    (hn : As.length = nA) (hsz : ls.size = nL) (hst : st0 = As.reverse ++ .ref b :: rest) (hW : (rest.map fun v => v.category).sum ≤ 8) (hdg : decode cc pc = .ok (.invokespecial index, 3)) (hf : cells + mc ≤ R.cells ∧ slots + ms ≤ R.slots) :
    va_Run p l e R s m args below meth c H locs cells slots mc ms (F0 m pc ls st0) rest (Qc (Value.ref b :: As).toArray) free :=
  q_rI F hM kc kl ki kn hy1 hd hR hP hK hD zD_blind (zD_pass hZ hN hS (q_all hD hS hA)) hn hsz hst hW hdg hf
end OC
