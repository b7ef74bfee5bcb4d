/-- the class's world: addresses, and of each its kind and what it holds -/
abbrev hG : Type := Nat → Nat × va_E
def dW (L : List Nat) (g : hG) : va_W := va_pl L (fun a => (g a).2)
abbrev dT (cB cI cO : ClassId) : List (ClassId × FieldType) := [(cB, .byte), (cI, .int), (cO, .object "java/lang/Object")]
def ho (L : List Nat) (g : hG) (a t : Nat) (e : va_E) : Prop := a ∈ L ∧ g a = (t, e)
def up1 (g : hG) (a t : Nat) (g1 : hG) : Prop := (g a).1 = t ∧ (g1 a).1 = t ∧ ∀ b, b ≠ a → g1 b = g b
def nw1 (L : List Nat) (g : hG) (q : Nat) (L1 : List Nat) (g1 : hG) : Prop := q ∉ L ∧ L1 = L ++ [q] ∧ ∀ b, b ∈ L → g1 b = g b
/-- what is of no kind in ts stays -/
def fr (ts : List Nat) (L : List Nat) (g : hG) (L1 : List Nat) (g1 : hG) : Prop := ∀ a, a ∈ L → a ∈ L1 ∧ (g1 a).1 = (g a).1 ∧ ((g a).1 ∉ ts → g1 a = g a)
theorem ho.at {L : List Nat} {g : hG} {a t : Nat} {e : va_E} (h : ho L g a t e) : ∃ k : Nat, (dW L g)[k]? = some (a, e) := by
  obtain ⟨k, hk⟩ := va_pl_get (X := []) (L := L) (f := fun a => (g a).2) h.1
  have h2 : (dW L g)[k]? = some (a, (g a).2) := hk
  rw [h.2] at h2
  exact ⟨k, h2⟩
theorem ho_set {A : Nat → Prop} {L : List Nat} {g : hG} {a t k : Nat} {e e1 : va_E} (hD : va_D A (dW L g)) (h : ho L g a t e) (hk : (dW L g)[k]? = some (a, e)) : (dW L g).set k (a, e1) = dW L (va_up g a (t, e1)) := by
  have h2 : ([] ++ va_pl L (fun a => (g a).2))[k]? = some (a, (fun a => (g a).2) a) := by
    have h3 : (fun a => (g a).2) a = e := by show (g a).2 = e; rw [h.2]
    rw [h3]
    exact hk
  have h4 := va_pl_set (X := []) (e := e1) hD h.1 h2
  refine h4.trans ?_
  show va_pl L _ = va_pl L _
  refine va_pl_congr (fun b => ?_)
  by_cases hb : b = a
  · rw [hb, va_up_self, va_up_self]
  · rw [va_up_ne _ _ hb, va_up_ne _ _ hb]
theorem ho_up {L : List Nat} {g : hG} {a t : Nat} {e e1 : va_E} (h : ho L g a t e) : ho L (va_up g a (t, e1)) a t e1 := ⟨h.1, va_up_self _ _ _⟩
theorem up1_up {L : List Nat} {g : hG} {a t : Nat} {e e1 : va_E} (h : ho L g a t e) : up1 g a t (va_up g a (t, e1)) := ⟨by rw [h.2], by rw [va_up_self], fun b hb => va_up_ne _ _ hb⟩
theorem ho.up {L : List Nat} {g g1 : hG} {a b t u : Nat} {e : va_E} (h : ho L g b u e) (hu : up1 g a t g1) (hne : u ≠ t) : ho L g1 b u e := by
  have hb : b ≠ a := fun z => hne (by rw [← hu.1, ← z, h.2])
  exact ⟨h.1, by rw [hu.2.2 b hb]; exact h.2⟩
theorem ho.un {L : List Nat} {g g1 : hG} {a b t u : Nat} {e : va_E} (h : ho L g b u e) (hu : up1 g a t g1) (hb : b ≠ a) : ho L g1 b u e := ⟨h.1, by rw [hu.2.2 b hb]; exact h.2⟩
theorem ho.nw {L L1 : List Nat} {g g1 : hG} {q b u : Nat} {e : va_E} (h : ho L g b u e) (hn : nw1 L g q L1 g1) : ho L1 g1 b u e := ⟨by rw [hn.2.1]; exact List.mem_append_left _ h.1, by rw [hn.2.2 b h.1]; exact h.2⟩
theorem ho.fr {ts L L1 : List Nat} {g g1 : hG} {b u : Nat} {e : va_E} (h : ho L g b u e) (hf : fr ts L g L1 g1) (ht : u ∉ ts) : ho L1 g1 b u e := by
  obtain ⟨h1, h2, h3⟩ := hf b h.1
  exact ⟨h1, by rw [h3 (by rw [h.2]; exact ht)]; exact h.2⟩
theorem ho.ne {L : List Nat} {g : hG} {a b t u : Nat} {e f : va_E} (h : ho L g a t e) (h2 : ho L g b u f) (hne : t ≠ u) : a ≠ b := fun z => hne (by
  have h3 := h.2
  rw [z, h2.2] at h3
  exact (congrArg Prod.fst h3).symm)
theorem fr.rf {ts L : List Nat} {g : hG} : fr ts L g L g := fun _ h => ⟨h, rfl, fun _ => rfl⟩
theorem fr.up {ts L0 L : List Nat} {g0 g g1 : hG} {a t : Nat} (h : fr ts L0 g0 L g) (hu : up1 g a t g1) (ht : t ∈ ts) : fr ts L0 g0 L g1 := by
  intro b hb
  obtain ⟨h1, h2, h3⟩ := h b hb
  by_cases e : b = a
  · subst e
    refine ⟨h1, by rw [hu.2.1, ← hu.1]; exact h2, fun z => ?_⟩
    exact absurd (show (g0 b).1 ∈ ts by rw [← h2, hu.1]; exact ht) z
  · rw [hu.2.2 b e]
    exact ⟨h1, h2, h3⟩
theorem fr.nw {ts L0 L L1 : List Nat} {g0 g g1 : hG} {q : Nat} (h : fr ts L0 g0 L g) (hn : nw1 L g q L1 g1) : fr ts L0 g0 L1 g1 := by
  intro b hb
  obtain ⟨h1, h2, h3⟩ := h b hb
  rw [hn.2.2 b h1]
  exact ⟨by rw [hn.2.1]; exact List.mem_append_left _ h1, h2, h3⟩
theorem fr.tr {ts L0 L L1 : List Nat} {g0 g g1 : hG} (h : fr ts L0 g0 L g) (h9 : fr ts L g L1 g1) : fr ts L0 g0 L1 g1 := by
  intro b hb
  obtain ⟨h1, h2, h3⟩ := h b hb
  obtain ⟨k1, k2, k3⟩ := h9 b h1
  exact ⟨k1, k2.trans h2, fun z => (k3 (by rw [h2]; exact z)).trans (h3 z)⟩
theorem fr.mo {ts ts2 L0 L : List Nat} {g0 g : hG} (h : fr ts L0 g0 L g) (hs : ts.all (fun t => ts2.contains t) = true) : fr ts2 L0 g0 L g := by
  intro b hb
  obtain ⟨h1, h2, h3⟩ := h b hb
  refine ⟨h1, h2, fun z => h3 (fun z2 => z ?_)⟩
  have h4 := List.all_eq_true.mp hs _ z2
  exact List.contains_iff_mem.mp h4
theorem fr.tm {ts ts2 L0 L L1 : List Nat} {g0 g g1 : hG} (h : fr ts L0 g0 L g) (h9 : fr ts2 L g L1 g1) (hs : ts2.all (fun t => ts.contains t) = true) : fr ts L0 g0 L1 g1 := h.tr (h9.mo hs)
/-- but for the cells as all stays -/
def fra (as L : List Nat) (g : hG) (L1 : List Nat) (g1 : hG) : Prop := ∀ a, a ∈ L → a ∈ L1 ∧ (a ∉ as → g1 a = g a)
theorem fra.rf {as L : List Nat} {g : hG} : fra as L g L g := fun _ h => ⟨h, fun _ => rfl⟩
theorem fra.up {as L0 L : List Nat} {g0 g g1 : hG} {a t : Nat} (h : fra as L0 g0 L g) (hu : up1 g a t g1) (ha : a ∈ as ∨ a ∉ L0) : fra as L0 g0 L g1 := by
  intro b hb
  obtain ⟨h1, h2⟩ := h b hb
  refine ⟨h1, fun z => ?_⟩
  have e : b ≠ a := fun e => ha.elim (fun z2 => z (e ▸ z2)) (fun z2 => z2 (e ▸ hb))
  rw [hu.2.2 b e]
  exact h2 z
theorem fra.nw {as L0 L L1 : List Nat} {g0 g g1 : hG} {q : Nat} (h : fra as L0 g0 L g) (hn : nw1 L g q L1 g1) : fra as L0 g0 L1 g1 := by
  intro b hb
  obtain ⟨h1, h2⟩ := h b hb
  rw [hn.2.2 b h1]
  exact ⟨by rw [hn.2.1]; exact List.mem_append_left _ h1, h2⟩
theorem fra.tm {as as2 L0 L L1 : List Nat} {g0 g g1 : hG} (h : fra as L0 g0 L g) (h9 : fra as2 L g L1 g1) (hs : ∀ a, a ∈ as2 → a ∈ as ∨ a ∉ L0) : fra as L0 g0 L1 g1 := by
  intro b hb
  obtain ⟨h1, h2⟩ := h b hb
  obtain ⟨k1, k2⟩ := h9 b h1
  exact ⟨k1, fun z => (k2 (fun z2 => (hs b z2).elim z (fun z3 => z3 hb))).trans (h2 z)⟩
theorem fra.nin {as L0 L L1 : List Nat} {g0 g g1 : hG} {q : Nat} (h : fra as L0 g0 L g) (hn : nw1 L g q L1 g1) : q ∉ L0 := fun z => hn.1 (h q z).1
theorem ho.fa {as L L1 : List Nat} {g g1 : hG} {b u : Nat} {e : va_E} (h : ho L g b u e) (hf : fra as L g L1 g1) (hn : b ∉ as) : ho L1 g1 b u e := ⟨(hf b h.1).1, by rw [(hf b h.1).2 hn]; exact h.2⟩
theorem fal_0 {L0 as : List Nat} : ∀ a, a ∈ ([] : List Nat) → a ∈ as ∨ a ∉ L0 := fun _ h => absurd h List.not_mem_nil
theorem fal_s {L0 as l : List Nat} {b : Nat} (h : b ∈ as ∨ b ∉ L0) (h2 : ∀ a, a ∈ l → a ∈ as ∨ a ∉ L0) : ∀ a, a ∈ b :: l → a ∈ as ∨ a ∉ L0 := fun a ha => by
  rcases List.mem_cons.mp ha with e | e
  · rw [e]; exact h
  · exact h2 a e
theorem nw1_of {L : List Nat} {g : hG} {q t : Nat} {e : va_E} (h : q ∉ L) : nw1 L g q (L ++ [q]) (va_up g q (t, e)) ∧ ho (L ++ [q]) (va_up g q (t, e)) q t e ∧ dW L g ++ [(q, e)] = dW (L ++ [q]) (va_up g q (t, e)) := by
  refine ⟨⟨h, rfl, fun b hb => va_up_ne _ _ (fun z => h (z ▸ hb))⟩, ⟨List.mem_append_right _ List.mem_cons_self, va_up_self _ _ _⟩, ?_⟩
  refine (va_pl_push (e := e) h).trans (va_pl_congr (fun b => ?_))
  by_cases hb : b = q
  · rw [hb, va_up_self, va_up_self]
  · rw [va_up_ne _ _ hb, va_up_ne _ _ hb]
theorem dW_fresh {A : Nat → Prop} {L : List Nat} {g : hG} {q : Nat} {e : va_E} (hD : va_D A (dW L g ++ [(q, e)])) : q ∉ L := va_pl_fresh2 (X := []) (L := L) (f := fun a => (g a).2) hD
theorem va_K_arr {D : va_G} {cl : List vw_C} {tys : List (ClassId × FieldType)} {s : State} {i j : Nat} {c1 c2 : ClassId} {ty : FieldType} (hK : va_K D cl tys s) (h1 : tys[i]? = some (c1, ty)) (h2 : tys[j]? = some (c2, ty)) : c1 = c2 := by
  have k1 := (hK.2 i _ h1).2
  have k2 := (hK.2 j _ h2).2
  cases ty with
  | object C =>
    obtain ⟨_, _, _, _, _, k1⟩ := k1
    obtain ⟨_, _, _, _, _, k2⟩ := k2
    exact Option.some.inj (k1.symm.trans k2)
  | _ => exact Option.some.inj (Eq.trans (Eq.symm k1) k2)
section OR
variable {p : Program} {l : Launch} {e : Env} {R : Room} {s : State} {m : MethodId} {args : Array Value} {below : List Frame} {meth : Method} {c : Code} {H : Heap} {locs : List Loc} {cells slots : Nat} {Q : State → Prop}
variable {cc : ByteArray} {pc : Nat} {ls : Array Slot} {rest : List Value} {D : va_G} {A : Nat → Prop} {a : Nat} {cB cI_ cO : ClassId} {L : List Nat} {g : hG} {H0 : Heap}
theorem o_get (hexec : p.tables.exec = Jvm.exec) (hb : c.code = cc) {own ref C : String} {T : u_T} {N ci index t : Nat} {Ts : List Cond} (hts : ∀ w ∈ Ts, w.before args s = true) (hin : ∀ w ∈ u_ws C T N, w ∈ Ts) (hown : s.vm.findClass own = some m.cls) (hK : va_K D vcl (dT cB cI_ cO) s) (hP : va_P D vcl (dW L g) H) {fs : List Value} (he : ho L g a t (.inr (ci, fs))) (hc : vcl[ci]? = some (C, T, N)) (k : Nat) (hk : k < N) (hlink : (Cond.fieldLink own index ref (T k).2.1 (T k).2.2.1).before args s = true) (hsame : ∀ x, s.fieldFound? (T k).1 (T k).2.1 (T k).2.2.1 = some x → s.fieldFound? ref (T k).2.1 (T k).2.2.1 = some x) {v : Value} (hv : fs[k]? = some v) (hdg : decode cc pc = .ok (.getfield index, 3))
    (kk : W p l e R s m args below meth c H locs cells slots Q (F0 m (pc + 3) ls (v :: rest))) : W p l e R s m args below meth c H locs cells slots Q (F0 m pc ls (.ref a :: rest)) := by
  obtain ⟨q0, h0⟩ := he.at
  exact va_get hexec hb hts hin hown hK hP q0 h0 hc k hk hlink hsame hv hdg kk
theorem o_put (hexec : p.tables.exec = Jvm.exec) (hb : c.code = cc) {own ref C : String} {T : u_T} {N ci index t : Nat} {Ts : List Cond} (hts : ∀ w ∈ Ts, w.before args s = true) (hin : ∀ w ∈ u_ws C T N, w ∈ Ts) (ty0 : Nat → FieldType) (hty : ∀ k, k < N → parseFieldDescriptor (T k).2.2.1 = some (ty0 k)) (hnm : ∀ a, a < N → ∀ b, b < N → a ≠ b → (T a).2.1 ≠ (T b).2.1) (hown : s.vm.findClass own = some m.cls) (hK : va_K D vcl (dT cB cI_ cO) s) (hP : va_P D vcl (dW L g) H) (hD : va_D A (dW L g)) (hS0 : va_S A H0 H locs) {fs fs1 : List Value} (he : ho L g a t (.inr (ci, fs))) (hc : vcl[ci]? = some (C, T, N)) (k : Nat) (hk : k < N) (hlink : (Cond.fieldLink own index ref (T k).2.1 (T k).2.2.1).before args s = true) (hsame : ∀ x, s.fieldFound? (T k).1 (T k).2.1 (T k).2.2.1 = some x → s.fieldFound? ref (T k).2.1 (T k).2.2.1 = some x) (hfin : (T k).2.2.2 = false) {ty : FieldType} {v : Value} (hd : parseFieldDescriptor (T k).2.2.1 = some ty) (hn : narrow ty v = v) (hfit : fits ty v = true) (hl : k < fs.length) (hset : fs.set k v = fs1)
    (hdg : decode cc pc = .ok (.putfield index, 3)) (kk : ∀ (g1 : hG) (H1 : Heap) (locs1 : List Loc), ho L g1 a t (.inr (ci, fs1)) → up1 g a t g1 → va_P D vcl (dW L g1) H1 → va_D A (dW L g1) → va_S A H0 H1 locs1 → W p l e R s m args below meth c H1 locs1 cells slots Q (F0 m (pc + 3) ls rest)) : W p l e R s m args below meth c H locs cells slots Q (F0 m pc ls (v :: .ref a :: rest)) := by
  obtain ⟨q0, h0⟩ := he.at
  refine va_put hexec hb hts hin ty0 hty hnm hown hK hP hD hS0 q0 h0 hc k hk hlink hsame hfin hd hn hfit hl hdg (fun H1 locs1 hP1 hD1 hS1 => ?_)
  rw [hset, ho_set hD he h0] at hP1 hD1
  exact kk _ H1 locs1 (ho_up he) (up1_up he) hP1 hD1 hS1
theorem o_putF (hexec : p.tables.exec = Jvm.exec) (hb : c.code = cc) {own ref C : String} {T : u_T} {N ci index t : Nat} {Ts : List Cond} (hts : ∀ w ∈ Ts, w.before args s = true) (hin : ∀ w ∈ u_ws C T N, w ∈ Ts) (ty0 : Nat → FieldType) (hty : ∀ k, k < N → parseFieldDescriptor (T k).2.2.1 = some (ty0 k)) (hnm : ∀ a, a < N → ∀ b, b < N → a ≠ b → (T a).2.1 ≠ (T b).2.1) (hown : s.vm.findClass own = some m.cls) (hK : va_K D vcl (dT cB cI_ cO) s) (hP : va_P D vcl (dW L g) H) (hD : va_D A (dW L g)) (hS0 : va_S A H0 H locs) {fs fs1 : List Value} (he : ho L g a t (.inr (ci, fs))) (hc : vcl[ci]? = some (C, T, N)) (k : Nat) (hk : k < N) (hlink : (Cond.fieldLink own index ref (T k).2.1 (T k).2.2.1).before args s = true) (hsame : ∀ x, s.fieldFound? (T k).1 (T k).2.1 (T k).2.2.1 = some x → s.fieldFound? ref (T k).2.1 (T k).2.2.1 = some x) (hfin : (T k).2.2.2 = true) (hin2 : meth.name = "<init>") (hdecl : (T k).1 = own) {ty : FieldType} {v : Value} (hd : parseFieldDescriptor (T k).2.2.1 = some ty) (hn : narrow ty v = v) (hfit : fits ty v = true) (hl : k < fs.length) (hset : fs.set k v = fs1)
    (hdg : decode cc pc = .ok (.putfield index, 3)) (kk : ∀ (g1 : hG) (H1 : Heap) (locs1 : List Loc), ho L g1 a t (.inr (ci, fs1)) → up1 g a t g1 → va_P D vcl (dW L g1) H1 → va_D A (dW L g1) → va_S A H0 H1 locs1 → W p l e R s m args below meth c H1 locs1 cells slots Q (F0 m (pc + 3) ls rest)) : W p l e R s m args below meth c H locs cells slots Q (F0 m pc ls (v :: .ref a :: rest)) := by
  obtain ⟨q0, h0⟩ := he.at
  refine va_putF hexec hb hts hin ty0 hty hnm hown hK hP hD hS0 q0 h0 hc k hk hlink hsame hfin hin2 hdecl hd hn hfit hl hdg (fun H1 locs1 hP1 hD1 hS1 => ?_)
  rw [hset, ho_set hD he h0] at hP1 hD1
  exact kk _ H1 locs1 (ho_up he) (up1_up he) hP1 hD1 hS1
theorem o_ild (hexec : p.tables.exec = Jvm.exec) (hb : c.code = cc) (hK : va_K D vcl (dT cB cI_ cO) s) (hP : va_P D vcl (dW L g) H) {t n : Nat} {f : Nat → Int32} (he : ho L g a t (.inl (cI_, n, .inl f))) {X : Nat} (hX : X < n) (hn : n < 2 ^ 31) (hdg : decode cc pc = .ok (.iaload, 1))
    (kk : W p l e R s m args below meth c H locs cells slots Q (F0 m (pc + 1) ls (.int (f X) :: rest))) : W p l e R s m args below meth c H locs cells slots Q (F0 m pc ls (.int (nI X) :: .ref a :: rest)) := by
  obtain ⟨q0, h0⟩ := he.at
  exact q_ild hexec hb hK hP q0 1 h0 rfl hX hn hdg kk
theorem o_bld (hexec : p.tables.exec = Jvm.exec) (hb : c.code = cc) (hK : va_K D vcl (dT cB cI_ cO) s) (hP : va_P D vcl (dW L g) H) {t n : Nat} {f : Nat → Int32} (he : ho L g a t (.inl (cB, n, .inl f))) {X : Nat} (hX : X < n) (hn : n < 2 ^ 31) (hdg : decode cc pc = .ok (.baload, 1))
    (kk : W p l e R s m args below meth c H locs cells slots Q (F0 m (pc + 1) ls (.int (f X) :: rest))) : W p l e R s m args below meth c H locs cells slots Q (F0 m pc ls (.int (nI X) :: .ref a :: rest)) := by
  obtain ⟨q0, h0⟩ := he.at
  exact q_bld hexec hb hK hP q0 0 h0 rfl hX hn hdg kk
theorem o_ist (hexec : p.tables.exec = Jvm.exec) (hb : c.code = cc) (hK : va_K D vcl (dT cB cI_ cO) s) (hP : va_P D vcl (dW L g) H) (hD : va_D A (dW L g)) (hS : va_S A H0 H locs) {t n : Nat} {f : Nat → Int32} (he : ho L g a t (.inl (cI_, n, .inl f))) {X : Nat} {x : Int32} (hX : X < n) (hn : n < 2 ^ 31) (hdg : decode cc pc = .ok (.iastore, 1))
    (kk : ∀ (g1 : hG) (H1 : Heap) (locs1 : List Loc), ho L g1 a t (.inl (cI_, n, .inl (upd f X x))) → up1 g a t g1 → va_P D vcl (dW L g1) H1 → va_D A (dW L g1) → va_S A H0 H1 locs1 → W p l e R s m args below meth c H1 locs1 cells slots Q (F0 m (pc + 1) ls rest)) : W p l e R s m args below meth c H locs cells slots Q (F0 m pc ls (.int x :: .int (nI X) :: .ref a :: rest)) := by
  obtain ⟨q0, h0⟩ := he.at
  refine q_ist hexec hb hK hP hD hS q0 1 h0 rfl hX hn hdg (fun H1 locs1 hP1 hD1 hS1 => ?_)
  rw [ho_set hD he h0] at hP1 hD1
  exact kk _ H1 locs1 (ho_up he) (up1_up he) hP1 hD1 hS1
theorem o_bst (hexec : p.tables.exec = Jvm.exec) (hb : c.code = cc) (hK : va_K D vcl (dT cB cI_ cO) s) (hP : va_P D vcl (dW L g) H) (hD : va_D A (dW L g)) (hS : va_S A H0 H locs) {t n : Nat} {f : Nat → Int32} (he : ho L g a t (.inl (cB, n, .inl f))) {X : Nat} {x : Int32} (hX : X < n) (hn : n < 2 ^ 31) (hdg : decode cc pc = .ok (.bastore, 1))
    (kk : ∀ (g1 : hG) (H1 : Heap) (locs1 : List Loc), ho L g1 a t (.inl (cB, n, .inl (upd f X (vp_nar .byte x)))) → up1 g a t g1 → va_P D vcl (dW L g1) H1 → va_D A (dW L g1) → va_S A H0 H1 locs1 → W p l e R s m args below meth c H1 locs1 cells slots Q (F0 m (pc + 1) ls rest)) : W p l e R s m args below meth c H locs cells slots Q (F0 m pc ls (.int x :: .int (nI X) :: .ref a :: rest)) := by
  obtain ⟨q0, h0⟩ := he.at
  refine q_bst hexec hb hK hP hD hS q0 0 h0 rfl hX hn hdg (fun H1 locs1 hP1 hD1 hS1 => ?_)
  rw [ho_set hD he h0] at hP1 hD1
  exact kk _ H1 locs1 (ho_up he) (up1_up he) hP1 hD1 hS1
theorem o_leni (hexec : p.tables.exec = Jvm.exec) (hb : c.code = cc) (hK : va_K D vcl (dT cB cI_ cO) s) (hP : va_P D vcl (dW L g) H) {t n : Nat} {f : Nat → Int32} (he : ho L g a t (.inl (cI_, n, .inl f))) (hdg : decode cc pc = .ok (.arraylength, 1))
    (kk : W p l e R s m args below meth c H locs cells slots Q (F0 m (pc + 1) ls (.int (nI n) :: rest))) : W p l e R s m args below meth c H locs cells slots Q (F0 m pc ls (.ref a :: rest)) := by
  obtain ⟨q0, h0⟩ := he.at
  exact va_alen hexec hb hK hP q0 1 h0 rfl rfl hdg kk
theorem o_lenb (hexec : p.tables.exec = Jvm.exec) (hb : c.code = cc) (hK : va_K D vcl (dT cB cI_ cO) s) (hP : va_P D vcl (dW L g) H) {t n : Nat} {f : Nat → Int32} (he : ho L g a t (.inl (cB, n, .inl f))) (hdg : decode cc pc = .ok (.arraylength, 1))
    (kk : W p l e R s m args below meth c H locs cells slots Q (F0 m (pc + 1) ls (.int (nI n) :: rest))) : W p l e R s m args below meth c H locs cells slots Q (F0 m pc ls (.ref a :: rest)) := by
  obtain ⟨q0, h0⟩ := he.at
  exact va_alen hexec hb hK hP q0 0 h0 rfl rfl hdg kk
theorem o_lenq (hexec : p.tables.exec = Jvm.exec) (hb : c.code = cc) (hK : va_K D vcl (dT cB cI_ cO) s) (hP : va_P D vcl (dW L g) H) {t n : Nat} {f : Nat → Option Nat} (he : ho L g a t (.inl (cO, n, .inr (.inr (.inr (.inr f)))))) (hdg : decode cc pc = .ok (.arraylength, 1))
    (kk : W p l e R s m args below meth c H locs cells slots Q (F0 m (pc + 1) ls (.int (nI n) :: rest))) : W p l e R s m args below meth c H locs cells slots Q (F0 m pc ls (.ref a :: rest)) := by
  obtain ⟨q0, h0⟩ := he.at
  exact va_alen hexec hb hK hP q0 2 h0 rfl rfl hdg kk
theorem o_ald (hexec : p.tables.exec = Jvm.exec) (hb : c.code = cc) (hK : va_K D vcl (dT cB cI_ cO) s) (hP : va_P D vcl (dW L g) H) {t n x : Nat} {f : Nat → Option Nat} (he : ho L g a t (.inl (cO, n, .inr (.inr (.inr (.inr f)))))) {X : Nat} (hX : X < n) (hn : n < 2 ^ 31) (hx : f X = some x) (hdg : decode cc pc = .ok (.aaload, 1))
    (kk : W p l e R s m args below meth c H locs cells slots Q (F0 m (pc + 1) ls (.ref x :: rest))) : W p l e R s m args below meth c H locs cells slots Q (F0 m pc ls (.int (nI X) :: .ref a :: rest)) := by
  obtain ⟨q0, h0⟩ := he.at
  refine va_aldq hexec hb hK hP q0 2 h0 rfl (vp_in_nI hX hn) hdg ?_
  rw [nI_clamp (by omega), hx]
  exact kk
theorem o_ast (hexec : p.tables.exec = Jvm.exec) (hb : c.code = cc) (hK : va_K D vcl (dT cB cI_ cO) s) (hP : va_P D vcl (dW L g) H) (hD : va_D A (dW L g)) (hS : va_S A H0 H locs) {t n x tx ci : Nat} {r : vw_C} {vs : List Value} {f : Nat → Option Nat} (he : ho L g a t (.inl (cO, n, .inr (.inr (.inr (.inr f)))))) (hx : ho L g x tx (.inr (ci, vs))) (hc : vcl[ci]? = some r) (hca : va_Nw (.castable r.1 "java/lang/Object") s) {X : Nat} (hX : X < n) (hn : n < 2 ^ 31) (hdg : decode cc pc = .ok (.aastore, 1))
    (kk : ∀ (g1 : hG) (H1 : Heap) (locs1 : List Loc), ho L g1 a t (.inl (cO, n, .inr (.inr (.inr (.inr (va_up f X (some x))))))) → up1 g a t g1 → va_P D vcl (dW L g1) H1 → va_D A (dW L g1) → va_S A H0 H1 locs1 → W p l e R s m args below meth c H1 locs1 cells slots Q (F0 m (pc + 1) ls rest)) : W p l e R s m args below meth c H locs cells slots Q (F0 m pc ls (.ref x :: .int (nI X) :: .ref a :: rest)) := by
  obtain ⟨q0, h0⟩ := he.at
  obtain ⟨q1, h1⟩ := hx.at
  refine va_astqO hexec hb hK hP hD hS q0 2 q1 ci h0 rfl hca h1 hc (vp_in_nI hX hn) hdg (fun H1 locs1 hP1 hD1 hS1 => ?_)
  rw [nI_clamp (by omega), ho_set hD he h0] at hP1 hD1
  exact kk _ H1 locs1 (ho_up he) (up1_up he) hP1 hD1 hS1
theorem o_astN (hexec : p.tables.exec = Jvm.exec) (hb : c.code = cc) (hK : va_K D vcl (dT cB cI_ cO) s) (hP : va_P D vcl (dW L g) H) (hD : va_D A (dW L g)) (hS : va_S A H0 H locs) {t n : Nat} {f : Nat → Option Nat} (he : ho L g a t (.inl (cO, n, .inr (.inr (.inr (.inr f)))))) {X : Nat} (hX : X < n) (hn : n < 2 ^ 31) (hdg : decode cc pc = .ok (.aastore, 1))
    (kk : ∀ (g1 : hG) (H1 : Heap) (locs1 : List Loc), ho L g1 a t (.inl (cO, n, .inr (.inr (.inr (.inr (va_up f X none)))))) → up1 g a t g1 → va_P D vcl (dW L g1) H1 → va_D A (dW L g1) → va_S A H0 H1 locs1 → W p l e R s m args below meth c H1 locs1 cells slots Q (F0 m (pc + 1) ls rest)) : W p l e R s m args below meth c H locs cells slots Q (F0 m pc ls (.null :: .int (nI X) :: .ref a :: rest)) := by
  obtain ⟨q0, h0⟩ := he.at
  refine va_astqN hexec hb hK hP hD hS q0 2 h0 rfl (vp_in_nI hX hn) hdg (fun H1 locs1 hP1 hD1 hS1 => ?_)
  rw [nI_clamp (by omega), ho_set hD he h0] at hP1 hD1
  exact kk _ H1 locs1 (ho_up he) (up1_up he) hP1 hD1 hS1
theorem o_new {c0 : Code} (hexec : p.tables.exec = Jvm.exec) (hb : c0.code = cc) {own C : String} {T : u_T} {N ci index : Nat} {Ts : List Cond} (t : Nat) (hts : ∀ w ∈ Ts, w.before args s = true) (hin : ∀ w ∈ u_ws C T N, w ∈ Ts) (ty : Nat → FieldType) (hty : ∀ k, k < N → parseFieldDescriptor (T k).2.2.1 = some (ty k)) (hown : s.vm.findClass own = some m.cls) (hcl : (Cond.classLink own index C).before args s = true) (hinst : (Cond.instantiable C N).before args s = true) (hini : (Cond.initialized C).before args s = true)
    (hK : va_K D vcl (dT cB cI_ cO) s) (hP : va_P D vcl (dW L g) H) (hD : va_D A (dW L g)) (hS : va_S A H0 H locs) (hA : ∀ q, H0.size ≤ q → A q) (hc : vcl[ci]? = some (C, T, N)) {fs : List Value} (hfs : ∀ j, j < N → defaultValue (ty j) = vp_V fs j) (hcells : cells + 1 ≤ R.cells) (hslots : slots + N ≤ R.slots) (hdg : decode cc pc = .ok (.new index, 3))
    (kk : ∀ (q : Nat) (L1 : List Nat) (g1 : hG) (H1 : Heap), ho L1 g1 q t (.inr (ci, fs)) → nw1 L g q L1 g1 → va_P D vcl (dW L1 g1) H1 → va_D A (dW L1 g1) → va_S A H0 H1 locs →
      W p l e R s m args below meth c0 H1 locs (cells + 1) (slots + N) Q (F0 m (pc + 3) ls (.ref q :: rest))) : W p l e R s m args below meth c0 H locs cells slots Q (F0 m pc ls rest) := by
  refine va_new hexec hb hts hin ty hty hown hcl hinst hini hK hP hD hS hA hc hfs hcells hslots hdg (fun q H1 hP1 hD1 hS1 => ?_)
  obtain ⟨n1, n2, n3⟩ := nw1_of (g := g) (t := t) (e := .inr (ci, fs)) (dW_fresh hD1)
  rw [n3] at hP1 hD1
  exact kk q _ _ H1 n2 n1 hP1 hD1 hS1
theorem o_newi (hexec : p.tables.exec = Jvm.exec) (hb : c.code = cc) (t : Nat) (harr : (Cond.arrayClass .int).before args s = true) (hK : va_K D vcl (dT cB cI_ cO) s) (hP : va_P D vcl (dW L g) H) (hD : va_D A (dW L g)) (hS : va_S A H0 H locs) (hA : ∀ q, H0.size ≤ q → A q)
    {n : Nat} (hn : n ≤ 1000000) (hcells : cells + 1 ≤ R.cells) (hslots : slots + n ≤ R.slots) (hdg : decode cc pc = .ok (.newarray .int, 2))
    (kk : ∀ (q : Nat) (L1 : List Nat) (g1 : hG) (H1 : Heap), ho L1 g1 q t (.inl (cI_, n, .inl (fun _ => 0))) → nw1 L g q L1 g1 → va_P D vcl (dW L1 g1) H1 → va_D A (dW L1 g1) → va_S A H0 H1 locs →
      W p l e R s m args below meth c H1 locs (cells + 1) (slots + n) Q (F0 m (pc + 2) ls (.ref q :: rest))) : W p l e R s m args below meth c H locs cells slots Q (F0 m pc ls (.int (nI n) :: rest)) := by
  refine va_newa (atype := .int) (ty := .int) (a0 := (n, .inl (fun _ => 0))) hexec hb harr rfl hK hP hD hS hA (N' := n) (q_a0_int n) (nI_pos (by omega)) (nI_clamp (by omega)) (by show n * 4 ≤ _; omega) hcells hslots hdg (fun q cA H1 hK1 hP1 hD1 hS1 => ?_)
  obtain rfl : cA = cI_ := va_K_arr (i := 3) (j := 1) hK1 rfl rfl
  obtain ⟨n1, n2, n3⟩ := nw1_of (g := g) (t := t) (e := .inl (cA, n, .inl (fun _ => 0))) (dW_fresh hD1)
  rw [n3] at hP1 hD1
  exact kk q _ _ H1 n2 n1 hP1 hD1 hS1
theorem o_newb (hexec : p.tables.exec = Jvm.exec) (hb : c.code = cc) (t : Nat) (harr : (Cond.arrayClass .byte).before args s = true) (hK : va_K D vcl (dT cB cI_ cO) s) (hP : va_P D vcl (dW L g) H) (hD : va_D A (dW L g)) (hS : va_S A H0 H locs) (hA : ∀ q, H0.size ≤ q → A q)
    {n : Nat} (hn : n ≤ 1000000) (hcells : cells + 1 ≤ R.cells) (hslots : slots + n ≤ R.slots) (hdg : decode cc pc = .ok (.newarray .byte, 2))
    (kk : ∀ (q : Nat) (L1 : List Nat) (g1 : hG) (H1 : Heap), ho L1 g1 q t (.inl (cB, n, .inl (fun _ => 0))) → nw1 L g q L1 g1 → va_P D vcl (dW L1 g1) H1 → va_D A (dW L1 g1) → va_S A H0 H1 locs →
      W p l e R s m args below meth c H1 locs (cells + 1) (slots + n) Q (F0 m (pc + 2) ls (.ref q :: rest))) : W p l e R s m args below meth c H locs cells slots Q (F0 m pc ls (.int (nI n) :: rest)) := by
  refine va_newa (atype := .byte) (ty := .byte) (a0 := (n, .inl (fun _ => 0))) hexec hb harr rfl hK hP hD hS hA (N' := n) (q_a0_byte n) (nI_pos (by omega)) (nI_clamp (by omega)) (by show n * 1 ≤ _; omega) hcells hslots hdg (fun q cA H1 hK1 hP1 hD1 hS1 => ?_)
  obtain rfl : cA = cB := va_K_arr (i := 3) (j := 0) hK1 rfl rfl
  obtain ⟨n1, n2, n3⟩ := nw1_of (g := g) (t := t) (e := .inl (cA, n, .inl (fun _ => 0))) (dW_fresh hD1)
  rw [n3] at hP1 hD1
  exact kk q _ _ H1 n2 n1 hP1 hD1 hS1
theorem o_newq (hexec : p.tables.exec = Jvm.exec) (hb : c.code = cc) {own : String} {index : Nat} (t : Nat) (hown : s.vm.findClass own = some m.cls) (hclink : (Cond.classLink own index "java/lang/Object").before args s = true) (hover : va_AO "java/lang/Object" s) (hK : va_K D vcl (dT cB cI_ cO) s) (hP : va_P D vcl (dW L g) H) (hD : va_D A (dW L g)) (hS : va_S A H0 H locs) (hA : ∀ q, H0.size ≤ q → A q)
    {n : Nat} (hn : n ≤ 1000000) (hcells : cells + 1 ≤ R.cells) (hslots : slots + n ≤ R.slots) (hdg : decode cc pc = .ok (.anewarray index, 3))
    (kk : ∀ (q : Nat) (L1 : List Nat) (g1 : hG) (H1 : Heap), ho L1 g1 q t (.inl (cO, n, .inr (.inr (.inr (.inr (fun _ => none)))))) → nw1 L g q L1 g1 → va_P D vcl (dW L1 g1) H1 → va_D A (dW L1 g1) → va_S A H0 H1 locs →
      W p l e R s m args below meth c H1 locs (cells + 1) (slots + n) Q (F0 m (pc + 3) ls (.ref q :: rest))) : W p l e R s m args below meth c H locs cells slots Q (F0 m pc ls (.int (nI n) :: rest)) := by
  refine va_newq hexec hb hown hclink hover hK hP hD hS hA (N' := n) (nI_pos (by omega)) (nI_clamp (by omega)) (by omega) hcells hslots hdg (fun q cA H1 hK1 hP1 hD1 hS1 => ?_)
  obtain rfl : cA = cO := va_K_arr (i := 3) (j := 2) hK1 rfl rfl
  obtain ⟨n1, n2, n3⟩ := nw1_of (g := g) (t := t) (e := .inl (cA, n, .inr (.inr (.inr (.inr (fun _ => none)))))) (dW_fresh hD1)
  rw [n3] at hP1 hD1
  exact kk q _ _ H1 n2 n1 hP1 hD1 hS1
theorem o_setr {x y : Nat} (h : x = y) (k : W p l e R s m args below meth c H locs cells slots Q (F0 m pc ls (.ref y :: rest))) : W p l e R s m args below meth c H locs cells slots Q (F0 m pc ls (.ref x :: rest)) := by
  rw [h]; exact k
/-- a cast to the class that the object has -/
theorem o_cast (hexec : p.tables.exec = Jvm.exec) (hb : c.code = cc) {own C : String} {index t ci : Nat} {r : vw_C} {fs : List Value} (hown : s.vm.findClass own = some m.cls) (hlink : (Cond.classLink own index C).before args s = true) (hK : va_K D vcl (dT cB cI_ cO) s) (hP : va_P D vcl (dW L g) H) (he : ho L g a t (.inr (ci, fs))) (hc : vcl[ci]? = some r) (hC : r.1 = C) (hdg : decode cc pc = .ok (.checkcast index, 3))
    (k : W p l e R s m args below meth c H locs cells slots Q (F0 m (pc + 3) ls (.ref a :: rest))) : W p l e R s m args below meth c H locs cells slots Q (F0 m pc ls (.ref a :: rest)) := by
  obtain ⟨q0, h0⟩ := he.at
  have hr := va_recv hK hP hc h0
  rw [hC] at hr
  have hkn := hK.1 ci r hc
  rw [hC] at hkn
  exact va_castS hexec hb hown hlink hkn.2 hr hdg k
end OR
