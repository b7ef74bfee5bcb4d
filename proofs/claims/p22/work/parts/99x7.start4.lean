theorem q_D9 {s : State} {cl : List vw_C} (h : ∀ q ∈ cl, ∃ (c : ClassId) (i : Nat → Nat), u_Kn s q.1 q.2.1 q.2.2 c i) : ∃ D : va_G, ∀ (k : Nat) (q : vw_C), cl[k]? = some q → u_Kn s q.1 q.2.1 q.2.2 (D.1 k) (D.2 k) := by
  have h2 : ∀ k : Nat, ∃ (c : ClassId) (i : Nat → Nat), ∀ q : vw_C, cl[k]? = some q → u_Kn s q.1 q.2.1 q.2.2 c i := by
    intro k
    cases hk : cl[k]? with
    | none => exact ⟨(0 : Nat), fun _ => 0, fun q hq => by cases hq⟩
    | some q =>
      obtain ⟨c, i, hci⟩ := h q (List.mem_of_getElem? hk)
      exact ⟨c, i, fun q' e => by cases e; exact hci⟩
  exact ⟨(fun k => Classical.choose (h2 k), fun k => Classical.choose (Classical.choose_spec (h2 k))), fun k q hq => Classical.choose_spec (Classical.choose_spec (h2 k)) q hq⟩
theorem k_107 : (Cond.classLink R_law 7 RX9) ∈ gT := gT_i 107 (by decide +kernel) rfl
theorem k_108 : (Cond.instantiable RX9 12) ∈ gT := gT_i 108 (by decide +kernel) rfl
theorem k_109 : (Cond.methodLink R_law 9 yX9_init) ∈ gT := gT_i 109 (by decide +kernel) rfl
theorem k_110 : (Cond.instanceMethod yX9_init) ∈ gT := gT_i 110 (by decide +kernel) rfl
theorem k_111 : (Cond.code yX9_init cX9_init 2 none) ∈ gT := gT_i 111 (by decide +kernel) rfl
theorem k_1137 : (Cond.classLink R_law 10 RX10) ∈ gT := gT_i 1137 (by decide +kernel) rfl
theorem k_1138 : (Cond.instantiable RX10 48) ∈ gT := gT_i 1138 (by decide +kernel) rfl
theorem k_1139 : (Cond.methodLink R_law 12 yX10_init) ∈ gT := gT_i 1139 (by decide +kernel) rfl
theorem k_1140 : (Cond.instanceMethod yX10_init) ∈ gT := gT_i 1140 (by decide +kernel) rfl
theorem k_1141 : (Cond.code yX10_init cX10_init 1 none) ∈ gT := gT_i 1141 (by decide +kernel) rfl
theorem dL_law_0 : decode cL_law 0 = .ok (.new 7, 3) := by decide +kernel
theorem dL_law_3 : decode cL_law 3 = .ok (.dup, 1) := by decide +kernel
theorem dL_law_4 : decode cL_law 4 = .ok (.invokespecial 9, 3) := by decide +kernel
theorem dL_law_7 : decode cL_law 7 = .ok (.astore_n 1, 1) := by decide +kernel
theorem dL_law_8 : decode cL_law 8 = .ok (.new 10, 3) := by decide +kernel
theorem dL_law_11 : decode cL_law 11 = .ok (.dup, 1) := by decide +kernel
theorem dL_law_12 : decode cL_law 12 = .ok (.invokespecial 12, 3) := by decide +kernel
theorem dL_law_15 : decode cL_law 15 = .ok (.astore_n 2, 1) := by decide +kernel
theorem dL_law_16 : decode cL_law 16 = .ok (.iconst 0, 1) := by decide +kernel
theorem dL_law_17 : decode cL_law 17 = .ok (.istore_n 3, 1) := by decide +kernel
theorem w_split {D : va_G} {A : Nat → Prop} {w1 : va_W} {x : Nat × va_E} {H : Heap} (hP : va_P D vcl (w1 ++ [x]) H) (hD : va_D A (w1 ++ [x])) : va_P D vcl w1 H ∧ va_P D vcl [x] H ∧ va_D A w1 ∧ va_D A [x] ∧ sep w1 [x] := by
  have l1 : ∀ (k : Nat) (y : Nat × va_E), w1[k]? = some y → (w1 ++ [x])[k]? = some y := fun k y h => by rw [List.getElem?_append_left (List.getElem?_eq_some_iff.mp h).1]; exact h
  have l2 : ∀ (k : Nat) (y : Nat × va_E), [x][k]? = some y → (w1 ++ [x])[w1.length + k]? = some y := fun k y h => by rw [List.getElem?_append_right (by omega), show w1.length + k - w1.length = k by omega]; exact h
  refine ⟨fun k y h => hP k y (l1 k y h), fun k y h => hP _ y (l2 k y h), ⟨fun i j y w h1 h2 e => hD.1 i j y w (l1 i y h1) (l1 j w h2) e, fun k y h => hD.2 k y (l1 k y h)⟩, ⟨fun i j y w h1 h2 e => ?_, fun k y h => hD.2 _ y (l2 k y h)⟩, fun k j y w h1 h2 e => ?_⟩
  · have := hD.1 _ _ y w (l2 i y h1) (l2 j w h2) e; omega
  · have h3 := hD.1 _ _ y w (l1 k y h1) (l2 j w h2) e
    have h4 := (List.getElem?_eq_some_iff.mp h1).1
    omega
set_option maxHeartbeats 4000000 in
set_option maxRecDepth 100000 in
theorem whole_start {p : Program} {e : Env} {s : State} {m : MethodId} {below : List Frame} {meth : Method} {c : Code} (l : Launch) {b L : Nat} {xs : Nat → Int32} (hL : L ≤ 2048) (C0 : lw_At p s m meth c b L xs) : W p l e room_1 s m #[Value.ref b] below meth c s.heap [] 0 0 (lw_Z below #[Value.ref b] s) (entryFrame m ([Value.ref b] : List Value).toArray 4) := by
  obtain ⟨hx, hb, hr, hml, hown, hts0, hX, hbl, hlocks, hgv⟩ := id C0
  have hts : ∀ w ∈ gT, w.before #[Value.ref b] s = true := fun w h => hts0 w (gT_lw w h)
  have hf : CallFix p m c cL_law 4 s #[Value.ref b] gT R_law := ⟨hx, hb, hml, hown, hts⟩
  obtain ⟨D, hKc⟩ := q_D9 (s := s) (cl := vcl) (List.forall_mem_cons.mpr ⟨u_known (C := RJx4a65c) (T := TJx4a65c) (N := 3) hts inJx4a65c (hts _ k_155), List.forall_mem_cons.mpr ⟨u_known (C := RX0) (T := TX0) (N := 11) hts inX0 (hts _ k_343), List.forall_mem_cons.mpr ⟨u_known (C := RX1) (T := TX1) (N := 9) hts inX1 (hts _ k_181), List.forall_mem_cons.mpr ⟨u_known (C := RX2) (T := TX2) (N := 10) hts inX2 (hts _ k_383), List.forall_mem_cons.mpr ⟨u_known (C := RX3) (T := TX3) (N := 7) hts inX3 (hts _ k_315), List.forall_mem_cons.mpr ⟨u_known (C := RX4) (T := TX4) (N := 6) hts inX4 (hts _ k_130), List.forall_mem_cons.mpr ⟨u_known (C := RX5) (T := TX5) (N := 4) hts inX5 (hts _ k_271), List.forall_mem_cons.mpr ⟨u_known (C := RX6) (T := TX6) (N := 3) hts inX6 (hts _ k_263), List.forall_mem_cons.mpr ⟨u_known (C := RX7) (T := TX7) (N := 1) hts inX7 (hts _ k_420), List.forall_mem_cons.mpr ⟨u_known (C := RX8) (T := TX8) (N := 2) hts inX8 (hts _ k_116), List.forall_mem_cons.mpr ⟨u_known (C := RX9) (T := TX9) (N := 12) hts inX9 (hts _ k_108), List.forall_mem_cons.mpr ⟨u_known (C := RX10) (T := TX10) (N := 48) hts inX10 (hts _ k_1138), fun _ h => absurd h List.not_mem_nil⟩⟩⟩⟩⟩⟩⟩⟩⟩⟩⟩⟩)
  obtain ⟨A, hAe⟩ : ∃ A : Nat → Prop, A = fun q => s.heap.size ≤ q := ⟨_, rfl⟩
  have hA : ∀ q : Nat, s.heap.size ≤ q → A q := fun q h => by rw [hAe]; exact h
  have hAq : ∀ q : Nat, A q → s.heap.size ≤ q := fun q h => by rw [hAe] at h; exact h
  have hbA : ¬ A b := fun h => absurd (hAq b h) (Nat.not_le.mpr hbl)
  obtain ⟨z, hZ, hN⟩ := z_start C0 (A := A) (fun a h9 z9 => absurd (hAq a z9) (Nat.not_le.mpr h9))
  have hK : va_K D vcl [] s := ⟨hKc, fun k q h => by simp at h⟩
  obtain ⟨cB, cI_, cO, cZ, hK1, hK2⟩ := id_dT hK (hts _ k_128) (hts _ k_261) (hts0 _ (List.mem_of_getElem? (i := 655) (by decide +kernel))) (hts _ k_1289)
  have hP : va_P D vcl (dW [] (fun _ => (0, .inr (0, [])))) s.heap := fun k q h => by have h : ([] : va_W)[k]? = some q := h; simp at h
  have hD : va_D A (dW [] (fun _ => (0, .inr (0, [])))) := ⟨fun i j p q h => by have h : ([] : va_W)[i]? = some p := h; simp at h, fun k q h => by have h : ([] : va_W)[k]? = some q := h; simp at h⟩
  have hS : va_S A s.heap s.heap [] := va_S.rf
  have hl := lv_entry ([.ref b]) (n := 4) (Nat.le_of_ble_eq_true rfl)
  rw [lg_entry_eq]
  generalize (lg_sl ([.ref b]) ++ List.replicate (4 - (lg_sl ([.ref b])).length) Slot.unset).toArray = ls at hl ⊢
  have hl : lv_has ls 4 [(0, .ref b)] := hl
  refine o_new (ci := 10) (fs := [.null, .null, .null, .null, .null, .null, .null, .null, .null, .int 0, .int 0, .int 0]) (C := RX9) (T := TX9) (N := 12) (cells := 0) (slots := 0) hx hb 1 hts inX9 tyX9 tyX9_ok hown (hts _ k_107) (hts _ k_108) (hts _ k_84) hK1 hP hD hS hA rfl dfX9 (by decide) (by decide) dL_law_0 (fun dk L g H h_dk _ hP hD hS => ?_)
  refine lv_dup hx hb dL_law_3 rfl ?_
  refine o_cv (k := 24) (n := 1680) hK1 hP hD hS hA (o_rI (As := []) (rest := [.ref dk]) hf (d_init _ D z cB cI_ cO L g dk h_dk _) k_111 k_109 k_110 k_84 rfl (nA := 0) (by decide +kernel) ⟨by decide, by decide⟩ hK1 hP hD hS hA hZ hN rfl hl.1 rfl (Nat.le_of_ble_eq_true rfl) dL_law_4 ⟨by decide, by decide⟩) (by decide) (by decide) (fun L g H locs hini hP hD hS => ?_)
  have hcS := cS_0 (cO := cO) hini
  refine lv_astore_n (lv' := [(1, .ref dk), (0, .ref b)]) hx hb dL_law_7 rfl hl (by decide) rfl (fun ls hl => ?_)
  refine va_new (ci := 11) (fs := [.null, .int 0, .int 0, .int 0, .null, .null, .null, .null, .null, .null, .null, .null, .null, .null, .int 0, .null, .null, .null, .null, .int 0, .int 0, .int 0, .null, .null, .null, .int 0, .int 0, .int 0, .int 0, .int 0, .null, .null, .null, .null, .null, .null, .null, .null, .null, .null, .null, .null, .null, .null, .int 0, .null, .int 0, .null]) (C := RX10) (T := TX10) (N := 48) hx hb hts inX10 tyX10 tyX10_ok hown (hts _ k_1137) (hts _ k_1138) (hts _ k_98) hK1 hP hD hS hA rfl dfX10 (by decide) (by decide) dL_law_8 (fun h0 H hP hD hS => ?_)
  obtain ⟨hP1, hP2, hD1, hD2, hsep⟩ := w_split hP hD
  refine lv_dup hx hb dL_law_11 rfl ?_
  refine q2_cv (k := 59) (n := 222914) hP2 hD2 hP1 hsep.sy hS hA (q_rI (As := []) (rest := [.ref h0]) hf (r_init _ D h0 cB cI_ cZ _) k_1141 k_1139 k_1140 k_98 rfl (nA := 0) (by decide +kernel) ⟨by decide, by decide⟩ hP2 hK2 hD2 (fun _ _ _ _ h => h) (fun _ _ _ => trivial) rfl hl.1 rfl (Nat.le_of_ble_eq_true rfl) dL_law_12 ⟨by decide, by decide⟩) (by decide) (by decide) (fun u H locs hw _ hP2 hD2 hP1 hsep hS => ?_)
  obtain ⟨q, rfl⟩ := hw
  refine lv_astore_n (lv' := [(2, .ref h0), (1, .ref dk), (0, .ref b)]) hx hb dL_law_15 rfl hl (by decide) rfl (fun ls hl => ?_)
  refine lv_iconst (v := 0) hx hb dL_law_16 (by decide) ?_
  refine lv_istore_n (lv' := [(3, .int 0), (2, .ref h0), (1, .ref dk), (0, .ref b)]) hx hb dL_law_17 rfl hl (by decide) rfl (fun ls hl => ?_)
  exact law_loop hf hr hlocks hX hbl hbA hA hAq hK1 hK2 hZ hN hL 512 0 28 _ _ H locs ls (by omega) (by omega) (by decide) (by decide) (by decide) hS ⟨L, g, rI0, (fun _ _ => 0), (fun _ => 0), 0, [], (fun _ => 0), [], 20, 0, 0, hP1, hD1, hP2, hD2, hsep.sy, hcS, rS_0, dI_0, (fun e he => absurd he (Nat.not_lt_zero e))⟩ (lv_sub hl (l' := [(3, .int 0), (2, .ref h0), (1, .ref dk), (0, .ref b)]) [0, 1, 2, 3] rfl)
-- ===== YOUR PART ENDS =====
set_option maxHeartbeats 4000000 in
theorem lw_walk (l : Launch) (b : Addr) (xs : List Int32) : MetFree l x (headSpec (Jvm.Cond.code x code maxLocals ret :: tables_1) room_1) (lw_P b xs) (fun _ _ _ _ _ => True) lw_Q := by
  refine MetFree.of_bodyS (code := code) (maxLocals := maxLocals) (ret := ret) (by decide) ?_ ?_
  · intro args s m h hn
    obtain ⟨meth, c, h1, h2, h3, h4, h5, h6, -, -⟩ := Cond.code_spec hn (atoms_spec (ws := Jvm.Cond.code x code maxLocals ret :: tables_1) h _ List.mem_cons_self)
    exact ⟨meth, c, h1, h2, h3, h4, h5, h6⟩
  · intro p e s m args below meth c s₁ B hml0 hP _
    obtain ⟨rfl, hx, hbd, hgv⟩ := hP
    obtain ⟨scr, harrAt, hlist, hof, hsmall⟩ := hx
    obtain ⟨hcb, hkn, -, -⟩ := State.arrayAt?_spec harrAt
    have hown : s.vm.findClass R_law = some m.cls := findClass_of_methodNamed B.named
    have hts0 : ∀ c ∈ (Jvm.Cond.code x code maxLocals ret :: tables_1), c.before #[Value.ref b] s = true := atoms_spec (ws := Jvm.Cond.code x code maxLocals ret :: tables_1) B.pre
    have hts : ∀ w ∈ lw_tbl, w.before #[Value.ref b] s = true := k2_hts_sels lw_privs (fun w hw => hts0 w (List.mem_cons_of_mem _ hw)) lw_privs_ok
    have hml : c.maxLocals = 4 := B.maxLocals_eq (hts0 _ List.mem_cons_self)
    have X₀ : Stand p l e room_1 s m #[Value.ref b] below meth c s₁ [] 0 0 := Stand.of_body B
    have hh0 : s₁.heap = s.heap := by rw [B.state]; rfl
    have hsz : scr.slots.size = xs.length := by rw [← Array.length_toList, hlist, List.length_map]
    have hval : ∀ j : Nat, j < xs.length → scr.slots[j]? = some (.int (xs.getD j 0)) := fun j hj => by
      rw [← Array.getElem?_toList, hlist]
      simp [hj]
    have hbl : b < s.heap.size := (Array.getElem?_eq_some_iff.mp hcb).1
    have hX : va_X b xs.length (fun j => xs.getD j 0) s s.heap := ⟨scr, hcb, hof, hkn, hsz, hval⟩
    have K : W p l e room_1 s m #[Value.ref b] below meth c s₁.heap [] 0 0 (lw_Z below #[Value.ref b] s) (entryFrame m ([Value.ref b] : List Value).toArray 4) := by
      rw [hh0]
      exact whole_start l hbd ⟨B.exec, B.bytes, B.returns, hml, hown, hts, hX, hbl, B.notSynchronized, hgv⟩
    obtain ⟨t, a1, o, b1, b2, b3⟩ := K s₁ rfl X₀
    exact ⟨t, o, a1, b1, b2, b3⟩
theorem lw_pre_spec {args : Array Value} {s : State} (h : (Jvm.Cond.and given_1 narrow_1).before args s = true) (hr : rest_1_c.before args s = true) : ∃ (b : Addr) (xs : List Int32), lw_P b xs args s := by
  have hs := flat_of_before _ h
  have hq := flat_of_before _ hr
  have hc : (Cond.count 1).before args s = true := hs _ (by decide +kernel)
  have harr : (Cond.arrayOf (.arg 0) .int).before args s = true := hs _ (by decide +kernel)
  have hle : (Cond.le (.length (.arg 0)) (.int 2048)).before args s = true := hs _ (by decide +kernel)
  have hlen : (Cond.isInt (.length (.arg 0))).before args s = true := hq _ (by decide +kernel)
  have hall : (Cond.all (.arg 0) (.isInt (.elem (.arg 0) (.index 0)))).before args s = true := hq _ (by decide +kernel)
  obtain ⟨b, xs, hb, hx⟩ := State.ints_of_pre rfl harr hlen hall
  have hsm : xs.length < 2 ^ 31 := hx.choose_spec.2.2.2
  have hev : (Term.length (.arg 0)).eval args s none [] s = some (.int xs.length.toInt32) := hx.length_eval hb
  have hv := Cond.le_ints hev (show (Term.int 2048).eval args s none [] s = some (.int 2048) from rfl)
  have hd : xs.length.toInt32 ≤ 2048 := by
    simpa [Cond.before, Cond.holds, hv] using hle
  have hN : xs.length ≤ 2048 := (Int32.ofNat_le_ofNat hsm (by decide)).mp (show Int32.ofNat xs.length ≤ Int32.ofNat 2048 from hd)
  exact ⟨b, xs, Cond.one_arg hc (show args[0]? = some (.ref b) from hb), hx, hN, h⟩
theorem lw_comes (l : Launch) : Comes l x (Jvm.Cond.code x code maxLocals ret :: tables_1) room_1 (fun tb e args s => Calls_1 tb e args s ∧ rest_1 tb e args s ∧ Pre_1 tb e args s)
    (fun _ _ args s o t => lw_Q args s o t) := by
  intro p e ha hc hk s m args below hf hfit hheap happ hpre
  obtain ⟨b, xs, hP⟩ := lw_pre_spec hpre.2.2 hpre.2.1
  obtain ⟨k, o, h1, h2, h3, hQ⟩ := lw_walk l b xs p e ha hc hk s m args below hf ((Spec.applies_iff_loose hf).mp happ).1 hP trivial
  exact ⟨k, o, h1, h2, h3, hQ⟩
theorem lw_frame {s t : State} {o : Outcome} {args : Array Value} (h : Framed s o t [] 600000 7302250) :
    Framed s o t (fieldLocs frame_1_writes args s ++ arrayLocs frame_1_arrays args s ++ staticLocs frame_1_statics s) 600000 7302250 := h
theorem lw_limb (L : Cond) (hL : ∀ (args : Array Value) (s t : State), L.after args s (.returned (some (.int 1))) t = true) :
    ArmFor flags0 classFile x code maxLocals ret World_1 tables_1 room_1 Calls_1 rest_1 Pre_1
      (fun tb e a s o t => postC L tb e a s o t ∧ Framed s o t (fieldLocs frame_1_writes a s ++ arrayLocs frame_1_arrays a s ++ staticLocs frame_1_statics s) 600000 7302250) := by
  intro l _ _ _ p e ha hc hk s m args below hf hfit hheap happ hpre
  obtain ⟨k, o, h1, h2, h3, rfl, hF⟩ := lw_comes l p e ha hc hk s m args below hf hfit hheap happ hpre
  exact ⟨k, _, h1, h2, h3, hL args s _, lw_frame hF⟩
theorem i_vc : Claimed_1_1 ∧ Claimed_1_2 := ⟨lw_limb limb_1_1 (fun args s t => by simp [limb_1_1, Cond.after, Cond.holds, Cond.value]), lw_limb limb_1_2 (fun args s t => Cond.after_iff.mpr (by
  first | (rw [show limb_1_2 = Cond.eq .result (.int 1) from rfl, Cond.eq_ints (x := 1) (y := 1) rfl rfl]; simp; done) | (simp [limb_1_2, Cond.value, Term.eval]; done)))⟩
