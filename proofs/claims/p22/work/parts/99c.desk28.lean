section OCN
variable {p : Program} {l : Launch} {e : Env} {R : Room} {s : State} {m : MethodId} {args : Array Value} {below : List Frame} {meth : Method} {c : Code} {H : Heap} {locs : List Loc} {cells slots : Nat} {Q : State → Prop}
variable {cc : ByteArray} {pc nL : Nat} {ls : Array Slot} {rest st0 : List Value} {D : va_G} {A : Nat → Prop} {cB cI_ cO : ClassId} {L : List Nat} {g : hG} {own : String} {z : Nat → Nat}
theorem o_rIN {y : MethodName} {bytes : ByteArray} {maxL index nA mc ms fr lo : Nat} {host : String} {Qc : Array Value → State → Outcome → State → Prop} {free : Addr → Prop} {b : Addr} {As : List Value}
    (F : CallFix p m c cc nL s args gT own) (hM : Met l y (cW y bytes maxL none) ({ frames := fr, cells := mc, slots := ms, locals := lo }) (va_Pc (.ref b :: As) (wI D (zD z (dW L g)) H.size (dW L g) (dT cB cI_ cO))) Qc mc ms free)
    (kc : Cond.code y bytes maxL none ∈ gT) (kl : va_Nw (.methodLinkNest own index y host) s) (ki : Cond.instanceMethod y ∈ gT) (kn : Cond.initialized y.cls ∈ gT) (hy1 : y.name = "<init>")
    (hd : y.cls ≠ "java/lang/invoke/MethodHandle" ∧ y.cls ≠ "java/lang/invoke/VarHandle" ∧ (parseMethodDescriptor y.desc).map (fun d => d.parameters.length) = some nA) (hR : fr + 1 ≤ R.frames ∧ 8 + (maxL + 11) + lo ≤ R.locals)
    (hK : va_K D vcl (dT cB cI_ cO) s) (hP : va_P D vcl (dW L g) H) (hD : va_D A (dW L g)) (hS : va_S A s.heap H locs) (hA : ∀ q : Nat, s.heap.size ≤ q → A q) (hZ : zA z A s s.heap) (hN : zB z s)
    (hn : As.length = nA) (hsz : ls.size = nL) (hst : st0 = As.reverse ++ .ref b :: rest) (hW : (rest.map fun v => v.category).sum ≤ 8) (hdg : decode cc pc = .ok (.invokespecial index, 3)) (hf : cells + mc ≤ R.cells ∧ slots + ms ≤ R.slots) :
    va_Run p l e R s m args below meth c H locs cells slots mc ms (F0 m pc ls st0) rest (Qc (Value.ref b :: As).toArray) free :=
  q_rIN F hM kc kl ki kn hy1 hd hR hP hK hD zD_blind (zD_pass hZ hN hS (q_all hD hS hA)) hn hsz hst hW hdg hf
end OCN
theorem tx_sc_nil (T : Nat → Int32) : tx_sc T (0 - 0) 0 0 0 [] = (0, []) := by
  rw [show 0 - 0 = 0 from rfl]
  first | rfl | (unfold tx_sc; rfl)
theorem alR_0 {cO : ClassId} {z0 tA tD : Nat} {L : List Nat} {g : hG} {al : Nat} (h : ho L g al tA (.inr (0, [.int 0, .ref z0, .int 0]))) : alR cO z0 tA tD L g al 0 [] := ⟨0, z0, fun _ => none, h, ⟨Nat.le_refl _, by omega⟩, fun i hi => absurd hi (Nat.not_lt_zero i), Or.inl ⟨rfl, rfl⟩⟩
abbrev cX9_init : ByteArray := prog_1_method_1_code
def yX9_init : MethodName := ⟨RX9, "<init>", "()V"⟩
theorem k_112 : (Cond.methodLink RX9 1 objectInit) ∈ gT := gT_i 112 (by decide +kernel) rfl
theorem k_115 : (Cond.classLink RX9 7 RX8) ∈ gT := gT_i 115 (by decide +kernel) rfl
theorem k_116 : (Cond.instantiable RX8 2) ∈ gT := gT_i 116 (by decide +kernel) rfl
theorem k_118 : (Cond.instanceMethod yX8_init) ∈ gT := gT_i 118 (by decide +kernel) rfl
theorem k_119 : (Cond.code yX8_init cX8_init 1 none) ∈ gT := gT_i 119 (by decide +kernel) rfl
theorem k_129 : (Cond.classLink RX9 16 RX4) ∈ gT := gT_i 129 (by decide +kernel) rfl
theorem k_130 : (Cond.instantiable RX4 6) ∈ gT := gT_i 130 (by decide +kernel) rfl
theorem k_131 : (Cond.methodLink RX9 18 yX4_init) ∈ gT := gT_i 131 (by decide +kernel) rfl
theorem k_132 : (Cond.instanceMethod yX4_init) ∈ gT := gT_i 132 (by decide +kernel) rfl
theorem k_133 : (Cond.code yX4_init cX4_init 2 none) ∈ gT := gT_i 133 (by decide +kernel) rfl
theorem k_154 : (Cond.classLink RX9 25 RJx4a65c) ∈ gT := gT_i 154 (by decide +kernel) rfl
theorem k_156 : (Cond.methodLink RX9 27 yJx4a65c_init_da8c8) ∈ gT := gT_i 156 (by decide +kernel) rfl
theorem k_262 : (Cond.classLink RX9 44 RX6) ∈ gT := gT_i 262 (by decide +kernel) rfl
theorem k_263 : (Cond.instantiable RX6 3) ∈ gT := gT_i 263 (by decide +kernel) rfl
theorem k_264 : (Cond.methodLink RX9 46 yX6_init) ∈ gT := gT_i 264 (by decide +kernel) rfl
theorem k_265 : (Cond.instanceMethod yX6_init) ∈ gT := gT_i 265 (by decide +kernel) rfl
theorem k_266 : (Cond.code yX6_init cX6_init 2 none) ∈ gT := gT_i 266 (by decide +kernel) rfl
theorem k_314 : (Cond.classLink RX9 53 RX3) ∈ gT := gT_i 314 (by decide +kernel) rfl
theorem k_315 : (Cond.instantiable RX3 7) ∈ gT := gT_i 315 (by decide +kernel) rfl
theorem k_316 : (Cond.methodLink RX9 55 yX3_init) ∈ gT := gT_i 316 (by decide +kernel) rfl
theorem k_317 : (Cond.instanceMethod yX3_init) ∈ gT := gT_i 317 (by decide +kernel) rfl
theorem k_318 : (Cond.code yX3_init cX3_init 2 none) ∈ gT := gT_i 318 (by decide +kernel) rfl
theorem k_342 : (Cond.classLink RX9 58 RX0) ∈ gT := gT_i 342 (by decide +kernel) rfl
theorem k_343 : (Cond.instantiable RX0 11) ∈ gT := gT_i 343 (by decide +kernel) rfl
theorem k_344 : (Cond.methodLink RX9 60 yX0_init) ∈ gT := gT_i 344 (by decide +kernel) rfl
theorem k_345 : (Cond.instanceMethod yX0_init) ∈ gT := gT_i 345 (by decide +kernel) rfl
theorem k_346 : (Cond.code yX0_init cX0_init 3 none) ∈ gT := gT_i 346 (by decide +kernel) rfl
theorem k_382 : (Cond.classLink RX9 67 RX2) ∈ gT := gT_i 382 (by decide +kernel) rfl
theorem k_383 : (Cond.instantiable RX2 10) ∈ gT := gT_i 383 (by decide +kernel) rfl
theorem k_384 : (Cond.methodLink RX9 69 yX2_init) ∈ gT := gT_i 384 (by decide +kernel) rfl
theorem k_385 : (Cond.instanceMethod yX2_init) ∈ gT := gT_i 385 (by decide +kernel) rfl
theorem k_386 : (Cond.code yX2_init cX2_init 3 none) ∈ gT := gT_i 386 (by decide +kernel) rfl
theorem k_419 : (Cond.classLink RX9 74 RX7) ∈ gT := gT_i 419 (by decide +kernel) rfl
theorem k_420 : (Cond.instantiable RX7 1) ∈ gT := gT_i 420 (by decide +kernel) rfl
theorem k_421 : (Cond.methodLink RX9 76 yX7_init) ∈ gT := gT_i 421 (by decide +kernel) rfl
theorem k_422 : (Cond.instanceMethod yX7_init) ∈ gT := gT_i 422 (by decide +kernel) rfl
theorem k_423 : (Cond.code yX7_init cX7_init 2 none) ∈ gT := gT_i 423 (by decide +kernel) rfl
theorem k_433 : (Cond.fieldLink RX9 40 "ScriptDesk" "nobody" "LScriptDesk$Element;") ∈ gT := gT_i 433 (by decide +kernel) rfl
theorem dX9_init_0 : decode cX9_init 0 = .ok (.aload_n 0, 1) := by decide +kernel
theorem dX9_init_1 : decode cX9_init 1 = .ok (.invokespecial 1, 3) := by decide +kernel
theorem dX9_init_4 : decode cX9_init 4 = .ok (.aload_n 0, 1) := by decide +kernel
theorem dX9_init_5 : decode cX9_init 5 = .ok (.new 7, 3) := by decide +kernel
theorem dX9_init_8 : decode cX9_init 8 = .ok (.dup, 1) := by decide +kernel
theorem dX9_init_9 : decode cX9_init 9 = .ok (.invokespecial 9, 3) := by decide +kernel
theorem dX9_init_12 : decode cX9_init 12 = .ok (.putfield 10, 3) := by decide +kernel
theorem dX9_init_15 : decode cX9_init 15 = .ok (.aload_n 0, 1) := by decide +kernel
theorem dX9_init_16 : decode cX9_init 16 = .ok (.new 16, 3) := by decide +kernel
theorem dX9_init_19 : decode cX9_init 19 = .ok (.dup, 1) := by decide +kernel
theorem dX9_init_20 : decode cX9_init 20 = .ok (.aload_n 0, 1) := by decide +kernel
theorem dX9_init_21 : decode cX9_init 21 = .ok (.getfield 10, 3) := by decide +kernel
theorem dX9_init_24 : decode cX9_init 24 = .ok (.invokespecial 18, 3) := by decide +kernel
theorem dX9_init_27 : decode cX9_init 27 = .ok (.putfield 21, 3) := by decide +kernel
theorem dX9_init_30 : decode cX9_init 30 = .ok (.aload_n 0, 1) := by decide +kernel
theorem dX9_init_31 : decode cX9_init 31 = .ok (.new 25, 3) := by decide +kernel
theorem dX9_init_34 : decode cX9_init 34 = .ok (.dup, 1) := by decide +kernel
theorem dX9_init_35 : decode cX9_init 35 = .ok (.invokespecial 27, 3) := by decide +kernel
theorem dX9_init_38 : decode cX9_init 38 = .ok (.putfield 28, 3) := by decide +kernel
theorem dX9_init_41 : decode cX9_init 41 = .ok (.aload_n 0, 1) := by decide +kernel
theorem dX9_init_42 : decode cX9_init 42 = .ok (.new 25, 3) := by decide +kernel
theorem dX9_init_45 : decode cX9_init 45 = .ok (.dup, 1) := by decide +kernel
theorem dX9_init_46 : decode cX9_init 46 = .ok (.invokespecial 27, 3) := by decide +kernel
theorem dX9_init_49 : decode cX9_init 49 = .ok (.putfield 32, 3) := by decide +kernel
theorem dX9_init_52 : decode cX9_init 52 = .ok (.aload_n 0, 1) := by decide +kernel
theorem dX9_init_53 : decode cX9_init 53 = .ok (.new 35, 3) := by decide +kernel
theorem dX9_init_56 : decode cX9_init 56 = .ok (.dup, 1) := by decide +kernel
theorem dX9_init_57 : decode cX9_init 57 = .ok (.iconst (-1), 1) := by decide +kernel
theorem dX9_init_58 : decode cX9_init 58 = .ok (.iconst 5, 1) := by decide +kernel
theorem dX9_init_59 : decode cX9_init 59 = .ok (.aload_n 0, 1) := by decide +kernel
theorem dX9_init_60 : decode cX9_init 60 = .ok (.getfield 10, 3) := by decide +kernel
theorem dX9_init_63 : decode cX9_init 63 = .ok (.iconst 0, 1) := by decide +kernel
theorem dX9_init_64 : decode cX9_init 64 = .ok (.iconst 0, 1) := by decide +kernel
theorem dX9_init_65 : decode cX9_init 65 = .ok (.invokespecial 37, 3) := by decide +kernel
theorem dX9_init_68 : decode cX9_init 68 = .ok (.putfield 40, 3) := by decide +kernel
theorem dX9_init_71 : decode cX9_init 71 = .ok (.aload_n 0, 1) := by decide +kernel
theorem dX9_init_72 : decode cX9_init 72 = .ok (.new 44, 3) := by decide +kernel
theorem dX9_init_75 : decode cX9_init 75 = .ok (.dup, 1) := by decide +kernel
theorem dX9_init_76 : decode cX9_init 76 = .ok (.aload_n 0, 1) := by decide +kernel
theorem dX9_init_77 : decode cX9_init 77 = .ok (.getfield 40, 3) := by decide +kernel
theorem dX9_init_80 : decode cX9_init 80 = .ok (.invokespecial 46, 3) := by decide +kernel
theorem dX9_init_83 : decode cX9_init 83 = .ok (.putfield 49, 3) := by decide +kernel
theorem dX9_init_86 : decode cX9_init 86 = .ok (.new 53, 3) := by decide +kernel
theorem dX9_init_89 : decode cX9_init 89 = .ok (.dup, 1) := by decide +kernel
theorem dX9_init_90 : decode cX9_init 90 = .ok (.aload_n 0, 1) := by decide +kernel
theorem dX9_init_91 : decode cX9_init 91 = .ok (.getfield 49, 3) := by decide +kernel
theorem dX9_init_94 : decode cX9_init 94 = .ok (.invokespecial 55, 3) := by decide +kernel
theorem dX9_init_97 : decode cX9_init 97 = .ok (.astore_n 1, 1) := by decide +kernel
theorem dX9_init_98 : decode cX9_init 98 = .ok (.aload_n 0, 1) := by decide +kernel
theorem dX9_init_99 : decode cX9_init 99 = .ok (.new 58, 3) := by decide +kernel
theorem dX9_init_102 : decode cX9_init 102 = .ok (.dup, 1) := by decide +kernel
theorem dX9_init_103 : decode cX9_init 103 = .ok (.aload_n 0, 1) := by decide +kernel
theorem dX9_init_104 : decode cX9_init 104 = .ok (.getfield 49, 3) := by decide +kernel
theorem dX9_init_107 : decode cX9_init 107 = .ok (.aload_n 1, 1) := by decide +kernel
theorem dX9_init_108 : decode cX9_init 108 = .ok (.invokespecial 60, 3) := by decide +kernel
theorem dX9_init_111 : decode cX9_init 111 = .ok (.putfield 63, 3) := by decide +kernel
theorem dX9_init_114 : decode cX9_init 114 = .ok (.aload_n 0, 1) := by decide +kernel
theorem dX9_init_115 : decode cX9_init 115 = .ok (.new 67, 3) := by decide +kernel
theorem dX9_init_118 : decode cX9_init 118 = .ok (.dup, 1) := by decide +kernel
theorem dX9_init_119 : decode cX9_init 119 = .ok (.aload_n 0, 1) := by decide +kernel
theorem dX9_init_120 : decode cX9_init 120 = .ok (.getfield 49, 3) := by decide +kernel
theorem dX9_init_123 : decode cX9_init 123 = .ok (.aload_n 1, 1) := by decide +kernel
theorem dX9_init_124 : decode cX9_init 124 = .ok (.invokespecial 69, 3) := by decide +kernel
theorem dX9_init_127 : decode cX9_init 127 = .ok (.putfield 70, 3) := by decide +kernel
theorem dX9_init_130 : decode cX9_init 130 = .ok (.aload_n 0, 1) := by decide +kernel
theorem dX9_init_131 : decode cX9_init 131 = .ok (.new 74, 3) := by decide +kernel
theorem dX9_init_134 : decode cX9_init 134 = .ok (.dup, 1) := by decide +kernel
theorem dX9_init_135 : decode cX9_init 135 = .ok (.aload_n 0, 1) := by decide +kernel
theorem dX9_init_136 : decode cX9_init 136 = .ok (.getfield 49, 3) := by decide +kernel
theorem dX9_init_139 : decode cX9_init 139 = .ok (.invokespecial 76, 3) := by decide +kernel
theorem dX9_init_142 : decode cX9_init 142 = .ok (.putfield 77, 3) := by decide +kernel
theorem dX9_init_145 : decode cX9_init 145 = .ok (.aload_n 0, 1) := by decide +kernel
theorem dX9_init_146 : decode cX9_init 146 = .ok (.bipush 20, 2) := by decide +kernel
theorem dX9_init_148 : decode cX9_init 148 = .ok (.putfield 81, 3) := by decide +kernel
theorem dX9_init_151 : decode cX9_init 151 = .ok (.return_, 1) := by decide +kernel
set_option maxHeartbeats 2000000 in
set_option maxRecDepth 100000 in
theorem d_init (l : Launch) (D : va_G) (z : Nat → Nat) (cB cI_ cO : ClassId) (L0 : List Nat) (g0 : hG) (dk : Nat) (h_dk : ho L0 g0 dk 1 (.inr (10, [.null, .null, .null, .null, .null, .null, .null, .null, .null, .int 0, .int 0, .int 0])))  : eV l D yX9_init cX9_init 2 none 5 110 23 1668 [.ref dk] z cB cI_ cO L0 g0 (fun L g => ∃ (tp by_ rd els reo nob nt nf nr pr pcs spr nwh lf bk bop cf nx gl ra fa la sl : Nat), ho L g dk 1 (.inr (10, [.ref tp, .ref rd, .ref els, .ref reo, .ref nob, .ref pr, .ref bk, .ref gl, .ref sl, .int 20, .int 0, .int 0])) ∧ ho L g tp 2 (.inr (9, [.ref by_, .int 0])) ∧ ho L g by_ 3 (.inl (cB, 1200, .inl (fun _ => 0))) ∧ ho L g rd 4 (.inr (5, [.ref tp, .int 0, .int 0, .int 0, .int 0, .int 0])) ∧ ho L g els 5 (.inr (0, [.int 0, .ref (z 0), .int 0])) ∧ ho L g reo 7 (.inr (0, [.int 0, .ref (z 0), .int 0])) ∧ ho L g nob 30 (.inr (2, [.int 5, .int (-1), .int 0, .ref nt, .int 0, .int 0, .ref nf, .ref nr, .int 0])) ∧ ho L g pr 13 (.inr (7, [.ref pcs, .ref spr, .ref nwh])) ∧ ho L g pcs 14 (.inr (0, [.int 0, .ref (z 0), .int 0])) ∧ ho L g spr 16 (.inr (0, [.int 0, .ref (z 0), .int 0])) ∧ ho L g nwh 19 (.inr (6, [.ref nob, .int 0, .int 0, .int 0])) ∧ ho L g lf 20 (.inr (4, [.ref pr, .int 0, .int 0, .int 0, .int 0, .int 0, .int 0])) ∧ ho L g bk 21 (.inr (1, [.ref pr, .ref lf, .ref bop, .int 0, .int 0, .ref cf, .ref nx, .int 0, .int 0, .int 0, .int 0])) ∧ ho L g bop 22 (.inl (cI_, 61, .inl (fun _ => 0))) ∧ ho L g cf 23 (.inl (cI_, 128, .inl (fun _ => 0))) ∧ ho L g nx 24 (.inl (cI_, 128, .inl (fun _ => 0))) ∧ ho L g gl 25 (.inr (3, [.ref pr, .ref lf, .ref ra, .ref fa, .ref la, .int 0, .int 0, .int 0, .int 0, .int 0])) ∧ ho L g ra 26 (.inl (cI_, 28, .inl (fun _ => 0))) ∧ ho L g fa 27 (.inl (cI_, 28, .inl (fun _ => 0))) ∧ ho L g la 28 (.inl (cI_, 28, .inl (fun _ => 0))) ∧ ho L g sl 29 (.inr (8, [.ref pr]))) := by
  refine o_sv (by decide) (Nat.le_of_ble_eq_true rfl) ?_
  intro p e s m below meth c A ls hf hr hlocks hin hK hP hD hS hA hZ hN hl
  obtain ⟨hx, hb, hml, hown, hts⟩ := id hf
  have hl : lv_has ls 2 [(0, .ref dk)] := hl
  refine lv_aload_n hx hb dX9_init_0 rfl (lv_at hl 0 rfl) ?_
  refine W.objInit hx hb hown (hts _ k_112) (hts _ k_113) (hts _ k_114) rfl (by rw [hml]; exact hl.1) rfl dX9_init_1 (Nat.le_of_ble_eq_true rfl) (Nat.le_of_ble_eq_true rfl) ?_
  refine q_eq (pc := 4) (st := []) rfl ?_
  refine lv_aload_n hx hb dX9_init_4 rfl (lv_at hl 0 rfl) ?_
  refine o_new (ci := 9) (fs := [.null, .int 0]) (C := RX8) (T := TX8) (N := 2) hx hb 2 hts inX8 tyX8 tyX8_ok hown (hts _ k_115) (hts _ k_116) (hts _ k_85) hK hP hD hS hA rfl dfX8 (show 0 + 1 ≤ 23 by omega) (show 0 + 2 ≤ 1668 by omega) dX9_init_5 (fun q_tp L g H h_tp hnw hP hD hS => ?_)
  have h_dk := h_dk.nw hnw
  refine lv_dup hx hb dX9_init_8 rfl ?_
  refine o_cv (k := 0 + 1 + 1) (n := 0 + 2 + 1200) hK hP hD hS hA (o_rIN (As := []) (rest := [.ref q_tp, .ref dk]) hf (i_tp _ _ _ _ _ _ _ _ q_tp h_tp _) k_119 hN.2.2.2.2.2.2.2 k_118 k_85 rfl (nA := 0) (by decide +kernel) ⟨Nat.le_of_ble_eq_true rfl, Nat.le_of_ble_eq_true rfl⟩ hK hP hD hS hA hZ hN rfl hl.1 rfl (Nat.le_of_ble_eq_true rfl) dX9_init_9 ⟨(show 0 + 1 + 1 ≤ 23 by omega), (show 0 + 2 + 1200 ≤ 1668 by omega)⟩) (by omega) (by omega) (fun L g H locs hw hP hD hS => ?_)
  obtain ⟨by_, hf9, h_tp, h_by⟩ := hw
  have h_dk := h_dk.fr hf9 (by decide)
  refine o_putF (D := D) (ci := 10) (v := .ref q_tp) (ty := .object "ScriptDesk$Tape") (C := RX9) (T := TX9) (N := 12) (fs1 := [.ref q_tp, .null, .null, .null, .null, .null, .null, .null, .null, .int 0, .int 0, .int 0]) hx hb hts inX9 tyX9 tyX9_ok nmX9 hown hK hP hD hS h_dk rfl 0 (by decide) (hts _ k_429) (fun _ h9 => h9) rfl hin rfl (by decide +kernel) rfl rfl (Nat.le_of_ble_eq_true rfl) rfl dX9_init_12 (fun g H locs h_dk hu hP hD hS => ?_)
  have h_tp := h_tp.up hu (by decide)
  have h_by := h_by.up hu (by decide)
  refine lv_aload_n hx hb dX9_init_15 rfl (lv_at hl 0 rfl) ?_
  refine o_new (ci := 5) (fs := [.null, .int 0, .int 0, .int 0, .int 0, .int 0]) (C := RX4) (T := TX4) (N := 6) hx hb 4 hts inX4 tyX4 tyX4_ok hown (hts _ k_129) (hts _ k_130) (hts _ k_86) hK hP hD hS hA rfl dfX4 (show 0 + 1 + 1 + 1 ≤ 23 by omega) (show 0 + 2 + 1200 + 6 ≤ 1668 by omega) dX9_init_16 (fun q_rd L g H h_rd hnw hP hD hS => ?_)
  have h_dk := h_dk.nw hnw
  have h_tp := h_tp.nw hnw
  have h_by := h_by.nw hnw
  refine lv_dup hx hb dX9_init_19 rfl ?_
  refine lv_aload_n hx hb dX9_init_20 rfl (lv_at hl 0 rfl) ?_
  refine o_get (D := D) (ci := 10) (v := .ref q_tp) (C := RX9) (T := TX9) (N := 12) hx hb hts inX9 hown hK hP h_dk rfl 0 (by decide) (hts _ k_429) (fun _ h9 => h9) rfl dX9_init_21 ?_
  refine o_cv (k := 0 + 1 + 1 + 1) (n := 0 + 2 + 1200 + 6) hK hP hD hS hA (o_rI (As := [.ref q_tp]) (rest := [.ref q_rd, .ref dk]) hf (i_rd _ _ _ _ _ _ _ _ q_rd q_tp h_rd _) k_133 k_131 k_132 k_86 rfl (nA := 1) (by decide +kernel) ⟨Nat.le_of_ble_eq_true rfl, Nat.le_of_ble_eq_true rfl⟩ hK hP hD hS hA hZ hN rfl hl.1 rfl (Nat.le_of_ble_eq_true rfl) dX9_init_24 ⟨(show 0 + 1 + 1 + 1 + 0 ≤ 23 by omega), (show 0 + 2 + 1200 + 6 + 0 ≤ 1668 by omega)⟩) (by omega) (by omega) (fun L g H locs hw hP hD hS => ?_)
  obtain ⟨hf9, h_rd⟩ := hw
  have h_dk := h_dk.fr hf9 (by decide)
  have h_tp := h_tp.fr hf9 (by decide)
  have h_by := h_by.fr hf9 (by decide)
  refine o_putF (D := D) (ci := 10) (v := .ref q_rd) (ty := .object "ScriptDesk$LineReader") (C := RX9) (T := TX9) (N := 12) (fs1 := [.ref q_tp, .ref q_rd, .null, .null, .null, .null, .null, .null, .null, .int 0, .int 0, .int 0]) hx hb hts inX9 tyX9 tyX9_ok nmX9 hown hK hP hD hS h_dk rfl 1 (by decide) (hts _ k_430) (fun _ h9 => h9) rfl hin rfl (by decide +kernel) rfl rfl (Nat.le_of_ble_eq_true rfl) rfl dX9_init_27 (fun g H locs h_dk hu hP hD hS => ?_)
  have h_tp := h_tp.up hu (by decide)
  have h_by := h_by.up hu (by decide)
  have h_rd := h_rd.up hu (by decide)
  refine lv_aload_n hx hb dX9_init_30 rfl (lv_at hl 0 rfl) ?_
  refine o_new (ci := 0) (fs := [.int 0, .null, .int 0]) (C := RJx4a65c) (T := TJx4a65c) (N := 3) hx hb 5 hts inJx4a65c tyJx4a65c tyJx4a65c_ok hown (hts _ k_154) (hts _ k_155) (hts _ k_89) hK hP hD hS hA rfl dfJx4a65c (show 0 + 1 + 1 + 1 + 1 ≤ 23 by omega) (show 0 + 2 + 1200 + 6 + 3 ≤ 1668 by omega) dX9_init_31 (fun q_els L g H h_els hnw hP hD hS => ?_)
  have h_dk := h_dk.nw hnw
  have h_tp := h_tp.nw hnw
  have h_by := h_by.nw hnw
  have h_rd := h_rd.nw hnw
  refine lv_dup hx hb dX9_init_34 rfl ?_
  refine o_cv (k := 0 + 1 + 1 + 1 + 1) (n := 0 + 2 + 1200 + 6 + 3) hK hP hD hS hA (o_rI (As := []) (rest := [.ref q_els, .ref dk]) hf (i_al _ _ _ _ _ _ _ _ q_els 5 h_els _) k_158 k_156 k_157 k_89 rfl (nA := 0) (by decide +kernel) ⟨Nat.le_of_ble_eq_true rfl, Nat.le_of_ble_eq_true rfl⟩ hK hP hD hS hA hZ hN rfl hl.1 rfl (Nat.le_of_ble_eq_true rfl) dX9_init_35 ⟨(show 0 + 1 + 1 + 1 + 1 + 0 ≤ 23 by omega), (show 0 + 2 + 1200 + 6 + 3 + 0 ≤ 1668 by omega)⟩) (by omega) (by omega) (fun L g H locs hw hP hD hS => ?_)
  obtain ⟨hf9, h_els⟩ := hw
  have h_dk := h_dk.fr hf9 (by decide)
  have h_tp := h_tp.fr hf9 (by decide)
  have h_by := h_by.fr hf9 (by decide)
  have h_rd := h_rd.fr hf9 (by decide)
  refine o_putF (D := D) (ci := 10) (v := .ref q_els) (ty := .object "java/util/ArrayList") (C := RX9) (T := TX9) (N := 12) (fs1 := [.ref q_tp, .ref q_rd, .ref q_els, .null, .null, .null, .null, .null, .null, .int 0, .int 0, .int 0]) hx hb hts inX9 tyX9 tyX9_ok nmX9 hown hK hP hD hS h_dk rfl 2 (by decide) (hts _ k_431) (fun _ h9 => h9) rfl hin rfl (by decide +kernel) rfl rfl (Nat.le_of_ble_eq_true rfl) rfl dX9_init_38 (fun g H locs h_dk hu hP hD hS => ?_)
  have h_tp := h_tp.up hu (by decide)
  have h_by := h_by.up hu (by decide)
  have h_rd := h_rd.up hu (by decide)
  have h_els := h_els.up hu (by decide)
  refine lv_aload_n hx hb dX9_init_41 rfl (lv_at hl 0 rfl) ?_
  refine o_new (ci := 0) (fs := [.int 0, .null, .int 0]) (C := RJx4a65c) (T := TJx4a65c) (N := 3) hx hb 7 hts inJx4a65c tyJx4a65c tyJx4a65c_ok hown (hts _ k_154) (hts _ k_155) (hts _ k_89) hK hP hD hS hA rfl dfJx4a65c (show 0 + 1 + 1 + 1 + 1 + 1 ≤ 23 by omega) (show 0 + 2 + 1200 + 6 + 3 + 3 ≤ 1668 by omega) dX9_init_42 (fun q_reo L g H h_reo hnw hP hD hS => ?_)
  have h_dk := h_dk.nw hnw
  have h_tp := h_tp.nw hnw
  have h_by := h_by.nw hnw
  have h_rd := h_rd.nw hnw
  have h_els := h_els.nw hnw
  refine lv_dup hx hb dX9_init_45 rfl ?_
  refine o_cv (k := 0 + 1 + 1 + 1 + 1 + 1) (n := 0 + 2 + 1200 + 6 + 3 + 3) hK hP hD hS hA (o_rI (As := []) (rest := [.ref q_reo, .ref dk]) hf (i_al _ _ _ _ _ _ _ _ q_reo 7 h_reo _) k_158 k_156 k_157 k_89 rfl (nA := 0) (by decide +kernel) ⟨Nat.le_of_ble_eq_true rfl, Nat.le_of_ble_eq_true rfl⟩ hK hP hD hS hA hZ hN rfl hl.1 rfl (Nat.le_of_ble_eq_true rfl) dX9_init_46 ⟨(show 0 + 1 + 1 + 1 + 1 + 1 + 0 ≤ 23 by omega), (show 0 + 2 + 1200 + 6 + 3 + 3 + 0 ≤ 1668 by omega)⟩) (by omega) (by omega) (fun L g H locs hw hP hD hS => ?_)
  obtain ⟨hf9, h_reo⟩ := hw
  have h_dk := h_dk.fr hf9 (by decide)
  have h_tp := h_tp.fr hf9 (by decide)
  have h_by := h_by.fr hf9 (by decide)
  have h_rd := h_rd.fr hf9 (by decide)
  have h_els := h_els.fr hf9 (by decide)
  refine o_putF (D := D) (ci := 10) (v := .ref q_reo) (ty := .object "java/util/ArrayList") (C := RX9) (T := TX9) (N := 12) (fs1 := [.ref q_tp, .ref q_rd, .ref q_els, .ref q_reo, .null, .null, .null, .null, .null, .int 0, .int 0, .int 0]) hx hb hts inX9 tyX9 tyX9_ok nmX9 hown hK hP hD hS h_dk rfl 3 (by decide) (hts _ k_432) (fun _ h9 => h9) rfl hin rfl (by decide +kernel) rfl rfl (Nat.le_of_ble_eq_true rfl) rfl dX9_init_49 (fun g H locs h_dk hu hP hD hS => ?_)
  have h_tp := h_tp.up hu (by decide)
  have h_by := h_by.up hu (by decide)
  have h_rd := h_rd.up hu (by decide)
  have h_els := h_els.up hu (by decide)
  have h_reo := h_reo.up hu (by decide)
  refine lv_aload_n hx hb dX9_init_52 rfl (lv_at hl 0 rfl) ?_
  refine o_new (ci := 2) (fs := [.int 0, .int 0, .int 0, .null, .int 0, .int 0, .null, .null, .int 0]) (C := RX1) (T := TX1) (N := 9) hx hb 9 hts inX1 tyX1 tyX1_ok hown (hts _ k_180) (hts _ k_181) (hts _ k_90) hK hP hD hS hA rfl dfX1 (show 0 + 1 + 1 + 1 + 1 + 1 + 1 ≤ 23 by omega) (show 0 + 2 + 1200 + 6 + 3 + 3 + 9 ≤ 1668 by omega) dX9_init_53 (fun q_el L g H h_el hnw hP hD hS => ?_)
  have h_dk := h_dk.nw hnw
  have h_tp := h_tp.nw hnw
  have h_by := h_by.nw hnw
  have h_rd := h_rd.nw hnw
  have h_els := h_els.nw hnw
  have h_reo := h_reo.nw hnw
  refine lv_dup hx hb dX9_init_56 rfl ?_
  refine lv_iconst (v := (-1)) hx hb dX9_init_57 (by decide) ?_
  refine lv_iconst (v := 5) hx hb dX9_init_58 (by decide) ?_
  refine lv_aload_n hx hb dX9_init_59 rfl (lv_at hl 0 rfl) ?_
  refine o_get (D := D) (ci := 10) (v := .ref q_tp) (C := RX9) (T := TX9) (N := 12) hx hb hts inX9 hown hK hP h_dk rfl 0 (by decide) (hts _ k_429) (fun _ h9 => h9) rfl dX9_init_60 ?_
  refine lv_iconst (v := 0) hx hb dX9_init_63 (by decide) ?_
  refine lv_iconst (v := 0) hx hb dX9_init_64 (by decide) ?_
  refine o_cv (k := 0 + 1 + 1 + 1 + 1 + 1 + 1 + 3) (n := 0 + 2 + 1200 + 6 + 3 + 3 + 9 + 2) hK hP hD hS hA (o_rI (As := [.int (-1), .int 5, .ref q_tp, .int 0, .int 0]) (rest := [.ref q_el, .ref dk]) hf (l_init _ _ _ _ _ _ _ _ q_el q_tp by_ 0 0 0 5 (-1) (fun _ => 0) h_el h_tp h_by (by omega) (by omega) (by omega) (fun _ => by decide) (Or.inr (Or.inr (Or.inr (Or.inr (Or.inr rfl))))) _) k_184 k_182 k_183 k_90 rfl (nA := 5) (by decide +kernel) ⟨Nat.le_of_ble_eq_true rfl, Nat.le_of_ble_eq_true rfl⟩ hK hP hD hS hA hZ hN rfl hl.1 rfl (Nat.le_of_ble_eq_true rfl) dX9_init_65 ⟨(show 0 + 1 + 1 + 1 + 1 + 1 + 1 + 3 ≤ 23 by omega), (show 0 + 2 + 1200 + 6 + 3 + 3 + 9 + 2 ≤ 1668 by omega)⟩) (by omega) (by omega) (fun L g H locs hw hP hD hS => ?_)
  obtain ⟨w2, X2, eX, hf9, hfa9, h_ne⟩ := hw
  have h_dk := h_dk.fr hf9 (by decide)
  have h_tp := h_tp.fr hf9 (by decide)
  have h_by := h_by.fr hf9 (by decide)
  have h_rd := h_rd.fr hf9 (by decide)
  have h_els := h_els.fr hf9 (by decide)
  have h_reo := h_reo.fr hf9 (by decide)
  rw [tx_sc_nil] at eX
  obtain ⟨rfl, rfl⟩ : w2 = 0 ∧ X2 = [] := Prod.mk.inj eX
  obtain ⟨nt, nf, nr, N9, M9, tf9, f19, f29, h_el, _⟩ := h_ne
  have h_el : ho L g q_el 9 (.inr (2, [.int 5, .int (-1), .int 0, .ref nt, .int 0, .int 0, .ref nf, .ref nr, .int 0])) := h_el
  obtain ⟨g2, eg2⟩ : ∃ x : hG, x = va_up g q_el (30, (g q_el).2) := ⟨_, rfl⟩
  have hw2 : dW L g = dW L g2 := by rw [eg2]; exact dW_rt _ _ _ _
  rw [hw2] at hP hD
  have h_dk := h_dk.rt h_el (by decide) eg2
  have h_tp := h_tp.rt h_el (by decide) eg2
  have h_by := h_by.rt h_el (by decide) eg2
  have h_rd := h_rd.rt h_el (by decide) eg2
  have h_els := h_els.rt h_el (by decide) eg2
  have h_reo := h_reo.rt h_el (by decide) eg2
  have h_nob := h_el.rs eg2
  refine o_putF (D := D) (ci := 10) (v := .ref q_el) (ty := .object "ScriptDesk$Element") (C := RX9) (T := TX9) (N := 12) (fs1 := [.ref q_tp, .ref q_rd, .ref q_els, .ref q_reo, .ref q_el, .null, .null, .null, .null, .int 0, .int 0, .int 0]) hx hb hts inX9 tyX9 tyX9_ok nmX9 hown hK hP hD hS h_dk rfl 4 (by decide) (hts _ k_433) (fun _ h9 => h9) rfl hin rfl (by decide +kernel) rfl rfl (Nat.le_of_ble_eq_true rfl) rfl dX9_init_68 (fun g H locs h_dk hu hP hD hS => ?_)
  have h_tp := h_tp.up hu (by decide)
  have h_by := h_by.up hu (by decide)
  have h_rd := h_rd.up hu (by decide)
  have h_els := h_els.up hu (by decide)
  have h_reo := h_reo.up hu (by decide)
  have h_nob := h_nob.up hu (by decide)
  refine lv_aload_n hx hb dX9_init_71 rfl (lv_at hl 0 rfl) ?_
  refine o_new (ci := 7) (fs := [.null, .null, .null]) (C := RX6) (T := TX6) (N := 3) hx hb 13 hts inX6 tyX6 tyX6_ok hown (hts _ k_262) (hts _ k_263) (hts _ k_92) hK hP hD hS hA rfl dfX6 (show 0 + 1 + 1 + 1 + 1 + 1 + 1 + 3 + 1 ≤ 23 by omega) (show 0 + 2 + 1200 + 6 + 3 + 3 + 9 + 2 + 3 ≤ 1668 by omega) dX9_init_72 (fun q_pr L g H h_pr hnw hP hD hS => ?_)
  have h_dk := h_dk.nw hnw
  have h_tp := h_tp.nw hnw
  have h_by := h_by.nw hnw
  have h_rd := h_rd.nw hnw
  have h_els := h_els.nw hnw
  have h_reo := h_reo.nw hnw
  have h_nob := h_nob.nw hnw
  refine lv_dup hx hb dX9_init_75 rfl ?_
  refine lv_aload_n hx hb dX9_init_76 rfl (lv_at hl 0 rfl) ?_
  refine o_get (D := D) (ci := 10) (v := .ref q_el) (C := RX9) (T := TX9) (N := 12) hx hb hts inX9 hown hK hP h_dk rfl 4 (by decide) (hts _ k_433) (fun _ h9 => h9) rfl dX9_init_77 ?_
  refine o_cv (k := 0 + 1 + 1 + 1 + 1 + 1 + 1 + 3 + 1 + 3) (n := 0 + 2 + 1200 + 6 + 3 + 3 + 9 + 2 + 3 + 10) hK hP hD hS hA (o_rI (As := [.ref q_el]) (rest := [.ref q_pr, .ref dk]) hf (i_pr _ _ _ _ _ _ _ _ q_pr q_el h_pr _) k_266 k_264 k_265 k_92 rfl (nA := 1) (by decide +kernel) ⟨Nat.le_of_ble_eq_true rfl, Nat.le_of_ble_eq_true rfl⟩ hK hP hD hS hA hZ hN rfl hl.1 rfl (Nat.le_of_ble_eq_true rfl) dX9_init_80 ⟨(show 0 + 1 + 1 + 1 + 1 + 1 + 1 + 3 + 1 + 3 ≤ 23 by omega), (show 0 + 2 + 1200 + 6 + 3 + 3 + 9 + 2 + 3 + 10 ≤ 1668 by omega)⟩) (by omega) (by omega) (fun L g H locs hw hP hD hS => ?_)
  obtain ⟨pcs, spr, nwh, hf9, h_pr, h_pcs, h_spr, h_nwh⟩ := hw
  have h_dk := h_dk.fr hf9 (by decide)
  have h_tp := h_tp.fr hf9 (by decide)
  have h_by := h_by.fr hf9 (by decide)
  have h_rd := h_rd.fr hf9 (by decide)
  have h_els := h_els.fr hf9 (by decide)
  have h_reo := h_reo.fr hf9 (by decide)
  have h_nob := h_nob.fr hf9 (by decide)
  refine o_putF (D := D) (ci := 10) (v := .ref q_pr) (ty := .object "ScriptDesk$PieceRow") (C := RX9) (T := TX9) (N := 12) (fs1 := [.ref q_tp, .ref q_rd, .ref q_els, .ref q_reo, .ref q_el, .ref q_pr, .null, .null, .null, .int 0, .int 0, .int 0]) hx hb hts inX9 tyX9 tyX9_ok nmX9 hown hK hP hD hS h_dk rfl 5 (by decide) (hts _ k_434) (fun _ h9 => h9) rfl hin rfl (by decide +kernel) rfl rfl (Nat.le_of_ble_eq_true rfl) rfl dX9_init_83 (fun g H locs h_dk hu hP hD hS => ?_)
  have h_tp := h_tp.up hu (by decide)
  have h_by := h_by.up hu (by decide)
  have h_rd := h_rd.up hu (by decide)
  have h_els := h_els.up hu (by decide)
  have h_reo := h_reo.up hu (by decide)
  have h_nob := h_nob.up hu (by decide)
  have h_pr := h_pr.up hu (by decide)
  have h_pcs := h_pcs.up hu (by decide)
  have h_spr := h_spr.up hu (by decide)
  have h_nwh := h_nwh.up hu (by decide)
  refine o_new (ci := 4) (fs := [.null, .int 0, .int 0, .int 0, .int 0, .int 0, .int 0]) (C := RX3) (T := TX3) (N := 7) hx hb 20 hts inX3 tyX3 tyX3_ok hown (hts _ k_314) (hts _ k_315) (hts _ k_94) hK hP hD hS hA rfl dfX3 (show 0 + 1 + 1 + 1 + 1 + 1 + 1 + 3 + 1 + 3 + 1 ≤ 23 by omega) (show 0 + 2 + 1200 + 6 + 3 + 3 + 9 + 2 + 3 + 10 + 7 ≤ 1668 by omega) dX9_init_86 (fun q_lf L g H h_lf hnw hP hD hS => ?_)
  have h_dk := h_dk.nw hnw
  have h_tp := h_tp.nw hnw
  have h_by := h_by.nw hnw
  have h_rd := h_rd.nw hnw
  have h_els := h_els.nw hnw
  have h_reo := h_reo.nw hnw
  have h_nob := h_nob.nw hnw
  have h_pr := h_pr.nw hnw
  have h_pcs := h_pcs.nw hnw
  have h_spr := h_spr.nw hnw
  have h_nwh := h_nwh.nw hnw
  refine lv_dup hx hb dX9_init_89 rfl ?_
  refine lv_aload_n hx hb dX9_init_90 rfl (lv_at hl 0 rfl) ?_
  refine o_get (D := D) (ci := 10) (v := .ref q_pr) (C := RX9) (T := TX9) (N := 12) hx hb hts inX9 hown hK hP h_dk rfl 5 (by decide) (hts _ k_434) (fun _ h9 => h9) rfl dX9_init_91 ?_
  refine o_cv (k := 0 + 1 + 1 + 1 + 1 + 1 + 1 + 3 + 1 + 3 + 1) (n := 0 + 2 + 1200 + 6 + 3 + 3 + 9 + 2 + 3 + 10 + 7) hK hP hD hS hA (o_rI (As := [.ref q_pr]) (rest := [.ref q_lf]) hf (i_lf _ _ _ _ _ _ _ _ q_lf q_pr h_lf _) k_318 k_316 k_317 k_94 rfl (nA := 1) (by decide +kernel) ⟨Nat.le_of_ble_eq_true rfl, Nat.le_of_ble_eq_true rfl⟩ hK hP hD hS hA hZ hN rfl hl.1 rfl (Nat.le_of_ble_eq_true rfl) dX9_init_94 ⟨(show 0 + 1 + 1 + 1 + 1 + 1 + 1 + 3 + 1 + 3 + 1 + 0 ≤ 23 by omega), (show 0 + 2 + 1200 + 6 + 3 + 3 + 9 + 2 + 3 + 10 + 7 + 0 ≤ 1668 by omega)⟩) (by omega) (by omega) (fun L g H locs hw hP hD hS => ?_)
  obtain ⟨hf9, h_lf⟩ := hw
  have h_dk := h_dk.fr hf9 (by decide)
  have h_tp := h_tp.fr hf9 (by decide)
  have h_by := h_by.fr hf9 (by decide)
  have h_rd := h_rd.fr hf9 (by decide)
  have h_els := h_els.fr hf9 (by decide)
  have h_reo := h_reo.fr hf9 (by decide)
  have h_nob := h_nob.fr hf9 (by decide)
  have h_pr := h_pr.fr hf9 (by decide)
  have h_pcs := h_pcs.fr hf9 (by decide)
  have h_spr := h_spr.fr hf9 (by decide)
  have h_nwh := h_nwh.fr hf9 (by decide)
  refine lv_astore_n (lv' := [(1, .ref q_lf), (0, .ref dk)]) hx hb dX9_init_97 rfl hl (by decide) rfl (fun ls hl => ?_)
  refine lv_aload_n hx hb dX9_init_98 rfl (lv_at hl 1 rfl) ?_
  refine o_new (ci := 1) (fs := [.null, .null, .null, .int 0, .int 0, .null, .null, .int 0, .int 0, .int 0, .int 0]) (C := RX0) (T := TX0) (N := 11) hx hb 21 hts inX0 tyX0 tyX0_ok hown (hts _ k_342) (hts _ k_343) (hts _ k_95) hK hP hD hS hA rfl dfX0 (show 0 + 1 + 1 + 1 + 1 + 1 + 1 + 3 + 1 + 3 + 1 + 1 ≤ 23 by omega) (show 0 + 2 + 1200 + 6 + 3 + 3 + 9 + 2 + 3 + 10 + 7 + 11 ≤ 1668 by omega) dX9_init_99 (fun q_bk L g H h_bk hnw hP hD hS => ?_)
  have h_dk := h_dk.nw hnw
  have h_tp := h_tp.nw hnw
  have h_by := h_by.nw hnw
  have h_rd := h_rd.nw hnw
  have h_els := h_els.nw hnw
  have h_reo := h_reo.nw hnw
  have h_nob := h_nob.nw hnw
  have h_pr := h_pr.nw hnw
  have h_pcs := h_pcs.nw hnw
  have h_spr := h_spr.nw hnw
  have h_nwh := h_nwh.nw hnw
  have h_lf := h_lf.nw hnw
  refine lv_dup hx hb dX9_init_102 rfl ?_
  refine lv_aload_n hx hb dX9_init_103 rfl (lv_at hl 1 rfl) ?_
  refine o_get (D := D) (ci := 10) (v := .ref q_pr) (C := RX9) (T := TX9) (N := 12) hx hb hts inX9 hown hK hP h_dk rfl 5 (by decide) (hts _ k_434) (fun _ h9 => h9) rfl dX9_init_104 ?_
  refine lv_aload_n hx hb dX9_init_107 rfl (lv_at hl 0 rfl) ?_
  refine o_cv (k := 0 + 1 + 1 + 1 + 1 + 1 + 1 + 3 + 1 + 3 + 1 + 1 + 3) (n := 0 + 2 + 1200 + 6 + 3 + 3 + 9 + 2 + 3 + 10 + 7 + 11 + 317) hK hP hD hS hA (o_rI (As := [.ref q_pr, .ref q_lf]) (rest := [.ref q_bk, .ref dk]) hf (i_bk _ _ _ _ _ _ _ _ q_bk q_pr q_lf h_bk _) k_346 k_344 k_345 k_95 rfl (nA := 2) (by decide +kernel) ⟨Nat.le_of_ble_eq_true rfl, Nat.le_of_ble_eq_true rfl⟩ hK hP hD hS hA hZ hN rfl hl.1 rfl (Nat.le_of_ble_eq_true rfl) dX9_init_108 ⟨(show 0 + 1 + 1 + 1 + 1 + 1 + 1 + 3 + 1 + 3 + 1 + 1 + 3 ≤ 23 by omega), (show 0 + 2 + 1200 + 6 + 3 + 3 + 9 + 2 + 3 + 10 + 7 + 11 + 317 ≤ 1668 by omega)⟩) (by omega) (by omega) (fun L g H locs hw hP hD hS => ?_)
  obtain ⟨bop, cf, nx, hf9, h_bk, h_bop, h_cf, h_nx⟩ := hw
  have h_dk := h_dk.fr hf9 (by decide)
  have h_tp := h_tp.fr hf9 (by decide)
  have h_by := h_by.fr hf9 (by decide)
  have h_rd := h_rd.fr hf9 (by decide)
  have h_els := h_els.fr hf9 (by decide)
  have h_reo := h_reo.fr hf9 (by decide)
  have h_nob := h_nob.fr hf9 (by decide)
  have h_pr := h_pr.fr hf9 (by decide)
  have h_pcs := h_pcs.fr hf9 (by decide)
  have h_spr := h_spr.fr hf9 (by decide)
  have h_nwh := h_nwh.fr hf9 (by decide)
  have h_lf := h_lf.fr hf9 (by decide)
  refine o_putF (D := D) (ci := 10) (v := .ref q_bk) (ty := .object "ScriptDesk$Breaking") (C := RX9) (T := TX9) (N := 12) (fs1 := [.ref q_tp, .ref q_rd, .ref q_els, .ref q_reo, .ref q_el, .ref q_pr, .ref q_bk, .null, .null, .int 0, .int 0, .int 0]) hx hb hts inX9 tyX9 tyX9_ok nmX9 hown hK hP hD hS h_dk rfl 6 (by decide) (hts _ k_435) (fun _ h9 => h9) rfl hin rfl (by decide +kernel) rfl rfl (Nat.le_of_ble_eq_true rfl) rfl dX9_init_111 (fun g H locs h_dk hu hP hD hS => ?_)
  have h_tp := h_tp.up hu (by decide)
  have h_by := h_by.up hu (by decide)
  have h_rd := h_rd.up hu (by decide)
  have h_els := h_els.up hu (by decide)
  have h_reo := h_reo.up hu (by decide)
  have h_nob := h_nob.up hu (by decide)
  have h_pr := h_pr.up hu (by decide)
  have h_pcs := h_pcs.up hu (by decide)
  have h_spr := h_spr.up hu (by decide)
  have h_nwh := h_nwh.up hu (by decide)
  have h_lf := h_lf.up hu (by decide)
  have h_bk := h_bk.up hu (by decide)
  have h_bop := h_bop.up hu (by decide)
  have h_cf := h_cf.up hu (by decide)
  have h_nx := h_nx.up hu (by decide)
  refine lv_aload_n hx hb dX9_init_114 rfl (lv_at hl 1 rfl) ?_
  refine o_new (ci := 3) (fs := [.null, .null, .null, .null, .null, .int 0, .int 0, .int 0, .int 0, .int 0]) (C := RX2) (T := TX2) (N := 10) hx hb 25 hts inX2 tyX2 tyX2_ok hown (hts _ k_382) (hts _ k_383) (hts _ k_96) hK hP hD hS hA rfl dfX2 (show 0 + 1 + 1 + 1 + 1 + 1 + 1 + 3 + 1 + 3 + 1 + 1 + 3 + 1 ≤ 23 by omega) (show 0 + 2 + 1200 + 6 + 3 + 3 + 9 + 2 + 3 + 10 + 7 + 11 + 317 + 10 ≤ 1668 by omega) dX9_init_115 (fun q_gl L g H h_gl hnw hP hD hS => ?_)
  have h_dk := h_dk.nw hnw
  have h_tp := h_tp.nw hnw
  have h_by := h_by.nw hnw
  have h_rd := h_rd.nw hnw
  have h_els := h_els.nw hnw
  have h_reo := h_reo.nw hnw
  have h_nob := h_nob.nw hnw
  have h_pr := h_pr.nw hnw
  have h_pcs := h_pcs.nw hnw
  have h_spr := h_spr.nw hnw
  have h_nwh := h_nwh.nw hnw
  have h_lf := h_lf.nw hnw
  have h_bk := h_bk.nw hnw
  have h_bop := h_bop.nw hnw
  have h_cf := h_cf.nw hnw
  have h_nx := h_nx.nw hnw
  refine lv_dup hx hb dX9_init_118 rfl ?_
  refine lv_aload_n hx hb dX9_init_119 rfl (lv_at hl 1 rfl) ?_
  refine o_get (D := D) (ci := 10) (v := .ref q_pr) (C := RX9) (T := TX9) (N := 12) hx hb hts inX9 hown hK hP h_dk rfl 5 (by decide) (hts _ k_434) (fun _ h9 => h9) rfl dX9_init_120 ?_
  refine lv_aload_n hx hb dX9_init_123 rfl (lv_at hl 0 rfl) ?_
  refine o_cv (k := 0 + 1 + 1 + 1 + 1 + 1 + 1 + 3 + 1 + 3 + 1 + 1 + 3 + 1 + 3) (n := 0 + 2 + 1200 + 6 + 3 + 3 + 9 + 2 + 3 + 10 + 7 + 11 + 317 + 10 + 84) hK hP hD hS hA (o_rI (As := [.ref q_pr, .ref q_lf]) (rest := [.ref q_gl, .ref dk]) hf (i_gl _ _ _ _ _ _ _ _ q_gl q_pr q_lf h_gl _) k_386 k_384 k_385 k_96 rfl (nA := 2) (by decide +kernel) ⟨Nat.le_of_ble_eq_true rfl, Nat.le_of_ble_eq_true rfl⟩ hK hP hD hS hA hZ hN rfl hl.1 rfl (Nat.le_of_ble_eq_true rfl) dX9_init_124 ⟨(show 0 + 1 + 1 + 1 + 1 + 1 + 1 + 3 + 1 + 3 + 1 + 1 + 3 + 1 + 3 ≤ 23 by omega), (show 0 + 2 + 1200 + 6 + 3 + 3 + 9 + 2 + 3 + 10 + 7 + 11 + 317 + 10 + 84 ≤ 1668 by omega)⟩) (by omega) (by omega) (fun L g H locs hw hP hD hS => ?_)
  obtain ⟨ra, fa, la, hf9, h_gl, h_ra, h_fa, h_la⟩ := hw
  have h_dk := h_dk.fr hf9 (by decide)
  have h_tp := h_tp.fr hf9 (by decide)
  have h_by := h_by.fr hf9 (by decide)
  have h_rd := h_rd.fr hf9 (by decide)
  have h_els := h_els.fr hf9 (by decide)
  have h_reo := h_reo.fr hf9 (by decide)
  have h_nob := h_nob.fr hf9 (by decide)
  have h_pr := h_pr.fr hf9 (by decide)
  have h_pcs := h_pcs.fr hf9 (by decide)
  have h_spr := h_spr.fr hf9 (by decide)
  have h_nwh := h_nwh.fr hf9 (by decide)
  have h_lf := h_lf.fr hf9 (by decide)
  have h_bk := h_bk.fr hf9 (by decide)
  have h_bop := h_bop.fr hf9 (by decide)
  have h_cf := h_cf.fr hf9 (by decide)
  have h_nx := h_nx.fr hf9 (by decide)
  refine o_putF (D := D) (ci := 10) (v := .ref q_gl) (ty := .object "ScriptDesk$GroupLayout") (C := RX9) (T := TX9) (N := 12) (fs1 := [.ref q_tp, .ref q_rd, .ref q_els, .ref q_reo, .ref q_el, .ref q_pr, .ref q_bk, .ref q_gl, .null, .int 0, .int 0, .int 0]) hx hb hts inX9 tyX9 tyX9_ok nmX9 hown hK hP hD hS h_dk rfl 7 (by decide) (hts _ k_436) (fun _ h9 => h9) rfl hin rfl (by decide +kernel) rfl rfl (Nat.le_of_ble_eq_true rfl) rfl dX9_init_127 (fun g H locs h_dk hu hP hD hS => ?_)
  have h_tp := h_tp.up hu (by decide)
  have h_by := h_by.up hu (by decide)
  have h_rd := h_rd.up hu (by decide)
  have h_els := h_els.up hu (by decide)
  have h_reo := h_reo.up hu (by decide)
  have h_nob := h_nob.up hu (by decide)
  have h_pr := h_pr.up hu (by decide)
  have h_pcs := h_pcs.up hu (by decide)
  have h_spr := h_spr.up hu (by decide)
  have h_nwh := h_nwh.up hu (by decide)
  have h_lf := h_lf.up hu (by decide)
  have h_bk := h_bk.up hu (by decide)
  have h_bop := h_bop.up hu (by decide)
  have h_cf := h_cf.up hu (by decide)
  have h_nx := h_nx.up hu (by decide)
  have h_gl := h_gl.up hu (by decide)
  have h_ra := h_ra.up hu (by decide)
  have h_fa := h_fa.up hu (by decide)
  have h_la := h_la.up hu (by decide)
  refine lv_aload_n hx hb dX9_init_130 rfl (lv_at hl 1 rfl) ?_
  refine o_new (ci := 8) (fs := [.null]) (C := RX7) (T := TX7) (N := 1) hx hb 29 hts inX7 tyX7 tyX7_ok hown (hts _ k_419) (hts _ k_420) (hts _ k_97) hK hP hD hS hA rfl dfX7 (show 0 + 1 + 1 + 1 + 1 + 1 + 1 + 3 + 1 + 3 + 1 + 1 + 3 + 1 + 3 + 1 ≤ 23 by omega) (show 0 + 2 + 1200 + 6 + 3 + 3 + 9 + 2 + 3 + 10 + 7 + 11 + 317 + 10 + 84 + 1 ≤ 1668 by omega) dX9_init_131 (fun q_sl L g H h_sl hnw hP hD hS => ?_)
  have h_dk := h_dk.nw hnw
  have h_tp := h_tp.nw hnw
  have h_by := h_by.nw hnw
  have h_rd := h_rd.nw hnw
  have h_els := h_els.nw hnw
  have h_reo := h_reo.nw hnw
  have h_nob := h_nob.nw hnw
  have h_pr := h_pr.nw hnw
  have h_pcs := h_pcs.nw hnw
  have h_spr := h_spr.nw hnw
  have h_nwh := h_nwh.nw hnw
  have h_lf := h_lf.nw hnw
  have h_bk := h_bk.nw hnw
  have h_bop := h_bop.nw hnw
  have h_cf := h_cf.nw hnw
  have h_nx := h_nx.nw hnw
  have h_gl := h_gl.nw hnw
  have h_ra := h_ra.nw hnw
  have h_fa := h_fa.nw hnw
  have h_la := h_la.nw hnw
  refine lv_dup hx hb dX9_init_134 rfl ?_
  refine lv_aload_n hx hb dX9_init_135 rfl (lv_at hl 1 rfl) ?_
  refine o_get (D := D) (ci := 10) (v := .ref q_pr) (C := RX9) (T := TX9) (N := 12) hx hb hts inX9 hown hK hP h_dk rfl 5 (by decide) (hts _ k_434) (fun _ h9 => h9) rfl dX9_init_136 ?_
  refine o_cv (k := 0 + 1 + 1 + 1 + 1 + 1 + 1 + 3 + 1 + 3 + 1 + 1 + 3 + 1 + 3 + 1) (n := 0 + 2 + 1200 + 6 + 3 + 3 + 9 + 2 + 3 + 10 + 7 + 11 + 317 + 10 + 84 + 1) hK hP hD hS hA (o_rI (As := [.ref q_pr]) (rest := [.ref q_sl, .ref dk]) hf (i_sl _ _ _ _ _ _ _ _ q_sl q_pr h_sl _) k_423 k_421 k_422 k_97 rfl (nA := 1) (by decide +kernel) ⟨Nat.le_of_ble_eq_true rfl, Nat.le_of_ble_eq_true rfl⟩ hK hP hD hS hA hZ hN rfl hl.1 rfl (Nat.le_of_ble_eq_true rfl) dX9_init_139 ⟨(show 0 + 1 + 1 + 1 + 1 + 1 + 1 + 3 + 1 + 3 + 1 + 1 + 3 + 1 + 3 + 1 + 0 ≤ 23 by omega), (show 0 + 2 + 1200 + 6 + 3 + 3 + 9 + 2 + 3 + 10 + 7 + 11 + 317 + 10 + 84 + 1 + 0 ≤ 1668 by omega)⟩) (by omega) (by omega) (fun L g H locs hw hP hD hS => ?_)
  obtain ⟨hf9, h_sl⟩ := hw
  have h_dk := h_dk.fr hf9 (by decide)
  have h_tp := h_tp.fr hf9 (by decide)
  have h_by := h_by.fr hf9 (by decide)
  have h_rd := h_rd.fr hf9 (by decide)
  have h_els := h_els.fr hf9 (by decide)
  have h_reo := h_reo.fr hf9 (by decide)
  have h_nob := h_nob.fr hf9 (by decide)
  have h_pr := h_pr.fr hf9 (by decide)
  have h_pcs := h_pcs.fr hf9 (by decide)
  have h_spr := h_spr.fr hf9 (by decide)
  have h_nwh := h_nwh.fr hf9 (by decide)
  have h_lf := h_lf.fr hf9 (by decide)
  have h_bk := h_bk.fr hf9 (by decide)
  have h_bop := h_bop.fr hf9 (by decide)
  have h_cf := h_cf.fr hf9 (by decide)
  have h_nx := h_nx.fr hf9 (by decide)
  have h_gl := h_gl.fr hf9 (by decide)
  have h_ra := h_ra.fr hf9 (by decide)
  have h_fa := h_fa.fr hf9 (by decide)
  have h_la := h_la.fr hf9 (by decide)
  refine o_putF (D := D) (ci := 10) (v := .ref q_sl) (ty := .object "ScriptDesk$SceneList") (C := RX9) (T := TX9) (N := 12) (fs1 := [.ref q_tp, .ref q_rd, .ref q_els, .ref q_reo, .ref q_el, .ref q_pr, .ref q_bk, .ref q_gl, .ref q_sl, .int 0, .int 0, .int 0]) hx hb hts inX9 tyX9 tyX9_ok nmX9 hown hK hP hD hS h_dk rfl 8 (by decide) (hts _ k_437) (fun _ h9 => h9) rfl hin rfl (by decide +kernel) rfl rfl (Nat.le_of_ble_eq_true rfl) rfl dX9_init_142 (fun g H locs h_dk hu hP hD hS => ?_)
  have h_tp := h_tp.up hu (by decide)
  have h_by := h_by.up hu (by decide)
  have h_rd := h_rd.up hu (by decide)
  have h_els := h_els.up hu (by decide)
  have h_reo := h_reo.up hu (by decide)
  have h_nob := h_nob.up hu (by decide)
  have h_pr := h_pr.up hu (by decide)
  have h_pcs := h_pcs.up hu (by decide)
  have h_spr := h_spr.up hu (by decide)
  have h_nwh := h_nwh.up hu (by decide)
  have h_lf := h_lf.up hu (by decide)
  have h_bk := h_bk.up hu (by decide)
  have h_bop := h_bop.up hu (by decide)
  have h_cf := h_cf.up hu (by decide)
  have h_nx := h_nx.up hu (by decide)
  have h_gl := h_gl.up hu (by decide)
  have h_ra := h_ra.up hu (by decide)
  have h_fa := h_fa.up hu (by decide)
  have h_la := h_la.up hu (by decide)
  have h_sl := h_sl.up hu (by decide)
  refine lv_aload_n hx hb dX9_init_145 rfl (lv_at hl 1 rfl) ?_
  refine lv_bipush (v := 20) hx hb dX9_init_146 (by decide) ?_
  refine o_put (D := D) (ci := 10) (v := .int 20) (ty := .int) (C := RX9) (T := TX9) (N := 12) (fs1 := [.ref q_tp, .ref q_rd, .ref q_els, .ref q_reo, .ref q_el, .ref q_pr, .ref q_bk, .ref q_gl, .ref q_sl, .int 20, .int 0, .int 0]) hx hb hts inX9 tyX9 tyX9_ok nmX9 hown hK hP hD hS h_dk rfl 9 (by decide) (hts _ k_438) (fun _ h9 => h9) rfl (by decide +kernel) rfl rfl (Nat.le_of_ble_eq_true rfl) rfl dX9_init_148 (fun g H locs h_dk hu hP hD hS => ?_)
  have h_tp := h_tp.up hu (by decide)
  have h_by := h_by.up hu (by decide)
  have h_rd := h_rd.up hu (by decide)
  have h_els := h_els.up hu (by decide)
  have h_reo := h_reo.up hu (by decide)
  have h_nob := h_nob.up hu (by decide)
  have h_pr := h_pr.up hu (by decide)
  have h_pcs := h_pcs.up hu (by decide)
  have h_spr := h_spr.up hu (by decide)
  have h_nwh := h_nwh.up hu (by decide)
  have h_lf := h_lf.up hu (by decide)
  have h_bk := h_bk.up hu (by decide)
  have h_bop := h_bop.up hu (by decide)
  have h_cf := h_cf.up hu (by decide)
  have h_nx := h_nx.up hu (by decide)
  have h_gl := h_gl.up hu (by decide)
  have h_ra := h_ra.up hu (by decide)
  have h_fa := h_fa.up hu (by decide)
  have h_la := h_la.up hu (by decide)
  have h_sl := h_sl.up hu (by decide)
  exact o_rv hf hr hlocks hK hP hD hS (show 0 + 1 + 1 + 1 + 1 + 1 + 1 + 3 + 1 + 3 + 1 + 1 + 3 + 1 + 3 + 1 ≤ 23 by omega) (show 0 + 2 + 1200 + 6 + 3 + 3 + 9 + 2 + 3 + 10 + 7 + 11 + 317 + 10 + 84 + 1 ≤ 1668 by omega) ⟨q_tp, by_, q_rd, q_els, q_reo, q_el, nt, nf, nr, q_pr, pcs, spr, nwh, q_lf, q_bk, bop, cf, nx, q_gl, ra, fa, la, q_sl, h_dk, h_tp, h_by, h_rd, h_els, h_reo, h_nob, h_pr, h_pcs, h_spr, h_nwh, h_lf, h_bk, h_bop, h_cf, h_nx, h_gl, h_ra, h_fa, h_la, h_sl⟩ dX9_init_151
