def fd_t (v : Int32) : Nat := if v = 10 then 1 else if v < 32 then 0 else if 126 < v then 0 else 1
theorem fd_ta {v : Int32} (h : v = 10) : fd_t v = 1 := by unfold fd_t; rw [if_pos h]
theorem fd_tb {v : Int32} (h : ¬ v = 10) (h2 : v < 32) : fd_t v = 0 := by unfold fd_t; rw [if_neg h, if_pos h2]
theorem fd_tc {v : Int32} (h : ¬ v = 10) (h2 : ¬ v < 32) (h3 : 126 < v) : fd_t v = 0 := by unfold fd_t; rw [if_neg h, if_neg h2, if_pos h3]
theorem fd_td {v : Int32} (h : ¬ v = 10) (h2 : ¬ v < 32) (h3 : ¬ 126 < v) : fd_t v = 1 := by unfold fd_t; rw [if_neg h, if_neg h2, if_neg h3]
def fd_b (w : Int64) (j : Nat) : Int32 := ((w.toUInt64 >>> ((8 * nI j).toInt64.toUInt64 &&& Int64.toUInt64 63)).toInt64.toInt32 &&& 255)
def fd_m (w : Int64) (j : Nat) : Int32 := ((w >>> ((8 * nI j).toInt64 &&& 63)).toInt32 &&& 255)
def fd_g (w : Int64) : Nat → Nat → Nat
  | 0, k => k
  | j + 1, k => fd_g w j (k + fd_t (fd_b w j))
def fd (w : Int64) (n : Int32) : Int32 := nI (fd_g w n.toNatClampNeg 0)
theorem fd_step {w : Int64} {j k t : Nat} (h : fd_t (fd_b w j) = t) : fd_g w (j + 1) k = fd_g w j (k + t) := by
  show fd_g w j (k + fd_t (fd_b w j)) = _
  rw [h]
theorem fd_dummy : True := trivial
theorem fd_of {n : Int32} (h1 : ¬ n < 1) (h2 : ¬ 8 < n) : ∃ j : Nat, j ≤ 8 ∧ n = nI j := by
  rw [Int32.lt_iff_toInt_lt] at h1 h2
  have e1 : (1 : Int32).toInt = 1 := by decide
  have e8 : (8 : Int32).toInt = 8 := by decide
  refine ⟨n.toInt.toNat, by omega, ?_⟩
  apply Int32.toInt_inj.mp
  rw [nI_toInt (by omega)]
  omega
theorem fd_in {k : Nat} (h : k ≤ 8) : vp_in (nI k) 1200 := vp_in_nI (by omega) (by omega)
theorem fd_lt {x : Int32} (h : vp_in x 1200) : x < 1200 := by
  rw [vp_in_iff] at h
  rw [Int32.lt_iff_toInt_lt]
  have e : (1200 : Int32).toInt = 1200 := by decide
  omega
theorem fd_bits (x : BitVec 64) (k : Nat) (hk : k ≤ 56) : (x.sshiftRight k).setWidth 32 &&& 255#32 = (x >>> k).setWidth 32 &&& 255#32 := by
  apply BitVec.eq_of_getLsbD_eq
  intro i hi
  simp only [BitVec.getLsbD_and, BitVec.getLsbD_setWidth, BitVec.getLsbD_ushiftRight, BitVec.getLsbD_sshiftRight]
  by_cases h8 : i < 8
  · have h1 : ¬ 64 ≤ i := by omega
    have h2 : k + i < 64 := by omega
    simp [h1, h2]
  · have h255 : (255#32).getLsbD i = false := by
      have : ∀ i : Fin 32, ¬ i.val < 8 → (255#32).getLsbD i.val = false := by decide
      exact this ⟨i, hi⟩ h8
    simp [h255]
theorem fd_sr (w s : Int64) (k : Nat) (hs : (s.toBitVec.smod 64).toNat = k) : (w >>> s).toBitVec = w.toBitVec.sshiftRight k := by
  show w.toBitVec.sshiftRight (s.toBitVec.smod 64).toNat = _
  rw [hs]
theorem fd_ur (w : Int64) (s : UInt64) (k : Nat) (hs : (s.toBitVec % 64).toNat = k) : (w.toUInt64 >>> s).toInt64.toBitVec = w.toBitVec >>> k := by
  show w.toBitVec >>> (s.toBitVec % 64) = _
  rw [BitVec.ushiftRight_eq', hs]
theorem fd_and {w : BitVec 64} (x y : Int64) (k : Nat) (hk : k ≤ 56) (hx : x.toBitVec = w.sshiftRight k) (hy : y.toBitVec = w >>> k) : x.toInt32 &&& 255 = y.toInt32 &&& 255 := by
  apply Int32.toBitVec_inj.mp
  have e1 : (x.toInt32 &&& 255).toBitVec = x.toBitVec.setWidth 32 &&& 255#32 := by
    show x.toBitVec.signExtend 32 &&& 255#32 = _
    rw [BitVec.signExtend_eq_setWidth_of_le _ (by decide)]
  have e2 : (y.toInt32 &&& 255).toBitVec = y.toBitVec.setWidth 32 &&& 255#32 := by
    show y.toBitVec.signExtend 32 &&& 255#32 = _
    rw [BitVec.signExtend_eq_setWidth_of_le _ (by decide)]
  rw [e1, e2, hx, hy]
  exact fd_bits w k hk
theorem fd_s1 : ∀ j : Fin 8, (((8 * nI j.val).toInt64 &&& 63).toBitVec.smod 64).toNat = 8 * j.val := by decide
theorem fd_s2 : ∀ j : Fin 8, (((8 * nI j.val).toInt64.toUInt64 &&& Int64.toUInt64 63).toBitVec % 64).toNat = 8 * j.val := by decide
theorem fd_mb : ∀ (w : Int64) (j : Nat), j < 8 → fd_m w j = fd_b w j := by
  intro w j hj
  exact fd_and _ _ (8 * j) (by omega) (fd_sr w _ _ (fd_s1 ⟨j, hj⟩)) (fd_ur w _ _ (fd_s2 ⟨j, hj⟩))
theorem fd_stepm {w : Int64} {j k t : Nat} (hj : j < 8) (h : fd_t (fd_m w j) = t) : fd_g w (j + 1) k = fd_g w j (k + t) := fd_step (by rw [← fd_mb w j hj]; exact h)
abbrev cX10_feed : ByteArray := prog_12_method_4_code
def yX10_feed : MethodName := ⟨RX10, "feed", "(JI)I"⟩
abbrev cX8_put : ByteArray := prog_10_method_4_code
def yX8_put : MethodName := ⟨RX8, "put", "(I)V"⟩
abbrev cX9_feed : ByteArray := prog_1_method_2_code
def yX9_feed : MethodName := ⟨RX9, "feed", "(JI)I"⟩
theorem k_474 : (Cond.methodLink RX9 89 yX8_put) ∈ gT := gT_i 474 (by decide +kernel) rfl
theorem k_475 : (Cond.instanceMethod yX8_put) ∈ gT := gT_i 475 (by decide +kernel) rfl
theorem k_476 : (Cond.selects RX8 yX8_put yX8_put) ∈ gT := gT_i 476 (by decide +kernel) rfl
theorem k_477 : (Cond.code yX8_put cX8_put 3 none) ∈ gT := gT_i 477 (by decide +kernel) rfl
theorem dX9_feed_33 : decode cX9_feed 33 = .ok (.iload 4, 2) := by decide +kernel
theorem dX9_feed_35 : decode cX9_feed 35 = .ok (.ifCond .lt 28, 3) := by decide +kernel
theorem dX9_feed_38 : decode cX9_feed 38 = .ok (.aload_n 0, 1) := by decide +kernel
theorem dX9_feed_39 : decode cX9_feed 39 = .ok (.getfield 10, 3) := by decide +kernel
theorem dX9_feed_42 : decode cX9_feed 42 = .ok (.lload_n 1, 1) := by decide +kernel
theorem dX9_feed_43 : decode cX9_feed 43 = .ok (.bipush 8, 2) := by decide +kernel
theorem dX9_feed_45 : decode cX9_feed 45 = .ok (.iload 4, 2) := by decide +kernel
theorem dX9_feed_47 : decode cX9_feed 47 = .ok (.imul, 1) := by decide +kernel
theorem dX9_feed_48 : decode cX9_feed 48 = .ok (.lushr, 1) := by decide +kernel
theorem dX9_feed_49 : decode cX9_feed 49 = .ok (.l2i, 1) := by decide +kernel
theorem dX9_feed_50 : decode cX9_feed 50 = .ok (.sipush 255, 3) := by decide +kernel
theorem dX9_feed_53 : decode cX9_feed 53 = .ok (.iand, 1) := by decide +kernel
theorem dX9_feed_54 : decode cX9_feed 54 = .ok (.invokevirtual 89, 3) := by decide +kernel
theorem dX8_put_0 : decode cX8_put 0 = .ok (.iload_n 1, 1) := by decide +kernel
theorem dX8_put_1 : decode cX8_put 1 = .ok (.bipush 10, 2) := by decide +kernel
theorem dX8_put_3 : decode cX8_put 3 = .ok (.if_icmp .eq 15, 3) := by decide +kernel
theorem dX8_put_18 : decode cX8_put 18 = .ok (.iconst 1, 1) := by decide +kernel
theorem dX8_put_19 : decode cX8_put 19 = .ok (.goto 4, 3) := by decide +kernel
theorem dX8_put_23 : decode cX8_put 23 = .ok (.istore_n 2, 1) := by decide +kernel
theorem dX8_put_24 : decode cX8_put 24 = .ok (.iload_n 2, 1) := by decide +kernel
theorem dX8_put_25 : decode cX8_put 25 = .ok (.ifCond .eq 34, 3) := by decide +kernel
theorem dX8_put_28 : decode cX8_put 28 = .ok (.aload_n 0, 1) := by decide +kernel
theorem dX8_put_29 : decode cX8_put 29 = .ok (.getfield 13, 3) := by decide +kernel
theorem dX8_put_32 : decode cX8_put 32 = .ok (.sipush 1200, 3) := by decide +kernel
theorem dX8_put_35 : decode cX8_put 35 = .ok (.if_icmp .ge 24, 3) := by decide +kernel
theorem dX8_put_38 : decode cX8_put 38 = .ok (.aload_n 0, 1) := by decide +kernel
theorem dX8_put_39 : decode cX8_put 39 = .ok (.getfield 9, 3) := by decide +kernel
theorem dX8_put_42 : decode cX8_put 42 = .ok (.aload_n 0, 1) := by decide +kernel
theorem dX8_put_43 : decode cX8_put 43 = .ok (.getfield 13, 3) := by decide +kernel
theorem dX8_put_46 : decode cX8_put 46 = .ok (.iload_n 1, 1) := by decide +kernel
theorem dX8_put_47 : decode cX8_put 47 = .ok (.i2b, 1) := by decide +kernel
theorem dX8_put_48 : decode cX8_put 48 = .ok (.bastore, 1) := by decide +kernel
theorem dX8_put_49 : decode cX8_put 49 = .ok (.aload_n 0, 1) := by decide +kernel
theorem dX8_put_50 : decode cX8_put 50 = .ok (.dup, 1) := by decide +kernel
theorem dX8_put_51 : decode cX8_put 51 = .ok (.getfield 13, 3) := by decide +kernel
theorem dX8_put_54 : decode cX8_put 54 = .ok (.iconst 1, 1) := by decide +kernel
theorem dX8_put_55 : decode cX8_put 55 = .ok (.iadd, 1) := by decide +kernel
theorem dX8_put_56 : decode cX8_put 56 = .ok (.putfield 13, 3) := by decide +kernel
theorem dX8_put_59 : decode cX8_put 59 = .ok (.return_, 1) := by decide +kernel
theorem dX8_put_6 : decode cX8_put 6 = .ok (.iload_n 1, 1) := by decide +kernel
theorem dX8_put_7 : decode cX8_put 7 = .ok (.bipush 32, 2) := by decide +kernel
theorem dX8_put_9 : decode cX8_put 9 = .ok (.if_icmp .lt 13, 3) := by decide +kernel
theorem dX8_put_22 : decode cX8_put 22 = .ok (.iconst 0, 1) := by decide +kernel
theorem dX8_put_12 : decode cX8_put 12 = .ok (.iload_n 1, 1) := by decide +kernel
theorem dX8_put_13 : decode cX8_put 13 = .ok (.bipush 126, 2) := by decide +kernel
theorem dX8_put_15 : decode cX8_put 15 = .ok (.if_icmp .gt 7, 3) := by decide +kernel
theorem dX9_feed_57 : decode cX9_feed 57 = .ok (.iinc 4 (-1), 3) := by decide +kernel
theorem dX9_feed_60 : decode cX9_feed 60 = .ok (.goto (-27), 3) := by decide +kernel
set_option maxHeartbeats 1000000 in
set_option maxRecDepth 100000 in
theorem m_X8_put_1 (l : Launch) (D : va_G) (h0 : Nat) (i1 : Int32) (h2 : Nat) (i3 : Int32) (g4 : ClassId) (f5 : Nat → Int32) (hi : vp_in i3 1200) : cV l D yX8_put cX8_put 3 none 0 0 0 0 [.ref h0, .int i1] zT [(h0, .inr (9, [.ref h2, .int i3])), (h2, .inl (g4, 1200, .inl f5))] [(g4, .byte)] (fun u => (i1 = 10 ∧ u = ([(h0, .inr (9, [.ref h2, .int (i3 + 1)])), (h2, .inl (g4, 1200, .inl (upd f5 i3.toNatClampNeg (vp_nar .byte i1.toInt8.toInt32))))], [(g4, .byte)])) ∨ (¬ i1 = 10 ∧ i1 < 32 ∧ u = ([(h0, .inr (9, [.ref h2, .int i3])), (h2, .inl (g4, 1200, .inl f5))], [(g4, .byte)])) ∨ (¬ i1 = 10 ∧ ¬ i1 < 32 ∧ 126 < i1 ∧ u = ([(h0, .inr (9, [.ref h2, .int i3])), (h2, .inl (g4, 1200, .inl f5))], [(g4, .byte)])) ∨ (¬ i1 = 10 ∧ ¬ i1 < 32 ∧ ¬ 126 < i1 ∧ u = ([(h0, .inr (9, [.ref h2, .int (i3 + 1)])), (h2, .inl (g4, 1200, .inl (upd f5 i3.toNatClampNeg (vp_nar .byte i1.toInt8.toInt32))))], [(g4, .byte)]))) := by
  refine q_sv (by decide) (Nat.le_of_ble_eq_true rfl) ?_
  intro p e s m below meth c A ls hAe hf hr hlocks hin hK hP hD hS hA hZ hl
  obtain ⟨hx, hb, hml, hown, hts⟩ := id hf
  have hl : lv_has ls 3 [(0, .ref h0), (1, .int i1)] := hl
  refine lv_iload_n hx hb dX8_put_0 rfl (lv_at hl 1 rfl) ?_
  refine lv_bipush (v := 10) hx hb dX8_put_1 (by decide) ?_
  refine lv_icmp_eq (tgt := 18) hx hb dX8_put_3 (by decide) (fun c_1 => ?_) (fun c_1 => ?_)
  · refine lv_iconst (v := 1) hx hb dX8_put_18 (by decide) ?_
    refine lv_goto (tgt := 23) hx hb dX8_put_19 (by decide) ?_
    refine lv_istore_n (lv' := [(2, .int 1), (0, .ref h0), (1, .int i1)]) hx hb dX8_put_23 rfl hl (by decide) rfl (fun ls hl => ?_)
    refine lv_iload_n hx hb dX8_put_24 rfl (lv_at hl 0 rfl) ?_
    refine lv_if_eq (tgt := 59) hx hb dX8_put_25 (by decide) (fun hno => absurd hno (by decide)) (fun _ => ?_)
    refine lv_aload_n hx hb dX8_put_28 rfl (lv_at hl 1 rfl) ?_
    refine va_get (D := D) (ci := 9) (v := .int i3) (C := RX8) (T := TX8) (N := 2) hx hb hts inX8 hown hK hP 0 rfl rfl 1 (by decide) (hts _ k_122) (fun _ h9 => h9) rfl dX8_put_29 ?_
    refine lv_sipush (v := 1200) hx hb dX8_put_32 (by decide) ?_
    refine lv_icmp_ge (tgt := 59) hx hb dX8_put_35 (by decide) (fun hno => absurd (fd_lt hi) (q_nlt_le hno)) (fun _ => ?_)
    refine lv_aload_n hx hb dX8_put_38 rfl (lv_at hl 1 rfl) ?_
    refine va_get (D := D) (ci := 9) (v := .ref h2) (C := RX8) (T := TX8) (N := 2) hx hb hts inX8 hown hK hP 0 rfl rfl 0 (by decide) (hts _ k_121) (fun _ h9 => h9) rfl dX8_put_39 ?_
    refine lv_aload_n hx hb dX8_put_42 rfl (lv_at hl 1 rfl) ?_
    refine va_get (D := D) (ci := 9) (v := .int i3) (C := RX8) (T := TX8) (N := 2) hx hb hts inX8 hown hK hP 0 rfl rfl 1 (by decide) (hts _ k_122) (fun _ h9 => h9) rfl dX8_put_43 ?_
    refine lv_iload_n hx hb dX8_put_46 rfl (lv_at hl 2 rfl) ?_
    refine lv_i2b (v := i1.toInt8.toInt32) hx hb dX8_put_47 rfl ?_
    refine va_bast hx hb hK hP hD hS 1 0 rfl rfl hi dX8_put_48 (fun H locs hP hD hS => ?_)
    have hP : va_P D vcl [(h0, .inr (9, [.ref h2, .int i3])), (h2, .inl (g4, 1200, .inl (upd f5 i3.toNatClampNeg (vp_nar .byte i1.toInt8.toInt32))))] H := hP
    have hD : va_D A [(h0, .inr (9, [.ref h2, .int i3])), (h2, .inl (g4, 1200, .inl (upd f5 i3.toNatClampNeg (vp_nar .byte i1.toInt8.toInt32))))] := hD
    refine lv_aload_n hx hb dX8_put_49 rfl (lv_at hl 1 rfl) ?_
    refine lv_dup hx hb dX8_put_50 rfl ?_
    refine va_get (D := D) (ci := 9) (v := .int i3) (C := RX8) (T := TX8) (N := 2) hx hb hts inX8 hown hK hP 0 rfl rfl 1 (by decide) (hts _ k_122) (fun _ h9 => h9) rfl dX8_put_51 ?_
    refine lv_iconst (v := 1) hx hb dX8_put_54 (by decide) ?_
    refine lv_iadd hx hb dX8_put_55 ?_
    refine va_put (D := D) (ci := 9) (v := .int (i3 + 1)) (ty := .int) (C := RX8) (T := TX8) (N := 2) hx hb hts inX8 tyX8 tyX8_ok nmX8 hown hK hP hD hS 0 rfl rfl 1 (by decide) (hts _ k_122) (fun _ h9 => h9) rfl (by decide +kernel) rfl rfl (Nat.le_of_ble_eq_true rfl) dX8_put_56 (fun H locs hP hD hS => ?_)
    have hP : va_P D vcl [(h0, .inr (9, [.ref h2, .int (i3 + 1)])), (h2, .inl (g4, 1200, .inl (upd f5 i3.toNatClampNeg (vp_nar .byte i1.toInt8.toInt32))))] H := hP
    have hD : va_D A [(h0, .inr (9, [.ref h2, .int (i3 + 1)])), (h2, .inl (g4, 1200, .inl (upd f5 i3.toNatClampNeg (vp_nar .byte i1.toInt8.toInt32))))] := hD
    exact q_rv hf hr hlocks hK hP hD hS [0, 1] [0] (w1 := [(h0, .inr (9, [.ref h2, .int (i3 + 1)])), (h2, .inl (g4, 1200, .inl (upd f5 i3.toNatClampNeg (vp_nar .byte i1.toInt8.toInt32))))]) (t1 := [(g4, .byte)]) rfl (by decide) rfl (Nat.le_of_ble_eq_true rfl) (Nat.le_of_ble_eq_true rfl) (Or.inl ⟨c_1, rfl⟩) dX8_put_59
  · refine lv_iload_n hx hb dX8_put_6 rfl (lv_at hl 1 rfl) ?_
    refine lv_bipush (v := 32) hx hb dX8_put_7 (by decide) ?_
    refine lv_icmp_lt (tgt := 22) hx hb dX8_put_9 (by decide) (fun c_2 => ?_) (fun c_2 => ?_)
    · refine lv_iconst (v := 0) hx hb dX8_put_22 (by decide) ?_
      refine lv_istore_n (lv' := [(2, .int 0), (0, .ref h0), (1, .int i1)]) hx hb dX8_put_23 rfl hl (by decide) rfl (fun ls hl => ?_)
      refine lv_iload_n hx hb dX8_put_24 rfl (lv_at hl 0 rfl) ?_
      refine lv_if_eq (tgt := 59) hx hb dX8_put_25 (by decide) (fun _ => ?_) (fun hno => absurd hno (by decide))
      exact q_rv hf hr hlocks hK hP hD hS [0, 1] [0] (w1 := [(h0, .inr (9, [.ref h2, .int i3])), (h2, .inl (g4, 1200, .inl f5))]) (t1 := [(g4, .byte)]) rfl (by decide) rfl (Nat.le_of_ble_eq_true rfl) (Nat.le_of_ble_eq_true rfl) (Or.inr (Or.inl ⟨c_1, c_2, rfl⟩)) dX8_put_59
    · refine lv_iload_n hx hb dX8_put_12 rfl (lv_at hl 1 rfl) ?_
      refine lv_bipush (v := 126) hx hb dX8_put_13 (by decide) ?_
      refine lv_icmp_gt (tgt := 22) hx hb dX8_put_15 (by decide) (fun c_3 => ?_) (fun c_3 => ?_)
      · refine lv_iconst (v := 0) hx hb dX8_put_22 (by decide) ?_
        refine lv_istore_n (lv' := [(2, .int 0), (0, .ref h0), (1, .int i1)]) hx hb dX8_put_23 rfl hl (by decide) rfl (fun ls hl => ?_)
        refine lv_iload_n hx hb dX8_put_24 rfl (lv_at hl 0 rfl) ?_
        refine lv_if_eq (tgt := 59) hx hb dX8_put_25 (by decide) (fun _ => ?_) (fun hno => absurd hno (by decide))
        exact q_rv hf hr hlocks hK hP hD hS [0, 1] [0] (w1 := [(h0, .inr (9, [.ref h2, .int i3])), (h2, .inl (g4, 1200, .inl f5))]) (t1 := [(g4, .byte)]) rfl (by decide) rfl (Nat.le_of_ble_eq_true rfl) (Nat.le_of_ble_eq_true rfl) (Or.inr (Or.inr (Or.inl ⟨c_1, c_2, c_3, rfl⟩))) dX8_put_59
      · refine lv_iconst (v := 1) hx hb dX8_put_18 (by decide) ?_
        refine lv_goto (tgt := 23) hx hb dX8_put_19 (by decide) ?_
        refine lv_istore_n (lv' := [(2, .int 1), (0, .ref h0), (1, .int i1)]) hx hb dX8_put_23 rfl hl (by decide) rfl (fun ls hl => ?_)
        refine lv_iload_n hx hb dX8_put_24 rfl (lv_at hl 0 rfl) ?_
        refine lv_if_eq (tgt := 59) hx hb dX8_put_25 (by decide) (fun hno => absurd hno (by decide)) (fun _ => ?_)
        refine lv_aload_n hx hb dX8_put_28 rfl (lv_at hl 1 rfl) ?_
        refine va_get (D := D) (ci := 9) (v := .int i3) (C := RX8) (T := TX8) (N := 2) hx hb hts inX8 hown hK hP 0 rfl rfl 1 (by decide) (hts _ k_122) (fun _ h9 => h9) rfl dX8_put_29 ?_
        refine lv_sipush (v := 1200) hx hb dX8_put_32 (by decide) ?_
        refine lv_icmp_ge (tgt := 59) hx hb dX8_put_35 (by decide) (fun hno => absurd (fd_lt hi) (q_nlt_le hno)) (fun _ => ?_)
        refine lv_aload_n hx hb dX8_put_38 rfl (lv_at hl 1 rfl) ?_
        refine va_get (D := D) (ci := 9) (v := .ref h2) (C := RX8) (T := TX8) (N := 2) hx hb hts inX8 hown hK hP 0 rfl rfl 0 (by decide) (hts _ k_121) (fun _ h9 => h9) rfl dX8_put_39 ?_
        refine lv_aload_n hx hb dX8_put_42 rfl (lv_at hl 1 rfl) ?_
        refine va_get (D := D) (ci := 9) (v := .int i3) (C := RX8) (T := TX8) (N := 2) hx hb hts inX8 hown hK hP 0 rfl rfl 1 (by decide) (hts _ k_122) (fun _ h9 => h9) rfl dX8_put_43 ?_
        refine lv_iload_n hx hb dX8_put_46 rfl (lv_at hl 2 rfl) ?_
        refine lv_i2b (v := i1.toInt8.toInt32) hx hb dX8_put_47 rfl ?_
        refine va_bast hx hb hK hP hD hS 1 0 rfl rfl hi dX8_put_48 (fun H locs hP hD hS => ?_)
        have hP : va_P D vcl [(h0, .inr (9, [.ref h2, .int i3])), (h2, .inl (g4, 1200, .inl (upd f5 i3.toNatClampNeg (vp_nar .byte i1.toInt8.toInt32))))] H := hP
        have hD : va_D A [(h0, .inr (9, [.ref h2, .int i3])), (h2, .inl (g4, 1200, .inl (upd f5 i3.toNatClampNeg (vp_nar .byte i1.toInt8.toInt32))))] := hD
        refine lv_aload_n hx hb dX8_put_49 rfl (lv_at hl 1 rfl) ?_
        refine lv_dup hx hb dX8_put_50 rfl ?_
        refine va_get (D := D) (ci := 9) (v := .int i3) (C := RX8) (T := TX8) (N := 2) hx hb hts inX8 hown hK hP 0 rfl rfl 1 (by decide) (hts _ k_122) (fun _ h9 => h9) rfl dX8_put_51 ?_
        refine lv_iconst (v := 1) hx hb dX8_put_54 (by decide) ?_
        refine lv_iadd hx hb dX8_put_55 ?_
        refine va_put (D := D) (ci := 9) (v := .int (i3 + 1)) (ty := .int) (C := RX8) (T := TX8) (N := 2) hx hb hts inX8 tyX8 tyX8_ok nmX8 hown hK hP hD hS 0 rfl rfl 1 (by decide) (hts _ k_122) (fun _ h9 => h9) rfl (by decide +kernel) rfl rfl (Nat.le_of_ble_eq_true rfl) dX8_put_56 (fun H locs hP hD hS => ?_)
        have hP : va_P D vcl [(h0, .inr (9, [.ref h2, .int (i3 + 1)])), (h2, .inl (g4, 1200, .inl (upd f5 i3.toNatClampNeg (vp_nar .byte i1.toInt8.toInt32))))] H := hP
        have hD : va_D A [(h0, .inr (9, [.ref h2, .int (i3 + 1)])), (h2, .inl (g4, 1200, .inl (upd f5 i3.toNatClampNeg (vp_nar .byte i1.toInt8.toInt32))))] := hD
        exact q_rv hf hr hlocks hK hP hD hS [0, 1] [0] (w1 := [(h0, .inr (9, [.ref h2, .int (i3 + 1)])), (h2, .inl (g4, 1200, .inl (upd f5 i3.toNatClampNeg (vp_nar .byte i1.toInt8.toInt32))))]) (t1 := [(g4, .byte)]) rfl (by decide) rfl (Nat.le_of_ble_eq_true rfl) (Nat.le_of_ble_eq_true rfl) (Or.inr (Or.inr (Or.inr ⟨c_1, c_2, c_3, rfl⟩))) dX8_put_59
theorem dX10_feed_33 : decode cX10_feed 33 = .ok (.iload 4, 2) := by decide +kernel
theorem dX10_feed_35 : decode cX10_feed 35 = .ok (.ifCond .lt 64, 3) := by decide +kernel
theorem dX10_feed_38 : decode cX10_feed 38 = .ok (.lload_n 1, 1) := by decide +kernel
theorem dX10_feed_39 : decode cX10_feed 39 = .ok (.bipush 8, 2) := by decide +kernel
theorem dX10_feed_41 : decode cX10_feed 41 = .ok (.iload 4, 2) := by decide +kernel
theorem dX10_feed_43 : decode cX10_feed 43 = .ok (.imul, 1) := by decide +kernel
theorem dX10_feed_44 : decode cX10_feed 44 = .ok (.lshr, 1) := by decide +kernel
theorem dX10_feed_45 : decode cX10_feed 45 = .ok (.l2i, 1) := by decide +kernel
theorem dX10_feed_46 : decode cX10_feed 46 = .ok (.sipush 255, 3) := by decide +kernel
theorem dX10_feed_49 : decode cX10_feed 49 = .ok (.iand, 1) := by decide +kernel
theorem dX10_feed_50 : decode cX10_feed 50 = .ok (.istore 5, 2) := by decide +kernel
theorem dX10_feed_52 : decode cX10_feed 52 = .ok (.iload 5, 2) := by decide +kernel
theorem dX10_feed_54 : decode cX10_feed 54 = .ok (.bipush 10, 2) := by decide +kernel
theorem dX10_feed_56 : decode cX10_feed 56 = .ok (.if_icmp .eq 15, 3) := by decide +kernel
theorem dX10_feed_71 : decode cX10_feed 71 = .ok (.aload_n 0, 1) := by decide +kernel
theorem dX10_feed_72 : decode cX10_feed 72 = .ok (.getfield 7, 3) := by decide +kernel
theorem dX10_feed_75 : decode cX10_feed 75 = .ok (.aload_n 0, 1) := by decide +kernel
theorem dX10_feed_76 : decode cX10_feed 76 = .ok (.getfield 123, 3) := by decide +kernel
theorem dX10_feed_79 : decode cX10_feed 79 = .ok (.iload 5, 2) := by decide +kernel
theorem dX10_feed_81 : decode cX10_feed 81 = .ok (.i2b, 1) := by decide +kernel
theorem dX10_feed_82 : decode cX10_feed 82 = .ok (.bastore, 1) := by decide +kernel
theorem dX10_feed_83 : decode cX10_feed 83 = .ok (.aload_n 0, 1) := by decide +kernel
theorem dX10_feed_84 : decode cX10_feed 84 = .ok (.dup, 1) := by decide +kernel
theorem dX10_feed_85 : decode cX10_feed 85 = .ok (.getfield 123, 3) := by decide +kernel
theorem dX10_feed_88 : decode cX10_feed 88 = .ok (.iconst 1, 1) := by decide +kernel
theorem dX10_feed_89 : decode cX10_feed 89 = .ok (.iadd, 1) := by decide +kernel
theorem dX10_feed_90 : decode cX10_feed 90 = .ok (.putfield 123, 3) := by decide +kernel
theorem dX10_feed_93 : decode cX10_feed 93 = .ok (.iinc 4 (-1), 3) := by decide +kernel
theorem dX10_feed_96 : decode cX10_feed 96 = .ok (.goto (-63), 3) := by decide +kernel
theorem dX10_feed_59 : decode cX10_feed 59 = .ok (.iload 5, 2) := by decide +kernel
theorem dX10_feed_61 : decode cX10_feed 61 = .ok (.bipush 32, 2) := by decide +kernel
theorem dX10_feed_63 : decode cX10_feed 63 = .ok (.bipush 126, 2) := by decide +kernel
theorem dX10_feed_65 : decode cX10_feed 65 = .ok (.invokestatic 119, 3) := by decide +kernel
theorem dX10_feed_68 : decode cX10_feed 68 = .ok (.ifCond .eq 25, 3) := by decide +kernel
set_option maxHeartbeats 1000000 in
set_option maxRecDepth 100000 in
theorem m_X10_in_6 (l : Launch) (D : va_G) (i0 : Int32) : cI l D yX10_in cX10_in 3 (some .boolean) 0 0 0 0 [.int i0, .int 32, .int 126] zT [] [] (fun r u => (i0 < 32 ∧ r = 0 ∧ u = ([], [])) ∨ (¬ i0 < 32 ∧ 126 < i0 ∧ r = 0 ∧ u = ([], [])) ∨ (¬ i0 < 32 ∧ ¬ 126 < i0 ∧ r = 1 ∧ u = ([], []))) := by
  refine q_si (by decide) (Nat.le_of_ble_eq_true rfl) ?_
  intro p e s m below meth c A ls hAe hf hr hlocks hin hK hP hD hS hA hZ hl
  obtain ⟨hx, hb, hml, hown, hts⟩ := id hf
  have hl : lv_has ls 3 [(0, .int i0), (1, .int 32), (2, .int 126)] := hl
  refine lv_iload_n hx hb dX10_in_0 rfl (lv_at hl 0 rfl) ?_
  refine lv_iload_n hx hb dX10_in_1 rfl (lv_at hl 1 rfl) ?_
  refine lv_icmp_lt (tgt := 14) hx hb dX10_in_2 (by decide) (fun c_1 => ?_) (fun c_1 => ?_)
  · refine lv_iconst (v := 0) hx hb dX10_in_14 (by decide) ?_
    exact q_ri hf hr rfl hlocks hK hP hD hS [] [] (w1 := []) (t1 := []) rfl (by decide) rfl (Nat.le_of_ble_eq_true rfl) (Nat.le_of_ble_eq_true rfl) (Or.inl ⟨c_1, rfl, rfl⟩) dX10_in_15
  · refine lv_iload_n hx hb dX10_in_5 rfl (lv_at hl 0 rfl) ?_
    refine lv_iload_n hx hb dX10_in_6 rfl (lv_at hl 2 rfl) ?_
    refine lv_icmp_gt (tgt := 14) hx hb dX10_in_7 (by decide) (fun c_2 => ?_) (fun c_2 => ?_)
    · refine lv_iconst (v := 0) hx hb dX10_in_14 (by decide) ?_
      exact q_ri hf hr rfl hlocks hK hP hD hS [] [] (w1 := []) (t1 := []) rfl (by decide) rfl (Nat.le_of_ble_eq_true rfl) (Nat.le_of_ble_eq_true rfl) (Or.inr (Or.inl ⟨c_1, c_2, rfl, rfl⟩)) dX10_in_15
    · refine lv_iconst (v := 1) hx hb dX10_in_10 (by decide) ?_
      refine lv_goto (tgt := 15) hx hb dX10_in_11 (by decide) ?_
      exact q_ri hf hr rfl hlocks hK hP hD hS [] [] (w1 := []) (t1 := []) rfl (by decide) rfl (Nat.le_of_ble_eq_true rfl) (Nat.le_of_ble_eq_true rfl) (Or.inr (Or.inr ⟨c_1, c_2, rfl, rfl⟩)) dX10_in_15
abbrev cX8_hasRoomFor : ByteArray := prog_10_method_3_code
def yX8_hasRoomFor : MethodName := ⟨RX8, "hasRoomFor", "(I)Z"⟩
theorem k_470 : (Cond.methodLink RX9 85 yX8_hasRoomFor) ∈ gT := gT_i 470 (by decide +kernel) rfl
theorem k_471 : (Cond.instanceMethod yX8_hasRoomFor) ∈ gT := gT_i 471 (by decide +kernel) rfl
theorem k_472 : (Cond.selects RX8 yX8_hasRoomFor yX8_hasRoomFor) ∈ gT := gT_i 472 (by decide +kernel) rfl
theorem k_473 : (Cond.code yX8_hasRoomFor cX8_hasRoomFor 2 (some .boolean)) ∈ gT := gT_i 473 (by decide +kernel) rfl
theorem dX9_feed_0 : decode cX9_feed 0 = .ok (.iload_n 3, 1) := by decide +kernel
theorem dX9_feed_1 : decode cX9_feed 1 = .ok (.iconst 1, 1) := by decide +kernel
theorem dX9_feed_2 : decode cX9_feed 2 = .ok (.if_icmp .lt 9, 3) := by decide +kernel
theorem dX9_feed_11 : decode cX9_feed 11 = .ok (.bipush (-2), 2) := by decide +kernel
theorem dX9_feed_13 : decode cX9_feed 13 = .ok (.ireturn, 1) := by decide +kernel
theorem dX9_feed_5 : decode cX9_feed 5 = .ok (.iload_n 3, 1) := by decide +kernel
theorem dX9_feed_6 : decode cX9_feed 6 = .ok (.bipush 8, 2) := by decide +kernel
theorem dX9_feed_8 : decode cX9_feed 8 = .ok (.if_icmp .le 6, 3) := by decide +kernel
theorem dX9_feed_14 : decode cX9_feed 14 = .ok (.aload_n 0, 1) := by decide +kernel
theorem dX9_feed_15 : decode cX9_feed 15 = .ok (.getfield 10, 3) := by decide +kernel
theorem dX9_feed_18 : decode cX9_feed 18 = .ok (.iload_n 3, 1) := by decide +kernel
theorem dX9_feed_19 : decode cX9_feed 19 = .ok (.invokevirtual 85, 3) := by decide +kernel
theorem dX8_hasRoomFor_0 : decode cX8_hasRoomFor 0 = .ok (.aload_n 0, 1) := by decide +kernel
theorem dX8_hasRoomFor_1 : decode cX8_hasRoomFor 1 = .ok (.getfield 13, 3) := by decide +kernel
theorem dX8_hasRoomFor_4 : decode cX8_hasRoomFor 4 = .ok (.sipush 1200, 3) := by decide +kernel
theorem dX8_hasRoomFor_7 : decode cX8_hasRoomFor 7 = .ok (.iload_n 1, 1) := by decide +kernel
theorem dX8_hasRoomFor_8 : decode cX8_hasRoomFor 8 = .ok (.isub, 1) := by decide +kernel
theorem dX8_hasRoomFor_9 : decode cX8_hasRoomFor 9 = .ok (.if_icmp .gt 7, 3) := by decide +kernel
theorem dX8_hasRoomFor_16 : decode cX8_hasRoomFor 16 = .ok (.iconst 0, 1) := by decide +kernel
theorem dX8_hasRoomFor_17 : decode cX8_hasRoomFor 17 = .ok (.ireturn, 1) := by decide +kernel
theorem dX8_hasRoomFor_12 : decode cX8_hasRoomFor 12 = .ok (.iconst 1, 1) := by decide +kernel
theorem dX8_hasRoomFor_13 : decode cX8_hasRoomFor 13 = .ok (.goto 4, 3) := by decide +kernel
theorem dX9_feed_22 : decode cX9_feed 22 = .ok (.ifCond .ne 6, 3) := by decide +kernel
theorem dX9_feed_25 : decode cX9_feed 25 = .ok (.bipush (-4), 2) := by decide +kernel
theorem dX9_feed_27 : decode cX9_feed 27 = .ok (.ireturn, 1) := by decide +kernel
theorem dX9_feed_28 : decode cX9_feed 28 = .ok (.iload_n 3, 1) := by decide +kernel
theorem dX9_feed_29 : decode cX9_feed 29 = .ok (.iconst 1, 1) := by decide +kernel
theorem dX9_feed_30 : decode cX9_feed 30 = .ok (.isub, 1) := by decide +kernel
theorem dX9_feed_31 : decode cX9_feed 31 = .ok (.istore 4, 2) := by decide +kernel
theorem dX9_feed_63 : decode cX9_feed 63 = .ok (.aload_n 0, 1) := by decide +kernel
theorem dX9_feed_64 : decode cX9_feed 64 = .ok (.getfield 10, 3) := by decide +kernel
theorem dX9_feed_67 : decode cX9_feed 67 = .ok (.invokevirtual 93, 3) := by decide +kernel
theorem dX9_feed_70 : decode cX9_feed 70 = .ok (.ireturn, 1) := by decide +kernel
theorem dX10_feed_0 : decode cX10_feed 0 = .ok (.iload_n 3, 1) := by decide +kernel
theorem dX10_feed_1 : decode cX10_feed 1 = .ok (.iconst 1, 1) := by decide +kernel
theorem dX10_feed_2 : decode cX10_feed 2 = .ok (.bipush 8, 2) := by decide +kernel
theorem dX10_feed_4 : decode cX10_feed 4 = .ok (.invokestatic 119, 3) := by decide +kernel
theorem dX10_feed_7 : decode cX10_feed 7 = .ok (.ifCond .ne 6, 3) := by decide +kernel
theorem dX10_feed_10 : decode cX10_feed 10 = .ok (.bipush (-2), 2) := by decide +kernel
theorem dX10_feed_12 : decode cX10_feed 12 = .ok (.ireturn, 1) := by decide +kernel
theorem dX10_feed_13 : decode cX10_feed 13 = .ok (.aload_n 0, 1) := by decide +kernel
theorem dX10_feed_14 : decode cX10_feed 14 = .ok (.getfield 123, 3) := by decide +kernel
theorem dX10_feed_17 : decode cX10_feed 17 = .ok (.sipush 1200, 3) := by decide +kernel
theorem dX10_feed_20 : decode cX10_feed 20 = .ok (.iload_n 3, 1) := by decide +kernel
theorem dX10_feed_21 : decode cX10_feed 21 = .ok (.isub, 1) := by decide +kernel
theorem dX10_feed_22 : decode cX10_feed 22 = .ok (.if_icmp .le 6, 3) := by decide +kernel
theorem dX10_feed_28 : decode cX10_feed 28 = .ok (.iload_n 3, 1) := by decide +kernel
theorem dX10_feed_29 : decode cX10_feed 29 = .ok (.iconst 1, 1) := by decide +kernel
theorem dX10_feed_30 : decode cX10_feed 30 = .ok (.isub, 1) := by decide +kernel
theorem dX10_feed_31 : decode cX10_feed 31 = .ok (.istore 4, 2) := by decide +kernel
theorem dX10_feed_99 : decode cX10_feed 99 = .ok (.aload_n 0, 1) := by decide +kernel
theorem dX10_feed_100 : decode cX10_feed 100 = .ok (.getfield 123, 3) := by decide +kernel
theorem dX10_feed_103 : decode cX10_feed 103 = .ok (.ireturn, 1) := by decide +kernel
theorem dX10_feed_25 : decode cX10_feed 25 = .ok (.bipush (-4), 2) := by decide +kernel
theorem dX10_feed_27 : decode cX10_feed 27 = .ok (.ireturn, 1) := by decide +kernel
