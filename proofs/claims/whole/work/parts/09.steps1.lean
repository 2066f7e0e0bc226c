/-! the JDK's floorMod and floorDiv; Steps: its simple methods -/
abbrev rm_J9_floorMod_7cf53 : Room := { frames := 0, cells := 0, slots := 0, locals := 0 }
set_option maxHeartbeats 4000000 in
set_option maxRecDepth 100000 in
theorem ct_J9_floorMod_7cf53 (l : Launch) (D : va_G) (cyI cyZ : ClassId) (sz : Nat) (x y : Int32) (hy : ¬ y = 0) : Met l yJ9_floorMod_7cf53 wsJ9_floorMod_7cf53 rm_J9_floorMod_7cf53 (xk_Pc D cyI cyZ [.int x, .int y] [] sz) (xk_Qi D (va_A [] sz) (fmI x y) []) 0 0 (va_A [] sz) := by
  refine xk_ofF (own := RJ9) (cc := cJ9_floorMod_7cf53) (maxL := 3) (ret := (some .int)) (Qc := fun A => xk_Qi D A (fmI x y) []) (by decide +kernel) rfl rfl (Nat.le_of_ble_eq_true rfl) ?_
  intro p e s m below meth c A ls hx hb hr hml hown hlocks hin hts hA hP hK hN hD hS hl
  have hC0 := xk_fix hx hb hml hown hts
  have hl : lv_has ls 3 [(0, .int x), (1, .int y)] := hl
  refine lv_iload_n hx hb dJ9_floorMod_7cf53_0 rfl (lv_at hl 0 rfl) ?_
  refine lv_iload_n hx hb dJ9_floorMod_7cf53_1 rfl (lv_at hl 1 rfl) ?_
  refine lv_irem hx hb dJ9_floorMod_7cf53_2 (hy) ?_
  refine lv_istore_n (lv' := [(2, .int (x - x / y * y)), (0, .int x), (1, .int y)]) hx hb dJ9_floorMod_7cf53_3 rfl hl (by decide) rfl (fun ls hl => ?_)
  refine lv_iload_n hx hb dJ9_floorMod_7cf53_4 rfl (lv_at hl 1 rfl) ?_
  refine lv_iload_n hx hb dJ9_floorMod_7cf53_5 rfl (lv_at hl 2 rfl) ?_
  refine lv_ixor hx hb dJ9_floorMod_7cf53_6 ?_
  refine lv_if_ge (tgt := 18) hx hb dJ9_floorMod_7cf53_7 (by decide) (fun c_7 => ?_) (fun c_7 => ?_)
  · refine lv_iload_n hx hb dJ9_floorMod_7cf53_18 rfl (lv_at hl 0 rfl) ?_
    exact xk_iret hx hb hr hlocks hP hD hS (by simp [fmI, c_7]) (rfl) dJ9_floorMod_7cf53_19
  · refine lv_iload_n hx hb dJ9_floorMod_7cf53_10 rfl (lv_at hl 0 rfl) ?_
    refine lv_if_eq (tgt := 18) hx hb dJ9_floorMod_7cf53_11 (by decide) (fun c_11 => ?_) (fun c_11 => ?_)
    · refine lv_iload_n hx hb dJ9_floorMod_7cf53_18 rfl (lv_at hl 0 rfl) ?_
      exact xk_iret hx hb hr hlocks hP hD hS (by simp [fmI, c_7, c_11]) (rfl) dJ9_floorMod_7cf53_19
    · refine lv_iload_n hx hb dJ9_floorMod_7cf53_14 rfl (lv_at hl 0 rfl) ?_
      refine lv_iload_n hx hb dJ9_floorMod_7cf53_15 rfl (lv_at hl 2 rfl) ?_
      refine lv_iadd hx hb dJ9_floorMod_7cf53_16 ?_
      exact xk_iret hx hb hr hlocks hP hD hS (by simp [fmI, c_7, c_11]) (rfl) dJ9_floorMod_7cf53_17

abbrev rm_J9_floorDiv_7cf53 : Room := { frames := 0, cells := 0, slots := 0, locals := 0 }
set_option maxHeartbeats 4000000 in
set_option maxRecDepth 100000 in
theorem ct_J9_floorDiv_7cf53 (l : Launch) (D : va_G) (cyI cyZ : ClassId) (sz : Nat) (x y : Int32) (hy : ¬ y = 0) : Met l yJ9_floorDiv_7cf53 wsJ9_floorDiv_7cf53 rm_J9_floorDiv_7cf53 (xk_Pc D cyI cyZ [.int x, .int y] [] sz) (xk_Qi D (va_A [] sz) (fdI x y) []) 0 0 (va_A [] sz) := by
  refine xk_ofF (own := RJ9) (cc := cJ9_floorDiv_7cf53) (maxL := 3) (ret := (some .int)) (Qc := fun A => xk_Qi D A (fdI x y) []) (by decide +kernel) rfl rfl (Nat.le_of_ble_eq_true rfl) ?_
  intro p e s m below meth c A ls hx hb hr hml hown hlocks hin hts hA hP hK hN hD hS hl
  have hC0 := xk_fix hx hb hml hown hts
  have hl : lv_has ls 3 [(0, .int x), (1, .int y)] := hl
  refine lv_iload_n hx hb dJ9_floorDiv_7cf53_0 rfl (lv_at hl 0 rfl) ?_
  refine lv_iload_n hx hb dJ9_floorDiv_7cf53_1 rfl (lv_at hl 1 rfl) ?_
  refine lv_idiv hx hb dJ9_floorDiv_7cf53_2 (hy) ?_
  refine lv_istore_n (lv' := [(2, .int (x / y)), (0, .int x), (1, .int y)]) hx hb dJ9_floorDiv_7cf53_3 rfl hl (by decide) rfl (fun ls hl => ?_)
  refine lv_iload_n hx hb dJ9_floorDiv_7cf53_4 rfl (lv_at hl 1 rfl) ?_
  refine lv_iload_n hx hb dJ9_floorDiv_7cf53_5 rfl (lv_at hl 2 rfl) ?_
  refine lv_ixor hx hb dJ9_floorDiv_7cf53_6 ?_
  refine lv_if_ge (tgt := 21) hx hb dJ9_floorDiv_7cf53_7 (by decide) (fun c_7 => ?_) (fun c_7 => ?_)
  · refine lv_iload_n hx hb dJ9_floorDiv_7cf53_21 rfl (lv_at hl 0 rfl) ?_
    exact xk_iret hx hb hr hlocks hP hD hS (by simp [fdI, c_7]) (rfl) dJ9_floorDiv_7cf53_22
  · refine lv_iload_n hx hb dJ9_floorDiv_7cf53_10 rfl (lv_at hl 0 rfl) ?_
    refine lv_iload_n hx hb dJ9_floorDiv_7cf53_11 rfl (lv_at hl 2 rfl) ?_
    refine lv_imul hx hb dJ9_floorDiv_7cf53_12 ?_
    refine lv_iload_n hx hb dJ9_floorDiv_7cf53_13 rfl (lv_at hl 1 rfl) ?_
    refine lv_icmp_eq (tgt := 21) hx hb dJ9_floorDiv_7cf53_14 (by decide) (fun c_14 => ?_) (fun c_14 => ?_)
    · refine lv_iload_n hx hb dJ9_floorDiv_7cf53_21 rfl (lv_at hl 0 rfl) ?_
      exact xk_iret hx hb hr hlocks hP hD hS (by simp [fdI, c_7, c_14]) (rfl) dJ9_floorDiv_7cf53_22
    · refine lv_iload_n hx hb dJ9_floorDiv_7cf53_17 rfl (lv_at hl 0 rfl) ?_
      refine lv_iconst (v := 1) hx hb dJ9_floorDiv_7cf53_18 (by decide) ?_
      refine lv_isub hx hb dJ9_floorDiv_7cf53_19 ?_
      exact xk_iret hx hb hr hlocks hP hD hS (by simp [fdI, c_7, c_14]) (rfl) dJ9_floorDiv_7cf53_20

abbrev rm_X4_within : Room := { frames := 1, cells := 0, slots := 0, locals := 22 }
set_option maxHeartbeats 4000000 in
set_option maxRecDepth 100000 in
theorem ct_X4_within (l : Launch) (D : va_G) (cyI cyZ : ClassId) (sz : Nat) (x : Int32) (dv : Nat) (hd1 : 1 ≤ dv) (hd2 : dv < 2 ^ 31) : Met l yX4_within wsX4_within rm_X4_within (xk_Pc D cyI cyZ [.int x, .int (nI dv)] [] sz) (xk_Qi D (va_A [] sz) (fmI x (nI dv)) []) 0 0 (va_A [] sz) := by
  refine xk_of (own := RX4) (cc := cX4_within) (maxL := 2) (ret := (some .int)) (Qc := fun A => xk_Qi D A (fmI x (nI dv)) []) (by decide) rfl rfl (Nat.le_of_ble_eq_true rfl) ?_
  intro p e s m below meth c A ls hx hb hr hml hown hlocks hin hts hA hP hK hN hD hS hl
  have hC0 := xk_fix hx hb hml hown hts
  have hl : lv_has ls 2 [(0, .int x), (1, .int (nI dv))] := hl
  refine lv_iload_n hx hb dX4_within_0 rfl (lv_at hl 1 rfl) ?_
  refine lv_iconst (v := 1) hx hb dX4_within_1 (by decide) ?_
  refine lv_icmp_ge (tgt := 9) hx hb dX4_within_2 (by decide) (fun c_2 => ?_) (fun c_2 => xk_ba c_2 (nI_le (a := 1) hd1 hd2))
  refine lv_iload_n hx hb dX4_within_9 rfl (lv_at hl 0 rfl) ?_
  refine lv_iload_n hx hb dX4_within_10 rfl (lv_at hl 1 rfl) ?_
  have hPc := hP.sub (ws' := []) [] rfl
  have hDc := hD.sub (ws' := []) [] (by decide) rfl
  refine xk_calli (wr := []) (w2 := []) (va_runS (As := [.int x, .int (nI dv)]) (rest := []) hC0 (ct_J9_floorMod_7cf53 l D cyI cyZ  _ x (nI dv) (nI_ne0 hd1 hd2)) (va_cwS 2 hts gX4_within_J9_floorMod_7cf53 rfl rfl rfl (by decide +kernel) ⟨Nat.le_of_ble_eq_true rfl, Nat.le_of_ble_eq_true rfl⟩) ⟨xk_blind, xk_pre hK hN hPc hDc⟩ rfl rfl hl.1 rfl (lv_room (Nat.le_of_ble_eq_true rfl)) dX4_within_11 ⟨Nat.le_of_ble_eq_true rfl, Nat.le_of_ble_eq_true rfl⟩) hP hD hS hA [] [] [] rfl rfl (by decide) (by decide) rfl (by decide) (fun H locs hP hD hS => ?_)
  exact xk_iret hx hb hr hlocks hP hD hS (rfl) (rfl) dX4_within_14

abbrev rm_X4_isGrey : Room := { frames := 0, cells := 0, slots := 0, locals := 0 }
set_option maxHeartbeats 4000000 in
set_option maxRecDepth 100000 in
theorem ct_X4_isGrey (l : Launch) (D : va_G) (cyI cyZ : ClassId) (sz : Nat) (x : Int32)  : Met l yX4_isGrey wsX4_isGrey rm_X4_isGrey (xk_Pc D cyI cyZ [.int x] [] sz) (xk_Qi D (va_A [] sz) (bI (¬ x < 0 ∧ ¬ 255 < x)) []) 0 0 (va_A [] sz) := by
  refine xk_of (own := RX4) (cc := cX4_isGrey) (maxL := 1) (ret := (some .boolean)) (Qc := fun A => xk_Qi D A (bI (¬ x < 0 ∧ ¬ 255 < x)) []) (by decide) rfl rfl (Nat.le_of_ble_eq_true rfl) ?_
  intro p e s m below meth c A ls hx hb hr hml hown hlocks hin hts hA hP hK hN hD hS hl
  have hC0 := xk_fix hx hb hml hown hts
  have hl : lv_has ls 1 [(0, .int x)] := hl
  refine lv_iload_n hx hb dX4_isGrey_0 rfl (lv_at hl 0 rfl) ?_
  refine lv_if_lt (tgt := 15) hx hb dX4_isGrey_1 (by decide) (fun c_1 => ?_) (fun c_1 => ?_)
  · refine lv_iconst (v := 0) hx hb dX4_isGrey_15 (by decide) ?_
    exact xk_zret hx hb hr hlocks hP hD hS (bI_0 (fun h => by first | exact absurd c_1 h.1 | exact c_1 h.1)) (rfl) (bI_nar _) dX4_isGrey_16
  · refine lv_iload_n hx hb dX4_isGrey_4 rfl (lv_at hl 0 rfl) ?_
    refine lv_sipush (v := 255) hx hb dX4_isGrey_5 (by decide) ?_
    refine lv_icmp_gt (tgt := 15) hx hb dX4_isGrey_8 (by decide) (fun c_8 => ?_) (fun c_8 => ?_)
    · refine lv_iconst (v := 0) hx hb dX4_isGrey_15 (by decide) ?_
      exact xk_zret hx hb hr hlocks hP hD hS (bI_0 (fun h => by first | exact absurd c_8 h.2 | exact c_8 h.2)) (rfl) (bI_nar _) dX4_isGrey_16
    · refine lv_iconst (v := 1) hx hb dX4_isGrey_11 (by decide) ?_
      refine lv_goto (tgt := 16) hx hb dX4_isGrey_12 (by decide) ?_
      exact xk_zret hx hb hr hlocks hP hD hS (bI_1 ⟨c_1, c_8⟩) (rfl) (bI_nar _) dX4_isGrey_16

abbrev rm_X3_allows : Room := { frames := 0, cells := 0, slots := 0, locals := 0 }
set_option maxHeartbeats 4000000 in
set_option maxRecDepth 100000 in
theorem ct_X3_allows (l : Launch) (D : va_G) (cyI cyZ : ClassId) (sz : Nat) (x : Int32)  : Met l yX3_allows wsX3_allows rm_X3_allows (xk_Pc D cyI cyZ [.int x] [] sz) (xk_Qi D (va_A [] sz) (bI (¬ x < 1 ∧ ¬ 8 < x)) []) 0 0 (va_A [] sz) := by
  refine xk_of (own := RX3) (cc := cX3_allows) (maxL := 1) (ret := (some .boolean)) (Qc := fun A => xk_Qi D A (bI (¬ x < 1 ∧ ¬ 8 < x)) []) (by decide) rfl rfl (Nat.le_of_ble_eq_true rfl) ?_
  intro p e s m below meth c A ls hx hb hr hml hown hlocks hin hts hA hP hK hN hD hS hl
  have hC0 := xk_fix hx hb hml hown hts
  have hl : lv_has ls 1 [(0, .int x)] := hl
  refine lv_iload_n hx hb dX3_allows_0 rfl (lv_at hl 0 rfl) ?_
  refine lv_iconst (v := 1) hx hb dX3_allows_1 (by decide) ?_
  refine lv_icmp_lt (tgt := 15) hx hb dX3_allows_2 (by decide) (fun c_2 => ?_) (fun c_2 => ?_)
  · refine lv_iconst (v := 0) hx hb dX3_allows_15 (by decide) ?_
    exact xk_zret hx hb hr hlocks hP hD hS (bI_0 (fun h => by first | exact absurd c_2 h.1 | exact c_2 h.1)) (rfl) (bI_nar _) dX3_allows_16
  · refine lv_iload_n hx hb dX3_allows_5 rfl (lv_at hl 0 rfl) ?_
    refine lv_bipush (v := 8) hx hb dX3_allows_6 (by decide) ?_
    refine lv_icmp_gt (tgt := 15) hx hb dX3_allows_8 (by decide) (fun c_8 => ?_) (fun c_8 => ?_)
    · refine lv_iconst (v := 0) hx hb dX3_allows_15 (by decide) ?_
      exact xk_zret hx hb hr hlocks hP hD hS (bI_0 (fun h => by first | exact absurd c_8 h.2 | exact c_8 h.2)) (rfl) (bI_nar _) dX3_allows_16
    · refine lv_iconst (v := 1) hx hb dX3_allows_11 (by decide) ?_
      refine lv_goto (tgt := 16) hx hb dX3_allows_12 (by decide) ?_
      exact xk_zret hx hb hr hlocks hP hD hS (bI_1 ⟨c_2, c_8⟩) (rfl) (bI_nar _) dX3_allows_16

abbrev rm_X3_side : Room := { frames := 0, cells := 0, slots := 0, locals := 0 }
theorem in_X3_side_X3 : ∀ w ∈ u_ws RX3 TX3 4, w ∈ wsX3_side := by decide +kernel
set_option maxHeartbeats 4000000 in
set_option maxRecDepth 100000 in
theorem ct_X3_side (l : Launch) (D : va_G) (cyI cyZ : ClassId) (t0 t1 t2 t3 : Nat) (sz : Nat) (nn : Nat) (nu sp ne : Nat → Int32)   : Met l yX3_side wsX3_side rm_X3_side (xk_Pc D cyI cyZ [.ref t0] [(t0, .inr (3, [.ref t1, .ref t2, .ref t3, .int (nI nn)])), (t1, .inl (cyI, 64, .inl nu)), (t2, .inl (cyI, 64, .inl sp)), (t3, .inl (cyI, 225, .inl ne))] sz) (xk_Qi D (va_A [(t0, .inr (3, [.ref t1, .ref t2, .ref t3, .int (nI nn)])), (t1, .inl (cyI, 64, .inl nu)), (t2, .inl (cyI, 64, .inl sp)), (t3, .inl (cyI, 225, .inl ne))] sz) (nI nn) [(t0, .inr (3, [.ref t1, .ref t2, .ref t3, .int (nI nn)])), (t1, .inl (cyI, 64, .inl nu)), (t2, .inl (cyI, 64, .inl sp)), (t3, .inl (cyI, 225, .inl ne))]) 0 0 (va_A [(t0, .inr (3, [.ref t1, .ref t2, .ref t3, .int (nI nn)])), (t1, .inl (cyI, 64, .inl nu)), (t2, .inl (cyI, 64, .inl sp)), (t3, .inl (cyI, 225, .inl ne))] sz) := by
  refine xk_of (own := RX3) (cc := cX3_side) (maxL := 1) (ret := (some .int)) (Qc := fun A => xk_Qi D A (nI nn) [(t0, .inr (3, [.ref t1, .ref t2, .ref t3, .int (nI nn)])), (t1, .inl (cyI, 64, .inl nu)), (t2, .inl (cyI, 64, .inl sp)), (t3, .inl (cyI, 225, .inl ne))]) (by decide) rfl rfl (Nat.le_of_ble_eq_true rfl) ?_
  intro p e s m below meth c A ls hx hb hr hml hown hlocks hin hts hA hP hK hN hD hS hl
  have hC0 := xk_fix hx hb hml hown hts
  have hl : lv_has ls 1 [(0, .ref t0)] := hl
  have hf25 := hts (.fieldLink RX3 25 "DotPress$Steps" "side" "I") (by decide +kernel)
  refine lv_aload_n hx hb dX3_side_0 rfl (lv_at hl 0 rfl) ?_
  refine va_get (D := D) (ci := 3) (v := .int (nI nn)) (C := RX3) (T := TX3) (N := 4) hx hb hts in_X3_side_X3 hown hK hP 0 rfl rfl 3 (by decide) hf25 (fun _ h9 => h9) rfl dX3_side_1 ?_
  exact xk_iret hx hb hr hlocks hP hD hS (rfl) (rfl) dX3_side_4

abbrev rm_X3_places : Room := { frames := 1, cells := 0, slots := 0, locals := 14 }
theorem in_X3_places_X3 : ∀ w ∈ u_ws RX3 TX3 4, w ∈ wsX3_places := by decide +kernel
set_option maxHeartbeats 4000000 in
set_option maxRecDepth 100000 in
theorem ct_X3_places (l : Launch) (D : va_G) (cyI cyZ : ClassId) (t0 t1 t2 t3 : Nat) (sz : Nat) (nn : Nat) (nu sp ne : Nat → Int32)  (hn2 : nn ≤ 8) : Met l yX3_places wsX3_places rm_X3_places (xk_Pc D cyI cyZ [.ref t0] [(t0, .inr (3, [.ref t1, .ref t2, .ref t3, .int (nI nn)])), (t1, .inl (cyI, 64, .inl nu)), (t2, .inl (cyI, 64, .inl sp)), (t3, .inl (cyI, 225, .inl ne))] sz) (xk_Qi D (va_A [(t0, .inr (3, [.ref t1, .ref t2, .ref t3, .int (nI nn)])), (t1, .inl (cyI, 64, .inl nu)), (t2, .inl (cyI, 64, .inl sp)), (t3, .inl (cyI, 225, .inl ne))] sz) (nI (nn * nn)) [(t0, .inr (3, [.ref t1, .ref t2, .ref t3, .int (nI nn)])), (t1, .inl (cyI, 64, .inl nu)), (t2, .inl (cyI, 64, .inl sp)), (t3, .inl (cyI, 225, .inl ne))]) 0 0 (va_A [(t0, .inr (3, [.ref t1, .ref t2, .ref t3, .int (nI nn)])), (t1, .inl (cyI, 64, .inl nu)), (t2, .inl (cyI, 64, .inl sp)), (t3, .inl (cyI, 225, .inl ne))] sz) := by
  refine xk_of (own := RX3) (cc := cX3_places) (maxL := 1) (ret := (some .int)) (Qc := fun A => xk_Qi D A (nI (nn * nn)) [(t0, .inr (3, [.ref t1, .ref t2, .ref t3, .int (nI nn)])), (t1, .inl (cyI, 64, .inl nu)), (t2, .inl (cyI, 64, .inl sp)), (t3, .inl (cyI, 225, .inl ne))]) (by decide) rfl rfl (Nat.le_of_ble_eq_true rfl) ?_
  intro p e s m below meth c A ls hx hb hr hml hown hlocks hin hts hA hP hK hN hD hS hl
  have hC0 := xk_fix hx hb hml hown hts
  have hl : lv_has ls 1 [(0, .ref t0)] := hl
  have hf11 := hts (.fieldLink RX3 11 "DotPress$Steps" "numbers" "[I") (by decide +kernel)
  have hf15 := hts (.fieldLink RX3 15 "DotPress$Steps" "spots" "[I") (by decide +kernel)
  have hf25 := hts (.fieldLink RX3 25 "DotPress$Steps" "side" "I") (by decide +kernel)
  refine lv_aload_n hx hb dX3_places_0 rfl (lv_at hl 0 rfl) ?_
  refine va_get (D := D) (ci := 3) (v := .int (nI nn)) (C := RX3) (T := TX3) (N := 4) hx hb hts in_X3_places_X3 hown hK hP 0 rfl rfl 3 (by decide) hf25 (fun _ h9 => h9) rfl dX3_places_1 ?_
  refine lv_aload_n hx hb dX3_places_4 rfl (lv_at hl 0 rfl) ?_
  refine va_get (D := D) (ci := 3) (v := .int (nI nn)) (C := RX3) (T := TX3) (N := 4) hx hb hts in_X3_places_X3 hown hK hP 0 rfl rfl 3 (by decide) hf25 (fun _ h9 => h9) rfl dX3_places_5 ?_
  refine lv_imul hx hb dX3_places_8 ?_
  refine xk_topi (y := nI (nn * nn)) (pk_mul _ _) ?_
  refine lv_aload_n hx hb dX3_places_9 rfl (lv_at hl 0 rfl) ?_
  refine va_get (D := D) (ci := 3) (v := .ref t1) (C := RX3) (T := TX3) (N := 4) hx hb hts in_X3_places_X3 hown hK hP 0 rfl rfl 0 (by decide) hf11 (fun _ h9 => h9) rfl dX3_places_10 ?_
  refine va_alen (v := nI 64) hx hb hK hP 1 0 rfl rfl rfl dX3_places_13 ?_
  refine lv_aload_n hx hb dX3_places_14 rfl (lv_at hl 0 rfl) ?_
  refine va_get (D := D) (ci := 3) (v := .ref t2) (C := RX3) (T := TX3) (N := 4) hx hb hts in_X3_places_X3 hown hK hP 0 rfl rfl 1 (by decide) hf15 (fun _ h9 => h9) rfl dX3_places_15 ?_
  refine va_alen (v := nI 64) hx hb hK hP 2 0 rfl rfl rfl dX3_places_18 ?_
  refine va_mmin hx hb (hml.trans hl.1.symm) hown (hts (.methodLink RX3 43 Lib.Math.min.name) (by decide +kernel)) (hts (.static Lib.Math.min.name) (by decide +kernel)) (hts (.initialized "java/lang/Math") (by decide +kernel)) (hts (.code Lib.Math.min.name Lib.Math.min.code 2 (some .int)) (by decide +kernel)) (Nat.le_of_ble_eq_true rfl) (Nat.le_of_ble_eq_true rfl) (Nat.zero_le _) (Nat.zero_le _) dX3_places_19 ?_
  refine xk_topi (y := nI 64) (by split <;> rfl) ?_
  refine va_mmin hx hb (hml.trans hl.1.symm) hown (hts (.methodLink RX3 43 Lib.Math.min.name) (by decide +kernel)) (hts (.static Lib.Math.min.name) (by decide +kernel)) (hts (.initialized "java/lang/Math") (by decide +kernel)) (hts (.code Lib.Math.min.name Lib.Math.min.code 2 (some .int)) (by decide +kernel)) (Nat.le_of_ble_eq_true rfl) (Nat.le_of_ble_eq_true rfl) (Nat.zero_le _) (Nat.zero_le _) dX3_places_22 ?_
  refine xk_topi (y := nI (nn * nn)) (if_neg (nI_nlt (nn_64 hn2) (by decide))) ?_
  exact xk_iret hx hb hr hlocks hP hD hS (rfl) (rfl) dX3_places_25

abbrev rm_X3_has : Room := { frames := 2, cells := 0, slots := 0, locals := 34 }
set_option maxHeartbeats 4000000 in
set_option maxRecDepth 100000 in
theorem ct_X3_has (l : Launch) (D : va_G) (cyI cyZ : ClassId) (t0 t1 t2 t3 : Nat) (sz : Nat) (nn : Nat) (nu sp ne : Nat → Int32) (x : Int32) (hn2 : nn ≤ 8) : Met l yX3_has wsX3_has rm_X3_has (xk_Pc D cyI cyZ [.ref t0, .int x] [(t0, .inr (3, [.ref t1, .ref t2, .ref t3, .int (nI nn)])), (t1, .inl (cyI, 64, .inl nu)), (t2, .inl (cyI, 64, .inl sp)), (t3, .inl (cyI, 225, .inl ne))] sz) (xk_Qi D (va_A [(t0, .inr (3, [.ref t1, .ref t2, .ref t3, .int (nI nn)])), (t1, .inl (cyI, 64, .inl nu)), (t2, .inl (cyI, 64, .inl sp)), (t3, .inl (cyI, 225, .inl ne))] sz) (bI (st_has nn x)) [(t0, .inr (3, [.ref t1, .ref t2, .ref t3, .int (nI nn)])), (t1, .inl (cyI, 64, .inl nu)), (t2, .inl (cyI, 64, .inl sp)), (t3, .inl (cyI, 225, .inl ne))]) 0 0 (va_A [(t0, .inr (3, [.ref t1, .ref t2, .ref t3, .int (nI nn)])), (t1, .inl (cyI, 64, .inl nu)), (t2, .inl (cyI, 64, .inl sp)), (t3, .inl (cyI, 225, .inl ne))] sz) := by
  refine xk_of (own := RX3) (cc := cX3_has) (maxL := 2) (ret := (some .boolean)) (Qc := fun A => xk_Qi D A (bI (st_has nn x)) [(t0, .inr (3, [.ref t1, .ref t2, .ref t3, .int (nI nn)])), (t1, .inl (cyI, 64, .inl nu)), (t2, .inl (cyI, 64, .inl sp)), (t3, .inl (cyI, 225, .inl ne))]) (by decide) rfl rfl (Nat.le_of_ble_eq_true rfl) ?_
  intro p e s m below meth c A ls hx hb hr hml hown hlocks hin hts hA hP hK hN hD hS hl
  have hC0 := xk_fix hx hb hml hown hts
  have hl : lv_has ls 2 [(0, .ref t0), (1, .int x)] := hl
  refine lv_iload_n hx hb dX3_has_0 rfl (lv_at hl 1 rfl) ?_
  refine lv_if_lt (tgt := 16) hx hb dX3_has_1 (by decide) (fun c_1 => ?_) (fun c_1 => ?_)
  · refine lv_iconst (v := 0) hx hb dX3_has_16 (by decide) ?_
    exact xk_zret hx hb hr hlocks hP hD hS (bI_0 (fun h => by first | exact absurd c_1 h.1 | exact c_1 h.1)) (rfl) (bI_nar _) dX3_has_17
  · refine lv_iload_n hx hb dX3_has_4 rfl (lv_at hl 1 rfl) ?_
    refine lv_aload_n hx hb dX3_has_5 rfl (lv_at hl 0 rfl) ?_
    have hPc := hP.sub (ws' := [(t0, .inr (3, [.ref t1, .ref t2, .ref t3, .int (nI nn)])), (t1, .inl (cyI, 64, .inl nu)), (t2, .inl (cyI, 64, .inl sp)), (t3, .inl (cyI, 225, .inl ne))]) [0, 1, 2, 3] rfl
    have hDc := hD.sub (ws' := [(t0, .inr (3, [.ref t1, .ref t2, .ref t3, .int (nI nn)])), (t1, .inl (cyI, 64, .inl nu)), (t2, .inl (cyI, 64, .inl sp)), (t3, .inl (cyI, 225, .inl ne))]) [0, 1, 2, 3] (by decide) rfl
    refine xk_calli (wr := []) (w2 := [(t0, .inr (3, [.ref t1, .ref t2, .ref t3, .int (nI nn)])), (t1, .inl (cyI, 64, .inl nu)), (t2, .inl (cyI, 64, .inl sp)), (t3, .inl (cyI, 225, .inl ne))]) (va_runV (As := []) (rest := [.int x]) hC0 (ct_X3_places l D cyI cyZ t0 t1 t2 t3 _ nn nu sp ne (by first | assumption | omega)) (cwV 0 hts gX3_has_X3_places rfl rfl rfl (by decide +kernel) ⟨Nat.le_of_ble_eq_true rfl, Nat.le_of_ble_eq_true rfl⟩) ⟨xk_blind, va_recv hK hPc (ci := 3) (q0 := 0) rfl rfl, xk_pre hK hN hPc hDc⟩ rfl rfl hl.1 rfl (lv_room (Nat.le_of_ble_eq_true rfl)) dX3_has_6 ⟨Nat.le_of_ble_eq_true rfl, Nat.le_of_ble_eq_true rfl⟩) hP hD hS hA [0, 1, 2, 3] [] [0, 1, 2, 3] rfl rfl (by decide) (by decide) rfl (by decide) (fun H locs hP hD hS => ?_)
    refine lv_icmp_ge (tgt := 16) hx hb dX3_has_9 (by decide) (fun c_9 => ?_) (fun c_9 => ?_)
    · refine lv_iconst (v := 0) hx hb dX3_has_16 (by decide) ?_
      exact xk_zret hx hb hr hlocks hP hD hS (bI_0 (fun h => by first | exact absurd c_9 h.2 | exact c_9 h.2)) (rfl) (bI_nar _) dX3_has_17
    · refine lv_iconst (v := 1) hx hb dX3_has_12 (by decide) ?_
      refine lv_goto (tgt := 17) hx hb dX3_has_13 (by decide) ?_
      exact xk_zret hx hb hr hlocks hP hD hS (bI_1 ⟨c_1, c_9⟩) (rfl) (bI_nar _) dX3_has_17

abbrev rm_X3_hasPair : Room := { frames := 3, cells := 0, slots := 0, locals := 55 }
set_option maxHeartbeats 4000000 in
set_option maxRecDepth 100000 in
theorem ct_X3_hasPair (l : Launch) (D : va_G) (cyI cyZ : ClassId) (t0 t1 t2 t3 : Nat) (sz : Nat) (nn : Nat) (nu sp ne : Nat → Int32) (x y : Int32) (hn2 : nn ≤ 8) : Met l yX3_hasPair wsX3_hasPair rm_X3_hasPair (xk_Pc D cyI cyZ [.ref t0, .int x, .int y] [(t0, .inr (3, [.ref t1, .ref t2, .ref t3, .int (nI nn)])), (t1, .inl (cyI, 64, .inl nu)), (t2, .inl (cyI, 64, .inl sp)), (t3, .inl (cyI, 225, .inl ne))] sz) (xk_Qi D (va_A [(t0, .inr (3, [.ref t1, .ref t2, .ref t3, .int (nI nn)])), (t1, .inl (cyI, 64, .inl nu)), (t2, .inl (cyI, 64, .inl sp)), (t3, .inl (cyI, 225, .inl ne))] sz) (bI (st_pair nn x y)) [(t0, .inr (3, [.ref t1, .ref t2, .ref t3, .int (nI nn)])), (t1, .inl (cyI, 64, .inl nu)), (t2, .inl (cyI, 64, .inl sp)), (t3, .inl (cyI, 225, .inl ne))]) 0 0 (va_A [(t0, .inr (3, [.ref t1, .ref t2, .ref t3, .int (nI nn)])), (t1, .inl (cyI, 64, .inl nu)), (t2, .inl (cyI, 64, .inl sp)), (t3, .inl (cyI, 225, .inl ne))] sz) := by
  refine xk_of (own := RX3) (cc := cX3_hasPair) (maxL := 3) (ret := (some .boolean)) (Qc := fun A => xk_Qi D A (bI (st_pair nn x y)) [(t0, .inr (3, [.ref t1, .ref t2, .ref t3, .int (nI nn)])), (t1, .inl (cyI, 64, .inl nu)), (t2, .inl (cyI, 64, .inl sp)), (t3, .inl (cyI, 225, .inl ne))]) (by decide) rfl rfl (Nat.le_of_ble_eq_true rfl) ?_
  intro p e s m below meth c A ls hx hb hr hml hown hlocks hin hts hA hP hK hN hD hS hl
  have hC0 := xk_fix hx hb hml hown hts
  have hl : lv_has ls 3 [(0, .ref t0), (1, .int x), (2, .int y)] := hl
  refine lv_aload_n hx hb dX3_hasPair_0 rfl (lv_at hl 0 rfl) ?_
  refine lv_iload_n hx hb dX3_hasPair_1 rfl (lv_at hl 1 rfl) ?_
  have hPc := hP.sub (ws' := [(t0, .inr (3, [.ref t1, .ref t2, .ref t3, .int (nI nn)])), (t1, .inl (cyI, 64, .inl nu)), (t2, .inl (cyI, 64, .inl sp)), (t3, .inl (cyI, 225, .inl ne))]) [0, 1, 2, 3] rfl
  have hDc := hD.sub (ws' := [(t0, .inr (3, [.ref t1, .ref t2, .ref t3, .int (nI nn)])), (t1, .inl (cyI, 64, .inl nu)), (t2, .inl (cyI, 64, .inl sp)), (t3, .inl (cyI, 225, .inl ne))]) [0, 1, 2, 3] (by decide) rfl
  refine xk_calli (wr := []) (w2 := [(t0, .inr (3, [.ref t1, .ref t2, .ref t3, .int (nI nn)])), (t1, .inl (cyI, 64, .inl nu)), (t2, .inl (cyI, 64, .inl sp)), (t3, .inl (cyI, 225, .inl ne))]) (va_runV (As := [.int x]) (rest := []) hC0 (ct_X3_has l D cyI cyZ t0 t1 t2 t3 _ nn nu sp ne x (by first | assumption | omega)) (cwV 1 hts gX3_hasPair_X3_has rfl rfl rfl (by decide +kernel) ⟨Nat.le_of_ble_eq_true rfl, Nat.le_of_ble_eq_true rfl⟩) ⟨xk_blind, va_recv hK hPc (ci := 3) (q0 := 0) rfl rfl, xk_pre hK hN hPc hDc⟩ rfl rfl hl.1 rfl (lv_room (Nat.le_of_ble_eq_true rfl)) dX3_hasPair_2 ⟨Nat.le_of_ble_eq_true rfl, Nat.le_of_ble_eq_true rfl⟩) hP hD hS hA [0, 1, 2, 3] [] [0, 1, 2, 3] rfl rfl (by decide) (by decide) rfl (by decide) (fun H locs hP hD hS => ?_)
  refine lv_if_eq (tgt := 25) hx hb dX3_hasPair_5 (by decide) (fun c_5 => ?_) (fun c_5 => ?_)
  · have c_5 := bI_z.mp c_5
    refine lv_iconst (v := 0) hx hb dX3_hasPair_25 (by decide) ?_
    exact xk_zret hx hb hr hlocks hP hD hS (bI_0 (fun h => by first | exact absurd c_5 h.1 | exact c_5 h.1)) (rfl) (bI_nar _) dX3_hasPair_26
  · have c_5 := bI_nz.mp c_5
    refine lv_aload_n hx hb dX3_hasPair_8 rfl (lv_at hl 0 rfl) ?_
    refine lv_iload_n hx hb dX3_hasPair_9 rfl (lv_at hl 2 rfl) ?_
    have hPc := hP.sub (ws' := [(t0, .inr (3, [.ref t1, .ref t2, .ref t3, .int (nI nn)])), (t1, .inl (cyI, 64, .inl nu)), (t2, .inl (cyI, 64, .inl sp)), (t3, .inl (cyI, 225, .inl ne))]) [0, 1, 2, 3] rfl
    have hDc := hD.sub (ws' := [(t0, .inr (3, [.ref t1, .ref t2, .ref t3, .int (nI nn)])), (t1, .inl (cyI, 64, .inl nu)), (t2, .inl (cyI, 64, .inl sp)), (t3, .inl (cyI, 225, .inl ne))]) [0, 1, 2, 3] (by decide) rfl
    refine xk_calli (wr := []) (w2 := [(t0, .inr (3, [.ref t1, .ref t2, .ref t3, .int (nI nn)])), (t1, .inl (cyI, 64, .inl nu)), (t2, .inl (cyI, 64, .inl sp)), (t3, .inl (cyI, 225, .inl ne))]) (va_runV (As := [.int y]) (rest := []) hC0 (ct_X3_has l D cyI cyZ t0 t1 t2 t3 _ nn nu sp ne y (by first | assumption | omega)) (cwV 1 hts gX3_hasPair_X3_has rfl rfl rfl (by decide +kernel) ⟨Nat.le_of_ble_eq_true rfl, Nat.le_of_ble_eq_true rfl⟩) ⟨xk_blind, va_recv hK hPc (ci := 3) (q0 := 0) rfl rfl, xk_pre hK hN hPc hDc⟩ rfl rfl hl.1 rfl (lv_room (Nat.le_of_ble_eq_true rfl)) dX3_hasPair_10 ⟨Nat.le_of_ble_eq_true rfl, Nat.le_of_ble_eq_true rfl⟩) hP hD hS hA [0, 1, 2, 3] [] [0, 1, 2, 3] rfl rfl (by decide) (by decide) rfl (by decide) (fun H locs hP hD hS => ?_)
    refine lv_if_eq (tgt := 25) hx hb dX3_hasPair_13 (by decide) (fun c_13 => ?_) (fun c_13 => ?_)
    · have c_13 := bI_z.mp c_13
      refine lv_iconst (v := 0) hx hb dX3_hasPair_25 (by decide) ?_
      exact xk_zret hx hb hr hlocks hP hD hS (bI_0 (fun h => by first | exact absurd c_13 h.2.1 | exact c_13 h.2.1)) (rfl) (bI_nar _) dX3_hasPair_26
    · have c_13 := bI_nz.mp c_13
      refine lv_iload_n hx hb dX3_hasPair_16 rfl (lv_at hl 1 rfl) ?_
      refine lv_iload_n hx hb dX3_hasPair_17 rfl (lv_at hl 2 rfl) ?_
      refine lv_icmp_eq (tgt := 25) hx hb dX3_hasPair_18 (by decide) (fun c_18 => ?_) (fun c_18 => ?_)
      · refine lv_iconst (v := 0) hx hb dX3_hasPair_25 (by decide) ?_
        exact xk_zret hx hb hr hlocks hP hD hS (bI_0 (fun h => by first | exact absurd c_18 h.2.2 | exact c_18 h.2.2)) (rfl) (bI_nar _) dX3_hasPair_26
      · refine lv_iconst (v := 1) hx hb dX3_hasPair_21 (by decide) ?_
        refine lv_goto (tgt := 26) hx hb dX3_hasPair_22 (by decide) ?_
        exact xk_zret hx hb hr hlocks hP hD hS (bI_1 ⟨c_5, c_13, c_18⟩) (rfl) (bI_nar _) dX3_hasPair_26

abbrev rm_X3_numberAt : Room := { frames := 3, cells := 0, slots := 0, locals := 55 }
theorem in_X3_numberAt_X3 : ∀ w ∈ u_ws RX3 TX3 4, w ∈ wsX3_numberAt := by decide +kernel
set_option maxHeartbeats 4000000 in
set_option maxRecDepth 100000 in
theorem ct_X3_numberAt (l : Launch) (D : va_G) (cyI cyZ : ClassId) (t0 t1 t2 t3 : Nat) (sz : Nat) (nn : Nat) (nu sp ne : Nat → Int32) (j1 : Nat) (hn2 : nn ≤ 8) (hj1 : j1 < nn * nn) : Met l yX3_numberAt wsX3_numberAt rm_X3_numberAt (xk_Pc D cyI cyZ [.ref t0, .int (nI j1)] [(t0, .inr (3, [.ref t1, .ref t2, .ref t3, .int (nI nn)])), (t1, .inl (cyI, 64, .inl nu)), (t2, .inl (cyI, 64, .inl sp)), (t3, .inl (cyI, 225, .inl ne))] sz) (xk_Qi D (va_A [(t0, .inr (3, [.ref t1, .ref t2, .ref t3, .int (nI nn)])), (t1, .inl (cyI, 64, .inl nu)), (t2, .inl (cyI, 64, .inl sp)), (t3, .inl (cyI, 225, .inl ne))] sz) (nu j1) [(t0, .inr (3, [.ref t1, .ref t2, .ref t3, .int (nI nn)])), (t1, .inl (cyI, 64, .inl nu)), (t2, .inl (cyI, 64, .inl sp)), (t3, .inl (cyI, 225, .inl ne))]) 0 0 (va_A [(t0, .inr (3, [.ref t1, .ref t2, .ref t3, .int (nI nn)])), (t1, .inl (cyI, 64, .inl nu)), (t2, .inl (cyI, 64, .inl sp)), (t3, .inl (cyI, 225, .inl ne))] sz) := by
  refine xk_of (own := RX3) (cc := cX3_numberAt) (maxL := 2) (ret := (some .int)) (Qc := fun A => xk_Qi D A (nu j1) [(t0, .inr (3, [.ref t1, .ref t2, .ref t3, .int (nI nn)])), (t1, .inl (cyI, 64, .inl nu)), (t2, .inl (cyI, 64, .inl sp)), (t3, .inl (cyI, 225, .inl ne))]) (by decide) rfl rfl (Nat.le_of_ble_eq_true rfl) ?_
  intro p e s m below meth c A ls hx hb hr hml hown hlocks hin hts hA hP hK hN hD hS hl
  have hC0 := xk_fix hx hb hml hown hts
  have hl : lv_has ls 2 [(0, .ref t0), (1, .int (nI j1))] := hl
  have hf11 := hts (.fieldLink RX3 11 "DotPress$Steps" "numbers" "[I") (by decide +kernel)
  have hq := nn_64 hn2
  refine lv_aload_n hx hb dX3_numberAt_0 rfl (lv_at hl 0 rfl) ?_
  refine lv_iload_n hx hb dX3_numberAt_1 rfl (lv_at hl 1 rfl) ?_
  have hPc := hP.sub (ws' := [(t0, .inr (3, [.ref t1, .ref t2, .ref t3, .int (nI nn)])), (t1, .inl (cyI, 64, .inl nu)), (t2, .inl (cyI, 64, .inl sp)), (t3, .inl (cyI, 225, .inl ne))]) [0, 1, 2, 3] rfl
  have hDc := hD.sub (ws' := [(t0, .inr (3, [.ref t1, .ref t2, .ref t3, .int (nI nn)])), (t1, .inl (cyI, 64, .inl nu)), (t2, .inl (cyI, 64, .inl sp)), (t3, .inl (cyI, 225, .inl ne))]) [0, 1, 2, 3] (by decide) rfl
  refine xk_calli (wr := []) (w2 := [(t0, .inr (3, [.ref t1, .ref t2, .ref t3, .int (nI nn)])), (t1, .inl (cyI, 64, .inl nu)), (t2, .inl (cyI, 64, .inl sp)), (t3, .inl (cyI, 225, .inl ne))]) (va_runV (As := [.int (nI j1)]) (rest := []) hC0 (ct_X3_has l D cyI cyZ t0 t1 t2 t3 _ nn nu sp ne (nI j1) (by first | assumption | omega)) (cwV 1 hts gX3_numberAt_X3_has rfl rfl rfl (by decide +kernel) ⟨Nat.le_of_ble_eq_true rfl, Nat.le_of_ble_eq_true rfl⟩) ⟨xk_blind, va_recv hK hPc (ci := 3) (q0 := 0) rfl rfl, xk_pre hK hN hPc hDc⟩ rfl rfl hl.1 rfl (lv_room (Nat.le_of_ble_eq_true rfl)) dX3_numberAt_2 ⟨Nat.le_of_ble_eq_true rfl, Nat.le_of_ble_eq_true rfl⟩) hP hD hS hA [0, 1, 2, 3] [] [0, 1, 2, 3] rfl rfl (by decide) (by decide) rfl (by decide) (fun H locs hP hD hS => ?_)
  refine lv_if_eq (tgt := 17) hx hb dX3_numberAt_5 (by decide) (fun c_5 => xk_ab c_5 (bI_nz.mpr (st_has_in hn2 hj1))) (fun c_5 => ?_)
  have c_5 := bI_nz.mp c_5
  refine lv_aload_n hx hb dX3_numberAt_8 rfl (lv_at hl 0 rfl) ?_
  refine va_get (D := D) (ci := 3) (v := .ref t1) (C := RX3) (T := TX3) (N := 4) hx hb hts in_X3_numberAt_X3 hown hK hP 0 rfl rfl 0 (by decide) hf11 (fun _ h9 => h9) rfl dX3_numberAt_9 ?_
  refine lv_iload_n hx hb dX3_numberAt_12 rfl (lv_at hl 1 rfl) ?_
  refine xk_iald hx hb hK hP 1 rfl j1 (rfl) (by omega) (by decide) dX3_numberAt_13 ?_
  refine lv_goto (tgt := 18) hx hb dX3_numberAt_14 (by decide) ?_
  exact xk_iret hx hb hr hlocks hP hD hS (rfl) (rfl) dX3_numberAt_18

abbrev rm_X3_swap_no : Room := { frames := 4, cells := 0, slots := 0, locals := 77 }
set_option maxHeartbeats 4000000 in
set_option maxRecDepth 100000 in
theorem ct_X3_swap_no (l : Launch) (D : va_G) (cyI cyZ : ClassId) (t0 t1 t2 t3 : Nat) (sz : Nat) (nn : Nat) (nu sp ne : Nat → Int32) (x y : Int32) (hn2 : nn ≤ 8) (hno : ¬ st_pair nn x y) : Met l yX3_swap wsX3_swap rm_X3_swap_no (xk_Pc D cyI cyZ [.ref t0, .int x, .int y] [(t0, .inr (3, [.ref t1, .ref t2, .ref t3, .int (nI nn)])), (t1, .inl (cyI, 64, .inl nu)), (t2, .inl (cyI, 64, .inl sp)), (t3, .inl (cyI, 225, .inl ne))] sz) (xk_Qv D (va_A [(t0, .inr (3, [.ref t1, .ref t2, .ref t3, .int (nI nn)])), (t1, .inl (cyI, 64, .inl nu)), (t2, .inl (cyI, 64, .inl sp)), (t3, .inl (cyI, 225, .inl ne))] sz) [(t0, .inr (3, [.ref t1, .ref t2, .ref t3, .int (nI nn)])), (t1, .inl (cyI, 64, .inl nu)), (t2, .inl (cyI, 64, .inl sp)), (t3, .inl (cyI, 225, .inl ne))]) 0 0 (va_A [(t0, .inr (3, [.ref t1, .ref t2, .ref t3, .int (nI nn)])), (t1, .inl (cyI, 64, .inl nu)), (t2, .inl (cyI, 64, .inl sp)), (t3, .inl (cyI, 225, .inl ne))] sz) := by
  refine xk_of (own := RX3) (cc := cX3_swap) (maxL := 4) (ret := none) (Qc := fun A => xk_Qv D A [(t0, .inr (3, [.ref t1, .ref t2, .ref t3, .int (nI nn)])), (t1, .inl (cyI, 64, .inl nu)), (t2, .inl (cyI, 64, .inl sp)), (t3, .inl (cyI, 225, .inl ne))]) (by decide) rfl rfl (Nat.le_of_ble_eq_true rfl) ?_
  intro p e s m below meth c A ls hx hb hr hml hown hlocks hin hts hA hP hK hN hD hS hl
  have hC0 := xk_fix hx hb hml hown hts
  have hl : lv_has ls 4 [(0, .ref t0), (1, .int x), (2, .int y)] := hl
  refine lv_aload_n hx hb dX3_swap_0 rfl (lv_at hl 0 rfl) ?_
  refine lv_iload_n hx hb dX3_swap_1 rfl (lv_at hl 1 rfl) ?_
  refine lv_iload_n hx hb dX3_swap_2 rfl (lv_at hl 2 rfl) ?_
  have hPc := hP.sub (ws' := [(t0, .inr (3, [.ref t1, .ref t2, .ref t3, .int (nI nn)])), (t1, .inl (cyI, 64, .inl nu)), (t2, .inl (cyI, 64, .inl sp)), (t3, .inl (cyI, 225, .inl ne))]) [0, 1, 2, 3] rfl
  have hDc := hD.sub (ws' := [(t0, .inr (3, [.ref t1, .ref t2, .ref t3, .int (nI nn)])), (t1, .inl (cyI, 64, .inl nu)), (t2, .inl (cyI, 64, .inl sp)), (t3, .inl (cyI, 225, .inl ne))]) [0, 1, 2, 3] (by decide) rfl
  refine xk_calli (wr := []) (w2 := [(t0, .inr (3, [.ref t1, .ref t2, .ref t3, .int (nI nn)])), (t1, .inl (cyI, 64, .inl nu)), (t2, .inl (cyI, 64, .inl sp)), (t3, .inl (cyI, 225, .inl ne))]) (va_runV (As := [.int x, .int y]) (rest := []) hC0 (ct_X3_hasPair l D cyI cyZ t0 t1 t2 t3 _ nn nu sp ne x y (by first | assumption | omega)) (cwV 2 hts gX3_swap_X3_hasPair rfl rfl rfl (by decide +kernel) ⟨Nat.le_of_ble_eq_true rfl, Nat.le_of_ble_eq_true rfl⟩) ⟨xk_blind, va_recv hK hPc (ci := 3) (q0 := 0) rfl rfl, xk_pre hK hN hPc hDc⟩ rfl rfl hl.1 rfl (lv_room (Nat.le_of_ble_eq_true rfl)) dX3_swap_3 ⟨Nat.le_of_ble_eq_true rfl, Nat.le_of_ble_eq_true rfl⟩) hP hD hS hA [0, 1, 2, 3] [] [0, 1, 2, 3] rfl rfl (by decide) (by decide) rfl (by decide) (fun H locs hP hD hS => ?_)
  refine lv_if_eq (tgt := 35) hx hb dX3_swap_6 (by decide) (fun c_6 => ?_) (fun c_6 => xk_ba c_6 (bI_z.mpr hno))
  have c_6 := bI_z.mp c_6
  exact xk_vret hx hb hr hlocks hP hD hS (rfl) dX3_swap_35

abbrev rm_X3_swap_ok : Room := { frames := 4, cells := 0, slots := 0, locals := 77 }
theorem in_X3_swap_ok_X3 : ∀ w ∈ u_ws RX3 TX3 4, w ∈ wsX3_swap := by decide +kernel
set_option maxHeartbeats 4000000 in
set_option maxRecDepth 100000 in
theorem ct_X3_swap_ok (l : Launch) (D : va_G) (cyI cyZ : ClassId) (t0 t1 t2 t3 : Nat) (sz : Nat) (nn : Nat) (nu sp ne : Nat → Int32) (j1 j2 : Nat) (hn2 : nn ≤ 8) (hj1 : j1 < nn * nn) (hj2 : j2 < nn * nn) (hne : j1 ≠ j2) : Met l yX3_swap wsX3_swap rm_X3_swap_ok (xk_Pc D cyI cyZ [.ref t0, .int (nI j1), .int (nI j2)] [(t0, .inr (3, [.ref t1, .ref t2, .ref t3, .int (nI nn)])), (t1, .inl (cyI, 64, .inl nu)), (t2, .inl (cyI, 64, .inl sp)), (t3, .inl (cyI, 225, .inl ne))] sz) (xk_Qv D (va_A [(t0, .inr (3, [.ref t1, .ref t2, .ref t3, .int (nI nn)])), (t1, .inl (cyI, 64, .inl nu)), (t2, .inl (cyI, 64, .inl sp)), (t3, .inl (cyI, 225, .inl ne))] sz) [(t0, .inr (3, [.ref t1, .ref t2, .ref t3, .int (nI nn)])), (t1, .inl (cyI, 64, .inl (sw nu j1 j2))), (t2, .inl (cyI, 64, .inl sp)), (t3, .inl (cyI, 225, .inl ne))]) 0 0 (va_A [(t0, .inr (3, [.ref t1, .ref t2, .ref t3, .int (nI nn)])), (t1, .inl (cyI, 64, .inl nu)), (t2, .inl (cyI, 64, .inl sp)), (t3, .inl (cyI, 225, .inl ne))] sz) := by
  refine xk_of (own := RX3) (cc := cX3_swap) (maxL := 4) (ret := none) (Qc := fun A => xk_Qv D A [(t0, .inr (3, [.ref t1, .ref t2, .ref t3, .int (nI nn)])), (t1, .inl (cyI, 64, .inl (sw nu j1 j2))), (t2, .inl (cyI, 64, .inl sp)), (t3, .inl (cyI, 225, .inl ne))]) (by decide) rfl rfl (Nat.le_of_ble_eq_true rfl) ?_
  intro p e s m below meth c A ls hx hb hr hml hown hlocks hin hts hA hP hK hN hD hS hl
  have hC0 := xk_fix hx hb hml hown hts
  have hl : lv_has ls 4 [(0, .ref t0), (1, .int (nI j1)), (2, .int (nI j2))] := hl
  have hf11 := hts (.fieldLink RX3 11 "DotPress$Steps" "numbers" "[I") (by decide +kernel)
  have hq := nn_64 hn2
  refine lv_aload_n hx hb dX3_swap_0 rfl (lv_at hl 0 rfl) ?_
  refine lv_iload_n hx hb dX3_swap_1 rfl (lv_at hl 1 rfl) ?_
  refine lv_iload_n hx hb dX3_swap_2 rfl (lv_at hl 2 rfl) ?_
  have hPc := hP.sub (ws' := [(t0, .inr (3, [.ref t1, .ref t2, .ref t3, .int (nI nn)])), (t1, .inl (cyI, 64, .inl nu)), (t2, .inl (cyI, 64, .inl sp)), (t3, .inl (cyI, 225, .inl ne))]) [0, 1, 2, 3] rfl
  have hDc := hD.sub (ws' := [(t0, .inr (3, [.ref t1, .ref t2, .ref t3, .int (nI nn)])), (t1, .inl (cyI, 64, .inl nu)), (t2, .inl (cyI, 64, .inl sp)), (t3, .inl (cyI, 225, .inl ne))]) [0, 1, 2, 3] (by decide) rfl
  refine xk_calli (wr := []) (w2 := [(t0, .inr (3, [.ref t1, .ref t2, .ref t3, .int (nI nn)])), (t1, .inl (cyI, 64, .inl nu)), (t2, .inl (cyI, 64, .inl sp)), (t3, .inl (cyI, 225, .inl ne))]) (va_runV (As := [.int (nI j1), .int (nI j2)]) (rest := []) hC0 (ct_X3_hasPair l D cyI cyZ t0 t1 t2 t3 _ nn nu sp ne (nI j1) (nI j2) (by first | assumption | omega)) (cwV 2 hts gX3_swap_X3_hasPair rfl rfl rfl (by decide +kernel) ⟨Nat.le_of_ble_eq_true rfl, Nat.le_of_ble_eq_true rfl⟩) ⟨xk_blind, va_recv hK hPc (ci := 3) (q0 := 0) rfl rfl, xk_pre hK hN hPc hDc⟩ rfl rfl hl.1 rfl (lv_room (Nat.le_of_ble_eq_true rfl)) dX3_swap_3 ⟨Nat.le_of_ble_eq_true rfl, Nat.le_of_ble_eq_true rfl⟩) hP hD hS hA [0, 1, 2, 3] [] [0, 1, 2, 3] rfl rfl (by decide) (by decide) rfl (by decide) (fun H locs hP hD hS => ?_)
  refine lv_if_eq (tgt := 35) hx hb dX3_swap_6 (by decide) (fun c_6 => xk_ab c_6 (bI_nz.mpr (st_pair_in hn2 hj1 hj2 hne))) (fun c_6 => ?_)
  have c_6 := bI_nz.mp c_6
  refine lv_aload_n hx hb dX3_swap_9 rfl (lv_at hl 0 rfl) ?_
  refine va_get (D := D) (ci := 3) (v := .ref t1) (C := RX3) (T := TX3) (N := 4) hx hb hts in_X3_swap_ok_X3 hown hK hP 0 rfl rfl 0 (by decide) hf11 (fun _ h9 => h9) rfl dX3_swap_10 ?_
  refine lv_iload_n hx hb dX3_swap_13 rfl (lv_at hl 1 rfl) ?_
  refine xk_iald hx hb hK hP 1 rfl j1 (rfl) (by omega) (by decide) dX3_swap_14 ?_
  refine lv_istore_n (lv' := [(3, .int (nu j1)), (0, .ref t0), (1, .int (nI j1)), (2, .int (nI j2))]) hx hb dX3_swap_15 rfl hl (by decide) rfl (fun ls hl => ?_)
  refine lv_aload_n hx hb dX3_swap_16 rfl (lv_at hl 1 rfl) ?_
  refine va_get (D := D) (ci := 3) (v := .ref t1) (C := RX3) (T := TX3) (N := 4) hx hb hts in_X3_swap_ok_X3 hown hK hP 0 rfl rfl 0 (by decide) hf11 (fun _ h9 => h9) rfl dX3_swap_17 ?_
  refine lv_iload_n hx hb dX3_swap_20 rfl (lv_at hl 2 rfl) ?_
  refine lv_aload_n hx hb dX3_swap_21 rfl (lv_at hl 1 rfl) ?_
  refine va_get (D := D) (ci := 3) (v := .ref t1) (C := RX3) (T := TX3) (N := 4) hx hb hts in_X3_swap_ok_X3 hown hK hP 0 rfl rfl 0 (by decide) hf11 (fun _ h9 => h9) rfl dX3_swap_22 ?_
  refine lv_iload_n hx hb dX3_swap_25 rfl (lv_at hl 3 rfl) ?_
  refine xk_iald hx hb hK hP 1 rfl j2 (rfl) (by omega) (by decide) dX3_swap_26 ?_
  refine xk_iast (w2 := [(t0, .inr (3, [.ref t1, .ref t2, .ref t3, .int (nI nn)])), (t1, .inl (cyI, 64, .inl (upd nu j1 (nu j2)))), (t2, .inl (cyI, 64, .inl sp)), (t3, .inl (cyI, 225, .inl ne))]) hx hb hK hP hD hS 1 rfl j1 (rfl) (by omega) (by decide) rfl dX3_swap_27 (fun H locs hP hD hS => ?_)
  refine lv_aload_n hx hb dX3_swap_28 rfl (lv_at hl 1 rfl) ?_
  refine va_get (D := D) (ci := 3) (v := .ref t1) (C := RX3) (T := TX3) (N := 4) hx hb hts in_X3_swap_ok_X3 hown hK hP 0 rfl rfl 0 (by decide) hf11 (fun _ h9 => h9) rfl dX3_swap_29 ?_
  refine lv_iload_n hx hb dX3_swap_32 rfl (lv_at hl 3 rfl) ?_
  refine lv_iload_n hx hb dX3_swap_33 rfl (lv_at hl 0 rfl) ?_
  refine xk_iast (w2 := [(t0, .inr (3, [.ref t1, .ref t2, .ref t3, .int (nI nn)])), (t1, .inl (cyI, 64, .inl (upd (upd nu j1 (nu j2)) j2 (nu j1)))), (t2, .inl (cyI, 64, .inl sp)), (t3, .inl (cyI, 225, .inl ne))]) hx hb hK hP hD hS 1 rfl j2 (rfl) (by omega) (by decide) rfl dX3_swap_34 (fun H locs hP hD hS => ?_)
  exact xk_vret hx hb hr hlocks hP hD hS (rfl) dX3_swap_35

abbrev rm_X3_nearnessAt : Room := { frames := 0, cells := 0, slots := 0, locals := 0 }
theorem in_X3_nearnessAt_X3 : ∀ w ∈ u_ws RX3 TX3 4, w ∈ wsX3_nearnessAt := by decide +kernel
set_option maxHeartbeats 4000000 in
set_option maxRecDepth 100000 in
theorem ct_X3_nearnessAt (l : Launch) (D : va_G) (cyI cyZ : ClassId) (t0 t1 t2 t3 : Nat) (sz : Nat) (nn : Nat) (nu sp ne : Nat → Int32) (j1 : Nat) (hj1 : j1 < 225) : Met l yX3_nearnessAt wsX3_nearnessAt rm_X3_nearnessAt (xk_Pc D cyI cyZ [.ref t0, .int (nI j1)] [(t0, .inr (3, [.ref t1, .ref t2, .ref t3, .int (nI nn)])), (t1, .inl (cyI, 64, .inl nu)), (t2, .inl (cyI, 64, .inl sp)), (t3, .inl (cyI, 225, .inl ne))] sz) (xk_Qi D (va_A [(t0, .inr (3, [.ref t1, .ref t2, .ref t3, .int (nI nn)])), (t1, .inl (cyI, 64, .inl nu)), (t2, .inl (cyI, 64, .inl sp)), (t3, .inl (cyI, 225, .inl ne))] sz) (ne j1) [(t0, .inr (3, [.ref t1, .ref t2, .ref t3, .int (nI nn)])), (t1, .inl (cyI, 64, .inl nu)), (t2, .inl (cyI, 64, .inl sp)), (t3, .inl (cyI, 225, .inl ne))]) 0 0 (va_A [(t0, .inr (3, [.ref t1, .ref t2, .ref t3, .int (nI nn)])), (t1, .inl (cyI, 64, .inl nu)), (t2, .inl (cyI, 64, .inl sp)), (t3, .inl (cyI, 225, .inl ne))] sz) := by
  refine xk_of (own := RX3) (cc := cX3_nearnessAt) (maxL := 2) (ret := (some .int)) (Qc := fun A => xk_Qi D A (ne j1) [(t0, .inr (3, [.ref t1, .ref t2, .ref t3, .int (nI nn)])), (t1, .inl (cyI, 64, .inl nu)), (t2, .inl (cyI, 64, .inl sp)), (t3, .inl (cyI, 225, .inl ne))]) (by decide) rfl rfl (Nat.le_of_ble_eq_true rfl) ?_
  intro p e s m below meth c A ls hx hb hr hml hown hlocks hin hts hA hP hK hN hD hS hl
  have hC0 := xk_fix hx hb hml hown hts
  have hl : lv_has ls 2 [(0, .ref t0), (1, .int (nI j1))] := hl
  have hf18 := hts (.fieldLink RX3 18 "DotPress$Steps" "nearness" "[I") (by decide +kernel)
  refine lv_iload_n hx hb dX3_nearnessAt_0 rfl (lv_at hl 1 rfl) ?_
  refine lv_if_lt (tgt := 22) hx hb dX3_nearnessAt_1 (by decide) (fun c_1 => xk_ab c_1 (nI_pos (by omega))) (fun c_1 => ?_)
  refine lv_iload_n hx hb dX3_nearnessAt_4 rfl (lv_at hl 1 rfl) ?_
  refine lv_aload_n hx hb dX3_nearnessAt_5 rfl (lv_at hl 0 rfl) ?_
  refine va_get (D := D) (ci := 3) (v := .ref t3) (C := RX3) (T := TX3) (N := 4) hx hb hts in_X3_nearnessAt_X3 hown hK hP 0 rfl rfl 2 (by decide) hf18 (fun _ h9 => h9) rfl dX3_nearnessAt_6 ?_
  refine va_alen (v := nI 225) hx hb hK hP 3 0 rfl rfl rfl dX3_nearnessAt_9 ?_
  refine lv_icmp_ge (tgt := 22) hx hb dX3_nearnessAt_10 (by decide) (fun c_10 => xk_ab c_10 (nI_ge hj1 (by decide))) (fun c_10 => ?_)
  refine lv_aload_n hx hb dX3_nearnessAt_13 rfl (lv_at hl 0 rfl) ?_
  refine va_get (D := D) (ci := 3) (v := .ref t3) (C := RX3) (T := TX3) (N := 4) hx hb hts in_X3_nearnessAt_X3 hown hK hP 0 rfl rfl 2 (by decide) hf18 (fun _ h9 => h9) rfl dX3_nearnessAt_14 ?_
  refine lv_iload_n hx hb dX3_nearnessAt_17 rfl (lv_at hl 1 rfl) ?_
  refine xk_iald hx hb hK hP 3 rfl j1 (rfl) (by omega) (by decide) dX3_nearnessAt_18 ?_
  refine lv_goto (tgt := 23) hx hb dX3_nearnessAt_19 (by decide) ?_
  exact xk_iret hx hb hr hlocks hP hD hS (rfl) (rfl) dX3_nearnessAt_23

abbrev rm_X3_setNearness : Room := { frames := 1, cells := 0, slots := 0, locals := 13 }
theorem in_X3_setNearness_X3 : ∀ w ∈ u_ws RX3 TX3 4, w ∈ wsX3_setNearness := by decide +kernel
set_option maxHeartbeats 4000000 in
set_option maxRecDepth 100000 in
theorem ct_X3_setNearness (l : Launch) (D : va_G) (cyI cyZ : ClassId) (t0 t1 t2 t3 : Nat) (sz : Nat) (nn : Nat) (nu sp ne : Nat → Int32) (j1 : Nat) (dc dr : Int32) (hj1 : j1 < 225) : Met l yX3_setNearness wsX3_setNearness rm_X3_setNearness (xk_Pc D cyI cyZ [.ref t0, .int (nI j1), .int dc, .int dr] [(t0, .inr (3, [.ref t1, .ref t2, .ref t3, .int (nI nn)])), (t1, .inl (cyI, 64, .inl nu)), (t2, .inl (cyI, 64, .inl sp)), (t3, .inl (cyI, 225, .inl ne))] sz) (xk_Qv D (va_A [(t0, .inr (3, [.ref t1, .ref t2, .ref t3, .int (nI nn)])), (t1, .inl (cyI, 64, .inl nu)), (t2, .inl (cyI, 64, .inl sp)), (t3, .inl (cyI, 225, .inl ne))] sz) [(t0, .inr (3, [.ref t1, .ref t2, .ref t3, .int (nI nn)])), (t1, .inl (cyI, 64, .inl nu)), (t2, .inl (cyI, 64, .inl sp)), (t3, .inl (cyI, 225, .inl (upd ne j1 (nrv nn dc dr))))]) 0 0 (va_A [(t0, .inr (3, [.ref t1, .ref t2, .ref t3, .int (nI nn)])), (t1, .inl (cyI, 64, .inl nu)), (t2, .inl (cyI, 64, .inl sp)), (t3, .inl (cyI, 225, .inl ne))] sz) := by
  refine xk_of (own := RX3) (cc := cX3_setNearness) (maxL := 7) (ret := none) (Qc := fun A => xk_Qv D A [(t0, .inr (3, [.ref t1, .ref t2, .ref t3, .int (nI nn)])), (t1, .inl (cyI, 64, .inl nu)), (t2, .inl (cyI, 64, .inl sp)), (t3, .inl (cyI, 225, .inl (upd ne j1 (nrv nn dc dr))))]) (by decide) rfl rfl (Nat.le_of_ble_eq_true rfl) ?_
  intro p e s m below meth c A ls hx hb hr hml hown hlocks hin hts hA hP hK hN hD hS hl
  have hC0 := xk_fix hx hb hml hown hts
  have hl : lv_has ls 7 [(0, .ref t0), (1, .int (nI j1)), (2, .int dc), (3, .int dr)] := hl
  have hf18 := hts (.fieldLink RX3 18 "DotPress$Steps" "nearness" "[I") (by decide +kernel)
  have hf25 := hts (.fieldLink RX3 25 "DotPress$Steps" "side" "I") (by decide +kernel)
  refine lv_iload_n hx hb dX3_setNearness_0 rfl (lv_at hl 2 rfl) ?_
  refine lv_aload_n hx hb dX3_setNearness_1 rfl (lv_at hl 0 rfl) ?_
  refine va_get (D := D) (ci := 3) (v := .int (nI nn)) (C := RX3) (T := TX3) (N := 4) hx hb hts in_X3_setNearness_X3 hown hK hP 0 rfl rfl 3 (by decide) hf25 (fun _ h9 => h9) rfl dX3_setNearness_2 ?_
  refine lv_iload_n hx hb dX3_setNearness_5 rfl (lv_at hl 2 rfl) ?_
  refine lv_isub hx hb dX3_setNearness_6 ?_
  refine va_mmin hx hb (hml.trans hl.1.symm) hown (hts (.methodLink RX3 43 Lib.Math.min.name) (by decide +kernel)) (hts (.static Lib.Math.min.name) (by decide +kernel)) (hts (.initialized "java/lang/Math") (by decide +kernel)) (hts (.code Lib.Math.min.name Lib.Math.min.code 2 (some .int)) (by decide +kernel)) (Nat.le_of_ble_eq_true rfl) (Nat.le_of_ble_eq_true rfl) (Nat.zero_le _) (Nat.zero_le _) dX3_setNearness_7 ?_
  refine xk_topi (y := mnI dc (nI nn - dc)) (rfl) ?_
  refine lv_istore (lv' := [(4, .int (mnI dc (nI nn - dc))), (0, .ref t0), (1, .int (nI j1)), (2, .int dc), (3, .int dr)]) hx hb dX3_setNearness_10 hl (by decide) rfl (fun ls hl => ?_)
  refine lv_iload_n hx hb dX3_setNearness_12 rfl (lv_at hl 4 rfl) ?_
  refine lv_aload_n hx hb dX3_setNearness_13 rfl (lv_at hl 1 rfl) ?_
  refine va_get (D := D) (ci := 3) (v := .int (nI nn)) (C := RX3) (T := TX3) (N := 4) hx hb hts in_X3_setNearness_X3 hown hK hP 0 rfl rfl 3 (by decide) hf25 (fun _ h9 => h9) rfl dX3_setNearness_14 ?_
  refine lv_iload_n hx hb dX3_setNearness_17 rfl (lv_at hl 4 rfl) ?_
  refine lv_isub hx hb dX3_setNearness_18 ?_
  refine va_mmin hx hb (hml.trans hl.1.symm) hown (hts (.methodLink RX3 43 Lib.Math.min.name) (by decide +kernel)) (hts (.static Lib.Math.min.name) (by decide +kernel)) (hts (.initialized "java/lang/Math") (by decide +kernel)) (hts (.code Lib.Math.min.name Lib.Math.min.code 2 (some .int)) (by decide +kernel)) (Nat.le_of_ble_eq_true rfl) (Nat.le_of_ble_eq_true rfl) (Nat.zero_le _) (Nat.zero_le _) dX3_setNearness_19 ?_
  refine xk_topi (y := mnI dr (nI nn - dr)) (rfl) ?_
  refine lv_istore (lv' := [(5, .int (mnI dr (nI nn - dr))), (4, .int (mnI dc (nI nn - dc))), (0, .ref t0), (1, .int (nI j1)), (2, .int dc), (3, .int dr)]) hx hb dX3_setNearness_22 hl (by decide) rfl (fun ls hl => ?_)
  refine lv_iload hx hb dX3_setNearness_24 (lv_at hl 1 rfl) ?_
  refine lv_iload hx hb dX3_setNearness_26 (lv_at hl 1 rfl) ?_
  refine lv_imul hx hb dX3_setNearness_28 ?_
  refine lv_iload hx hb dX3_setNearness_29 (lv_at hl 0 rfl) ?_
  refine lv_iload hx hb dX3_setNearness_31 (lv_at hl 0 rfl) ?_
  refine lv_imul hx hb dX3_setNearness_33 ?_
  refine lv_iadd hx hb dX3_setNearness_34 ?_
  refine xk_topi (y := nsq nn dc dr) (rfl) ?_
  refine lv_istore (lv' := [(6, .int (nsq nn dc dr)), (5, .int (mnI dr (nI nn - dr))), (4, .int (mnI dc (nI nn - dc))), (0, .ref t0), (1, .int (nI j1)), (2, .int dc), (3, .int dr)]) hx hb dX3_setNearness_35 hl (by decide) rfl (fun ls hl => ?_)
  refine lv_iload_n hx hb dX3_setNearness_37 rfl (lv_at hl 4 rfl) ?_
  refine lv_if_lt (tgt := 72) hx hb dX3_setNearness_38 (by decide) (fun c_38 => xk_ab c_38 (nI_pos (by omega))) (fun c_38 => ?_)
  refine lv_iload_n hx hb dX3_setNearness_41 rfl (lv_at hl 4 rfl) ?_
  refine lv_aload_n hx hb dX3_setNearness_42 rfl (lv_at hl 3 rfl) ?_
  refine va_get (D := D) (ci := 3) (v := .ref t3) (C := RX3) (T := TX3) (N := 4) hx hb hts in_X3_setNearness_X3 hown hK hP 0 rfl rfl 2 (by decide) hf18 (fun _ h9 => h9) rfl dX3_setNearness_43 ?_
  refine va_alen (v := nI 225) hx hb hK hP 3 0 rfl rfl rfl dX3_setNearness_46 ?_
  refine lv_icmp_ge (tgt := 72) hx hb dX3_setNearness_47 (by decide) (fun c_47 => xk_ab c_47 (nI_ge hj1 (by decide))) (fun c_47 => ?_)
  refine lv_aload_n hx hb dX3_setNearness_50 rfl (lv_at hl 3 rfl) ?_
  refine va_get (D := D) (ci := 3) (v := .ref t3) (C := RX3) (T := TX3) (N := 4) hx hb hts in_X3_setNearness_X3 hown hK hP 0 rfl rfl 2 (by decide) hf18 (fun _ h9 => h9) rfl dX3_setNearness_51 ?_
  refine lv_iload_n hx hb dX3_setNearness_54 rfl (lv_at hl 4 rfl) ?_
  refine lv_iload hx hb dX3_setNearness_55 (lv_at hl 0 rfl) ?_
  refine lv_iconst (v := 1) hx hb dX3_setNearness_57 (by decide) ?_
  refine lv_icmp_ge (tgt := 65) hx hb dX3_setNearness_58 (by decide) (fun c_58 => ?_) (fun c_58 => ?_)
  · refine lv_sipush (v := 1000) hx hb dX3_setNearness_65 (by decide) ?_
    refine lv_iload hx hb dX3_setNearness_68 (lv_at hl 0 rfl) ?_
    refine lv_idiv hx hb dX3_setNearness_70 (ge1_ne0 c_58) ?_
    refine xk_iast (w2 := [(t0, .inr (3, [.ref t1, .ref t2, .ref t3, .int (nI nn)])), (t1, .inl (cyI, 64, .inl nu)), (t2, .inl (cyI, 64, .inl sp)), (t3, .inl (cyI, 225, .inl (upd ne j1 (1000 / nsq nn dc dr))))]) hx hb hK hP hD hS 3 rfl j1 (rfl) (by omega) (by decide) rfl dX3_setNearness_71 (fun H locs hP hD hS => ?_)
    exact xk_vret hx hb hr hlocks hP hD hS (by rw [show nrv nn dc dr = 1000 / nsq nn dc dr from by simp [nrv, c_58]]) dX3_setNearness_72
  · refine lv_iconst (v := 0) hx hb dX3_setNearness_61 (by decide) ?_
    refine lv_goto (tgt := 71) hx hb dX3_setNearness_62 (by decide) ?_
    refine xk_iast (w2 := [(t0, .inr (3, [.ref t1, .ref t2, .ref t3, .int (nI nn)])), (t1, .inl (cyI, 64, .inl nu)), (t2, .inl (cyI, 64, .inl sp)), (t3, .inl (cyI, 225, .inl (upd ne j1 0)))]) hx hb hK hP hD hS 3 rfl j1 (rfl) (by omega) (by decide) rfl dX3_setNearness_71 (fun H locs hP hD hS => ?_)
    exact xk_vret hx hb hr hlocks hP hD hS (by rw [show nrv nn dc dr = 0 from by simp [nrv, c_58]]) dX3_setNearness_72

abbrev rm_X3_renew : Room := { frames := 3, cells := 0, slots := 0, locals := 55 }
theorem in_X3_renew_X3 : ∀ w ∈ u_ws RX3 TX3 4, w ∈ wsX3_renew := by decide +kernel
set_option maxHeartbeats 4000000 in
set_option maxRecDepth 100000 in
theorem ct_X3_renew (l : Launch) (D : va_G) (cyI cyZ : ClassId) (t0 t1 t2 t3 : Nat) (sz : Nat) (nn : Nat) (nu sp ne : Nat → Int32) (n2 : Nat) (q1 : 1 ≤ n2) (q2 : n2 ≤ 8) : Met l yX3_renew wsX3_renew rm_X3_renew (xk_Pc D cyI cyZ [.ref t0, .int (nI n2)] [(t0, .inr (3, [.ref t1, .ref t2, .ref t3, .int (nI nn)])), (t1, .inl (cyI, 64, .inl nu)), (t2, .inl (cyI, 64, .inl sp)), (t3, .inl (cyI, 225, .inl ne))] sz) (xk_Qv D (va_A [(t0, .inr (3, [.ref t1, .ref t2, .ref t3, .int (nI nn)])), (t1, .inl (cyI, 64, .inl nu)), (t2, .inl (cyI, 64, .inl sp)), (t3, .inl (cyI, 225, .inl ne))] sz) [(t0, .inr (3, [.ref t1, .ref t2, .ref t3, .int (nI n2)])), (t1, .inl (cyI, 64, .inl (idt (n2 * n2) nu))), (t2, .inl (cyI, 64, .inl (spF n2 (n2 * n2) sp))), (t3, .inl (cyI, 225, .inl (neo n2 ne (2 * n2 - 1))))]) 0 0 (va_A [(t0, .inr (3, [.ref t1, .ref t2, .ref t3, .int (nI nn)])), (t1, .inl (cyI, 64, .inl nu)), (t2, .inl (cyI, 64, .inl sp)), (t3, .inl (cyI, 225, .inl ne))] sz) := by
  refine xk_of (own := RX3) (cc := cX3_renew) (maxL := 5) (ret := none) (Qc := fun A => xk_Qv D A [(t0, .inr (3, [.ref t1, .ref t2, .ref t3, .int (nI n2)])), (t1, .inl (cyI, 64, .inl (idt (n2 * n2) nu))), (t2, .inl (cyI, 64, .inl (spF n2 (n2 * n2) sp))), (t3, .inl (cyI, 225, .inl (neo n2 ne (2 * n2 - 1))))]) (by decide) rfl rfl (Nat.le_of_ble_eq_true rfl) ?_
  intro p e s m below meth c A ls hx hb hr hml hown hlocks hin hts hA hP hK hN hD hS hl
  have hC0 := xk_fix hx hb hml hown hts
  have hl : lv_has ls 5 [(0, .ref t0), (1, .int (nI n2))] := hl
  have hf11 := hts (.fieldLink RX3 11 "DotPress$Steps" "numbers" "[I") (by decide +kernel)
  have hf15 := hts (.fieldLink RX3 15 "DotPress$Steps" "spots" "[I") (by decide +kernel)
  have hf25 := hts (.fieldLink RX3 25 "DotPress$Steps" "side" "I") (by decide +kernel)
  have hq := nn_64 q2
  refine lv_aload_n hx hb dX3_renew_0 rfl (lv_at hl 0 rfl) ?_
  refine lv_iload_n hx hb dX3_renew_1 rfl (lv_at hl 1 rfl) ?_
  refine va_put (D := D) (ci := 3) (v := .int (nI n2)) (ty := .int) (C := RX3) (T := TX3) (N := 4) hx hb hts in_X3_renew_X3 tyX3 tyX3_ok nmX3 hown hK hP hD hS 0 rfl rfl 3 (by decide) hf25 (fun _ h9 => h9) rfl (by decide +kernel) (rfl) (rfl) (Nat.le_of_ble_eq_true rfl) dX3_renew_2 (fun H locs hP hD hS => ?_)
  have hP : va_P D vwCl [(t0, .inr (3, [.ref t1, .ref t2, .ref t3, .int (nI n2)])), (t1, .inl (cyI, 64, .inl nu)), (t2, .inl (cyI, 64, .inl sp)), (t3, .inl (cyI, 225, .inl ne))] H := hP
  have hD : va_D A [(t0, .inr (3, [.ref t1, .ref t2, .ref t3, .int (nI n2)])), (t1, .inl (cyI, 64, .inl nu)), (t2, .inl (cyI, 64, .inl sp)), (t3, .inl (cyI, 225, .inl ne))] := hD
  refine lv_iconst (v := 0) hx hb dX3_renew_5 (by decide) ?_
  refine lv_istore_n (lv' := [(2, .int 0), (0, .ref t0), (1, .int (nI n2))]) hx hb dX3_renew_6 rfl hl (by decide) rfl (fun ls hl => ?_)
  have L7 : ∀ (n i : Nat), i + n = n2 → ∀ (H : Heap) (locs : List Loc) (ls : Array Slot), va_P D vwCl [(t0, .inr (3, [.ref t1, .ref t2, .ref t3, .int (nI n2)])), (t1, .inl (cyI, 64, .inl (idt (i * n2) nu))), (t2, .inl (cyI, 64, .inl (spF n2 (i * n2) sp))), (t3, .inl (cyI, 225, .inl ne))] H → va_D A [(t0, .inr (3, [.ref t1, .ref t2, .ref t3, .int (nI n2)])), (t1, .inl (cyI, 64, .inl (idt (i * n2) nu))), (t2, .inl (cyI, 64, .inl (spF n2 (i * n2) sp))), (t3, .inl (cyI, 225, .inl ne))] → va_S A s.heap H locs → lv_has ls 5 [(0, .ref t0), (1, .int (nI n2)), (2, .int (nI i))] → W p l e rm_X3_renew s m ([.ref t0, .int (nI n2)] : List Value).toArray below meth c H locs 0 0 (MQ below (xk_Qv D A [(t0, .inr (3, [.ref t1, .ref t2, .ref t3, .int (nI n2)])), (t1, .inl (cyI, 64, .inl (idt (n2 * n2) nu))), (t2, .inl (cyI, 64, .inl (spF n2 (n2 * n2) sp))), (t3, .inl (cyI, 225, .inl (neo n2 ne (2 * n2 - 1))))]) ([.ref t0, .int (nI n2)] : List Value).toArray s 0 0 A) (F0 m 7 ls []) := by
    intro n
    induction n with
    | zero =>
      intro i hk_7  H locs ls hP hD hS hl
      have hz_7 : n2 = i := hk_7.symm
      subst hz_7
      refine lv_iload_n hx hb dX3_renew_7 rfl (lv_at hl 2 rfl) ?_
      refine lv_iload_n hx hb dX3_renew_8 rfl (lv_at hl 1 rfl) ?_
      refine lv_icmp_ge (tgt := 69) hx hb dX3_renew_9 (by decide) (fun c_9 => ?_) (fun c_9 => xk_ba c_9 (nI_le (Nat.le_refl _) (by omega)))
      refine lv_iconst (v := 1) hx hb dX3_renew_69 (by decide) ?_
      refine lv_iload_n hx hb dX3_renew_70 rfl (lv_at hl 1 rfl) ?_
      refine lv_isub hx hb dX3_renew_71 ?_
      refine lv_istore_n (lv' := [(2, .int (1 - nI n2)), (0, .ref t0), (1, .int (nI n2))]) hx hb dX3_renew_72 rfl hl (by decide) rfl (fun ls hl => ?_)
      have L73 : ∀ (n i : Nat), i + n = (2 * n2 - 1) → ∀ (H : Heap) (locs : List Loc) (ls : Array Slot), va_P D vwCl [(t0, .inr (3, [.ref t1, .ref t2, .ref t3, .int (nI n2)])), (t1, .inl (cyI, 64, .inl (idt (n2 * n2) nu))), (t2, .inl (cyI, 64, .inl (spF n2 (n2 * n2) sp))), (t3, .inl (cyI, 225, .inl (neo n2 ne i)))] H → va_D A [(t0, .inr (3, [.ref t1, .ref t2, .ref t3, .int (nI n2)])), (t1, .inl (cyI, 64, .inl (idt (n2 * n2) nu))), (t2, .inl (cyI, 64, .inl (spF n2 (n2 * n2) sp))), (t3, .inl (cyI, 225, .inl (neo n2 ne i)))] → va_S A s.heap H locs → lv_has ls 5 [(0, .ref t0), (1, .int (nI n2)), (2, .int (nI i - nI (n2 - 1)))] → W p l e rm_X3_renew s m ([.ref t0, .int (nI n2)] : List Value).toArray below meth c H locs 0 0 (MQ below (xk_Qv D A [(t0, .inr (3, [.ref t1, .ref t2, .ref t3, .int (nI n2)])), (t1, .inl (cyI, 64, .inl (idt (n2 * n2) nu))), (t2, .inl (cyI, 64, .inl (spF n2 (n2 * n2) sp))), (t3, .inl (cyI, 225, .inl (neo n2 ne (2 * n2 - 1))))]) ([.ref t0, .int (nI n2)] : List Value).toArray s 0 0 A) (F0 m 73 ls []) := by
        intro n
        induction n with
        | zero =>
          intro i hk_73  H locs ls hP hD hS hl
          have hz_73 : 2 * n2 - 1 = i := hk_73.symm
          subst hz_73
          refine lv_iload_n hx hb dX3_renew_73 rfl (lv_at hl 2 rfl) ?_
          refine lv_iload_n hx hb dX3_renew_74 rfl (lv_at hl 1 rfl) ?_
          refine lv_icmp_ge (tgt := 120) hx hb dX3_renew_75 (by decide) (fun c_75 => ?_) (fun c_75 => xk_ba c_75 (nd_le (by omega) (by omega)))
          exact xk_vret hx hb hr hlocks hP hD hS (rfl) dX3_renew_120
        | succ n ih_73 =>
          intro i hk_73  H locs ls hP hD hS hl
          refine lv_iload_n hx hb dX3_renew_73 rfl (lv_at hl 2 rfl) ?_
          refine lv_iload_n hx hb dX3_renew_74 rfl (lv_at hl 1 rfl) ?_
          refine lv_icmp_ge (tgt := 120) hx hb dX3_renew_75 (by decide) (fun c_75 => xk_ab c_75 (nd_nle (by omega) (by omega))) (fun c_75 => ?_)
          refine lv_iconst (v := 1) hx hb dX3_renew_78 (by decide) ?_
          refine lv_iload_n hx hb dX3_renew_79 rfl (lv_at hl 1 rfl) ?_
          refine lv_isub hx hb dX3_renew_80 ?_
          refine lv_istore_n (lv' := [(3, .int (1 - nI n2)), (0, .ref t0), (1, .int (nI n2)), (2, .int (nI i - nI (n2 - 1)))]) hx hb dX3_renew_81 rfl hl (by decide) rfl (fun ls hl => ?_)
          have L82 : ∀ (n j : Nat), j + n = (2 * n2 - 1) → ∀ (H : Heap) (locs : List Loc) (ls : Array Slot), va_P D vwCl [(t0, .inr (3, [.ref t1, .ref t2, .ref t3, .int (nI n2)])), (t1, .inl (cyI, 64, .inl (idt (n2 * n2) nu))), (t2, .inl (cyI, 64, .inl (spF n2 (n2 * n2) sp))), (t3, .inl (cyI, 225, .inl (nei n2 (neo n2 ne i) i j)))] H → va_D A [(t0, .inr (3, [.ref t1, .ref t2, .ref t3, .int (nI n2)])), (t1, .inl (cyI, 64, .inl (idt (n2 * n2) nu))), (t2, .inl (cyI, 64, .inl (spF n2 (n2 * n2) sp))), (t3, .inl (cyI, 225, .inl (nei n2 (neo n2 ne i) i j)))] → va_S A s.heap H locs → lv_has ls 5 [(0, .ref t0), (1, .int (nI n2)), (2, .int (nI i - nI (n2 - 1))), (3, .int (nI j - nI (n2 - 1)))] → W p l e rm_X3_renew s m ([.ref t0, .int (nI n2)] : List Value).toArray below meth c H locs 0 0 (MQ below (xk_Qv D A [(t0, .inr (3, [.ref t1, .ref t2, .ref t3, .int (nI n2)])), (t1, .inl (cyI, 64, .inl (idt (n2 * n2) nu))), (t2, .inl (cyI, 64, .inl (spF n2 (n2 * n2) sp))), (t3, .inl (cyI, 225, .inl (neo n2 ne (2 * n2 - 1))))]) ([.ref t0, .int (nI n2)] : List Value).toArray s 0 0 A) (F0 m 82 ls []) := by
            intro n
            induction n with
            | zero =>
              intro j hk_82  H locs ls hP hD hS hl
              have hz_82 : 2 * n2 - 1 = j := hk_82.symm
              subst hz_82
              refine lv_iload_n hx hb dX3_renew_82 rfl (lv_at hl 3 rfl) ?_
              refine lv_iload_n hx hb dX3_renew_83 rfl (lv_at hl 1 rfl) ?_
              refine lv_icmp_ge (tgt := 114) hx hb dX3_renew_84 (by decide) (fun c_84 => ?_) (fun c_84 => xk_ba c_84 (nd_le (by omega) (by omega)))
              refine lv_iinc (v := ((nI i - nI (n2 - 1)) + 1)) (lv' := [(2, .int ((nI i - nI (n2 - 1)) + 1)), (0, .ref t0), (1, .int (nI n2)), (3, .int (nI (2 * n2 - 1) - nI (n2 - 1)))]) hx hb dX3_renew_114 hl (k := 2) rfl (rfl) (by decide) rfl (fun ls hl => ?_)
              refine lv_goto (tgt := 73) hx hb dX3_renew_117 (by decide) ?_
              have eq_53 : ((nI i - nI (n2 - 1)) + 1 : Int32) = nI (i + 1) - nI (n2 - 1) := nd_s _ _
              have eq_54 : (nei n2 (neo n2 ne i) i (2 * n2 - 1) : Nat → Int32) = neo n2 ne (i + 1) := rfl
              have eW : ([(t0, .inr (3, [.ref t1, .ref t2, .ref t3, .int (nI n2)])), (t1, .inl (cyI, 64, .inl (idt (n2 * n2) nu))), (t2, .inl (cyI, 64, .inl (spF n2 (n2 * n2) sp))), (t3, .inl (cyI, 225, .inl (nei n2 (neo n2 ne i) i (2 * n2 - 1))))] : va_W) = [(t0, .inr (3, [.ref t1, .ref t2, .ref t3, .int (nI n2)])), (t1, .inl (cyI, 64, .inl (idt (n2 * n2) nu))), (t2, .inl (cyI, 64, .inl (spF n2 (n2 * n2) sp))), (t3, .inl (cyI, 225, .inl (neo n2 ne (i + 1))))] := (congrArg (List.cons _) (congrArg (List.cons _) (congrArg (List.cons _) (congr (congrArg List.cons (congrArg (fun z => ((t3, (Sum.inl (cyI, 225, Sum.inl z) : va_E)) : Nat × va_E)) eq_54)) rfl))))
              rw [eW] at hP hD
              have hl := lv_sub (l' := [(0, .ref t0), (1, .int (nI n2)), (2, .int ((nI i - nI (n2 - 1)) + 1))]) hl [1, 2, 0] rfl
              have eL : ([(0, .ref t0), (1, .int (nI n2)), (2, .int ((nI i - nI (n2 - 1)) + 1))] : List (Nat × Value)) = [(0, .ref t0), (1, .int (nI n2)), (2, .int (nI (i + 1) - nI (n2 - 1)))] := (congrArg (List.cons _) (congrArg (List.cons _) (congr (congrArg List.cons (congrArg (fun z => (((2 : Nat), Value.int z) : Nat × Value)) eq_53)) rfl)))
              rw [eL] at hl
              exact ih_73 (i + 1) (by omega)  _ _ _ hP hD hS hl
            | succ n ih_82 =>
              intro j hk_82  H locs ls hP hD hS hl
              refine lv_iload_n hx hb dX3_renew_82 rfl (lv_at hl 3 rfl) ?_
              refine lv_iload_n hx hb dX3_renew_83 rfl (lv_at hl 1 rfl) ?_
              refine lv_icmp_ge (tgt := 114) hx hb dX3_renew_84 (by decide) (fun c_84 => xk_ab c_84 (nd_nle (by omega) (by omega))) (fun c_84 => ?_)
              refine lv_aload_n hx hb dX3_renew_87 rfl (lv_at hl 0 rfl) ?_
              refine lv_bipush (v := 112) hx hb dX3_renew_88 (by decide) ?_
              refine lv_iload_n hx hb dX3_renew_90 rfl (lv_at hl 2 rfl) ?_
              refine lv_bipush (v := 15) hx hb dX3_renew_91 (by decide) ?_
              refine lv_imul hx hb dX3_renew_93 ?_
              refine lv_iadd hx hb dX3_renew_94 ?_
              refine lv_iload_n hx hb dX3_renew_95 rfl (lv_at hl 3 rfl) ?_
              refine lv_iadd hx hb dX3_renew_96 ?_
              refine xk_topi (y := nI (nidx n2 i j)) (nidx_eq q1 q2 (by omega) (by omega)) ?_
              refine lv_iload_n hx hb dX3_renew_97 rfl (lv_at hl 3 rfl) ?_
              refine va_mabs hx hb (hml.trans hl.1.symm) hown (hts (.methodLink RX3 33 Lib.Math.abs.name) (by decide +kernel)) (hts (.static Lib.Math.abs.name) (by decide +kernel)) (hts (.initialized "java/lang/Math") (by decide +kernel)) (hts (.code Lib.Math.abs.name Lib.Math.abs.code 1 (some .int)) (by decide +kernel)) (Nat.le_of_ble_eq_true rfl) (Nat.le_of_ble_eq_true rfl) (Nat.zero_le _) (Nat.zero_le _) dX3_renew_98 ?_
              refine xk_topi (y := nI (adf j (n2 - 1))) (nabs (by omega) (by omega)) ?_
              refine lv_iload_n hx hb dX3_renew_101 rfl (lv_at hl 2 rfl) ?_
              refine va_mabs hx hb (hml.trans hl.1.symm) hown (hts (.methodLink RX3 33 Lib.Math.abs.name) (by decide +kernel)) (hts (.static Lib.Math.abs.name) (by decide +kernel)) (hts (.initialized "java/lang/Math") (by decide +kernel)) (hts (.code Lib.Math.abs.name Lib.Math.abs.code 1 (some .int)) (by decide +kernel)) (Nat.le_of_ble_eq_true rfl) (Nat.le_of_ble_eq_true rfl) (Nat.zero_le _) (Nat.zero_le _) dX3_renew_102 ?_
              refine xk_topi (y := nI (adf i (n2 - 1))) (nabs (by omega) (by omega)) ?_
              have hPc := hP.sub (ws' := [(t0, .inr (3, [.ref t1, .ref t2, .ref t3, .int (nI n2)])), (t1, .inl (cyI, 64, .inl (idt (n2 * n2) nu))), (t2, .inl (cyI, 64, .inl (spF n2 (n2 * n2) sp))), (t3, .inl (cyI, 225, .inl (nei n2 (neo n2 ne i) i j)))]) [0, 1, 2, 3] rfl
              have hDc := hD.sub (ws' := [(t0, .inr (3, [.ref t1, .ref t2, .ref t3, .int (nI n2)])), (t1, .inl (cyI, 64, .inl (idt (n2 * n2) nu))), (t2, .inl (cyI, 64, .inl (spF n2 (n2 * n2) sp))), (t3, .inl (cyI, 225, .inl (nei n2 (neo n2 ne i) i j)))]) [0, 1, 2, 3] (by decide) rfl
              refine xk_callv (wr := []) (w2 := [(t0, .inr (3, [.ref t1, .ref t2, .ref t3, .int (nI n2)])), (t1, .inl (cyI, 64, .inl (idt (n2 * n2) nu))), (t2, .inl (cyI, 64, .inl (spF n2 (n2 * n2) sp))), (t3, .inl (cyI, 225, .inl (upd (nei n2 (neo n2 ne i) i j) (nidx n2 i j) (nrv n2 (nI (adf j (n2 - 1))) (nI (adf i (n2 - 1)))))))]) (va_runV (As := [.int (nI (nidx n2 i j)), .int (nI (adf j (n2 - 1))), .int (nI (adf i (n2 - 1)))]) (rest := []) hC0 (ct_X3_setNearness l D cyI cyZ t0 t1 t2 t3 _ n2 (idt (n2 * n2) nu) (spF n2 (n2 * n2) sp) (nei n2 (neo n2 ne i) i j) (nidx n2 i j) (nI (adf j (n2 - 1))) (nI (adf i (n2 - 1))) (nidx_lt q1 q2 (by omega) (by omega))) (cwV 3 hts gX3_renew_X3_setNearness rfl rfl rfl (by decide +kernel) ⟨Nat.le_of_ble_eq_true rfl, Nat.le_of_ble_eq_true rfl⟩) ⟨xk_blind, va_recv hK hPc (ci := 3) (q0 := 0) rfl rfl, xk_pre hK hN hPc hDc⟩ rfl rfl hl.1 rfl (lv_room (Nat.le_of_ble_eq_true rfl)) dX3_renew_105 ⟨Nat.le_of_ble_eq_true rfl, Nat.le_of_ble_eq_true rfl⟩) hP hD hS hA [0, 1, 2, 3] [] [0, 1, 2, 3] rfl rfl (by decide) (by decide) rfl (by decide) (fun H locs hP hD hS => ?_)
              refine lv_iinc (v := ((nI j - nI (n2 - 1)) + 1)) (lv' := [(3, .int ((nI j - nI (n2 - 1)) + 1)), (0, .ref t0), (1, .int (nI n2)), (2, .int (nI i - nI (n2 - 1)))]) hx hb dX3_renew_108 hl (k := 3) rfl (rfl) (by decide) rfl (fun ls hl => ?_)
              refine lv_goto (tgt := 82) hx hb dX3_renew_111 (by decide) ?_
              have eq_86 : ((nI j - nI (n2 - 1)) + 1 : Int32) = nI (j + 1) - nI (n2 - 1) := nd_s _ _
              have eq_87 : (upd (nei n2 (neo n2 ne i) i j) (nidx n2 i j) (nrv n2 (nI (adf j (n2 - 1))) (nI (adf i (n2 - 1)))) : Nat → Int32) = nei n2 (neo n2 ne i) i (j + 1) := rfl
              have eW : ([(t0, .inr (3, [.ref t1, .ref t2, .ref t3, .int (nI n2)])), (t1, .inl (cyI, 64, .inl (idt (n2 * n2) nu))), (t2, .inl (cyI, 64, .inl (spF n2 (n2 * n2) sp))), (t3, .inl (cyI, 225, .inl (upd (nei n2 (neo n2 ne i) i j) (nidx n2 i j) (nrv n2 (nI (adf j (n2 - 1))) (nI (adf i (n2 - 1)))))))] : va_W) = [(t0, .inr (3, [.ref t1, .ref t2, .ref t3, .int (nI n2)])), (t1, .inl (cyI, 64, .inl (idt (n2 * n2) nu))), (t2, .inl (cyI, 64, .inl (spF n2 (n2 * n2) sp))), (t3, .inl (cyI, 225, .inl (nei n2 (neo n2 ne i) i (j + 1))))] := (congrArg (List.cons _) (congrArg (List.cons _) (congrArg (List.cons _) (congr (congrArg List.cons (congrArg (fun z => ((t3, (Sum.inl (cyI, 225, Sum.inl z) : va_E)) : Nat × va_E)) eq_87)) rfl))))
              rw [eW] at hP hD
              have hl := lv_sub (l' := [(0, .ref t0), (1, .int (nI n2)), (2, .int (nI i - nI (n2 - 1))), (3, .int ((nI j - nI (n2 - 1)) + 1))]) hl [1, 2, 3, 0] rfl
              have eL : ([(0, .ref t0), (1, .int (nI n2)), (2, .int (nI i - nI (n2 - 1))), (3, .int ((nI j - nI (n2 - 1)) + 1))] : List (Nat × Value)) = [(0, .ref t0), (1, .int (nI n2)), (2, .int (nI i - nI (n2 - 1))), (3, .int (nI (j + 1) - nI (n2 - 1)))] := (congrArg (List.cons _) (congrArg (List.cons _) (congrArg (List.cons _) (congr (congrArg List.cons (congrArg (fun z => (((3 : Nat), Value.int z) : Nat × Value)) eq_86)) rfl))))
              rw [eL] at hl
              exact ih_82 (j + 1) (by omega)  _ _ _ hP hD hS hl
          have eq_94 : (1 - nI n2 : Int32) = nI 0 - nI (n2 - 1) := nd_0 q1
          have eq_95 : (neo n2 ne i : Nat → Int32) = nei n2 (neo n2 ne i) i 0 := rfl
          have eW : ([(t0, .inr (3, [.ref t1, .ref t2, .ref t3, .int (nI n2)])), (t1, .inl (cyI, 64, .inl (idt (n2 * n2) nu))), (t2, .inl (cyI, 64, .inl (spF n2 (n2 * n2) sp))), (t3, .inl (cyI, 225, .inl (neo n2 ne i)))] : va_W) = [(t0, .inr (3, [.ref t1, .ref t2, .ref t3, .int (nI n2)])), (t1, .inl (cyI, 64, .inl (idt (n2 * n2) nu))), (t2, .inl (cyI, 64, .inl (spF n2 (n2 * n2) sp))), (t3, .inl (cyI, 225, .inl (nei n2 (neo n2 ne i) i 0)))] := (congrArg (List.cons _) (congrArg (List.cons _) (congrArg (List.cons _) (congr (congrArg List.cons (congrArg (fun z => ((t3, (Sum.inl (cyI, 225, Sum.inl z) : va_E)) : Nat × va_E)) eq_95)) rfl))))
          rw [eW] at hP hD
          have hl := lv_sub (l' := [(0, .ref t0), (1, .int (nI n2)), (2, .int (nI i - nI (n2 - 1))), (3, .int (1 - nI n2))]) hl [1, 2, 3, 0] rfl
          have eL : ([(0, .ref t0), (1, .int (nI n2)), (2, .int (nI i - nI (n2 - 1))), (3, .int (1 - nI n2))] : List (Nat × Value)) = [(0, .ref t0), (1, .int (nI n2)), (2, .int (nI i - nI (n2 - 1))), (3, .int (nI 0 - nI (n2 - 1)))] := (congrArg (List.cons _) (congrArg (List.cons _) (congrArg (List.cons _) (congr (congrArg List.cons (congrArg (fun z => (((3 : Nat), Value.int z) : Nat × Value)) eq_94)) rfl))))
          rw [eL] at hl
          exact L82 _ 0 (Nat.zero_add _)  _ _ _ hP hD hS hl
      have eq_102 : (1 - nI n2 : Int32) = nI 0 - nI (n2 - 1) := nd_0 q1
      have eq_103 : (ne : Nat → Int32) = neo n2 ne 0 := rfl
      have eW : ([(t0, .inr (3, [.ref t1, .ref t2, .ref t3, .int (nI n2)])), (t1, .inl (cyI, 64, .inl (idt (n2 * n2) nu))), (t2, .inl (cyI, 64, .inl (spF n2 (n2 * n2) sp))), (t3, .inl (cyI, 225, .inl ne))] : va_W) = [(t0, .inr (3, [.ref t1, .ref t2, .ref t3, .int (nI n2)])), (t1, .inl (cyI, 64, .inl (idt (n2 * n2) nu))), (t2, .inl (cyI, 64, .inl (spF n2 (n2 * n2) sp))), (t3, .inl (cyI, 225, .inl (neo n2 ne 0)))] := (congrArg (List.cons _) (congrArg (List.cons _) (congrArg (List.cons _) (congr (congrArg List.cons (congrArg (fun z => ((t3, (Sum.inl (cyI, 225, Sum.inl z) : va_E)) : Nat × va_E)) eq_103)) rfl))))
      rw [eW] at hP hD
      have hl := lv_sub (l' := [(0, .ref t0), (1, .int (nI n2)), (2, .int (1 - nI n2))]) hl [1, 2, 0] rfl
      have eL : ([(0, .ref t0), (1, .int (nI n2)), (2, .int (1 - nI n2))] : List (Nat × Value)) = [(0, .ref t0), (1, .int (nI n2)), (2, .int (nI 0 - nI (n2 - 1)))] := (congrArg (List.cons _) (congrArg (List.cons _) (congr (congrArg List.cons (congrArg (fun z => (((2 : Nat), Value.int z) : Nat × Value)) eq_102)) rfl)))
      rw [eL] at hl
      exact L73 _ 0 (Nat.zero_add _)  _ _ _ hP hD hS hl
    | succ n ih_7 =>
      intro i hk_7  H locs ls hP hD hS hl
      refine lv_iload_n hx hb dX3_renew_7 rfl (lv_at hl 2 rfl) ?_
      refine lv_iload_n hx hb dX3_renew_8 rfl (lv_at hl 1 rfl) ?_
      refine lv_icmp_ge (tgt := 69) hx hb dX3_renew_9 (by decide) (fun c_9 => xk_ab c_9 (nI_ge (by omega) (by omega))) (fun c_9 => ?_)
      refine lv_iconst (v := 0) hx hb dX3_renew_12 (by decide) ?_
      refine lv_istore_n (lv' := [(3, .int 0), (0, .ref t0), (1, .int (nI n2)), (2, .int (nI i))]) hx hb dX3_renew_13 rfl hl (by decide) rfl (fun ls hl => ?_)
      have L14 : ∀ (n j : Nat), j + n = n2 → ∀ (H : Heap) (locs : List Loc) (ls : Array Slot), va_P D vwCl [(t0, .inr (3, [.ref t1, .ref t2, .ref t3, .int (nI n2)])), (t1, .inl (cyI, 64, .inl (idt (i * n2 + j) nu))), (t2, .inl (cyI, 64, .inl (spF n2 (i * n2 + j) sp))), (t3, .inl (cyI, 225, .inl ne))] H → va_D A [(t0, .inr (3, [.ref t1, .ref t2, .ref t3, .int (nI n2)])), (t1, .inl (cyI, 64, .inl (idt (i * n2 + j) nu))), (t2, .inl (cyI, 64, .inl (spF n2 (i * n2 + j) sp))), (t3, .inl (cyI, 225, .inl ne))] → va_S A s.heap H locs → lv_has ls 5 [(0, .ref t0), (1, .int (nI n2)), (2, .int (nI i)), (3, .int (nI j))] → W p l e rm_X3_renew s m ([.ref t0, .int (nI n2)] : List Value).toArray below meth c H locs 0 0 (MQ below (xk_Qv D A [(t0, .inr (3, [.ref t1, .ref t2, .ref t3, .int (nI n2)])), (t1, .inl (cyI, 64, .inl (idt (n2 * n2) nu))), (t2, .inl (cyI, 64, .inl (spF n2 (n2 * n2) sp))), (t3, .inl (cyI, 225, .inl (neo n2 ne (2 * n2 - 1))))]) ([.ref t0, .int (nI n2)] : List Value).toArray s 0 0 A) (F0 m 14 ls []) := by
        intro n
        induction n with
        | zero =>
          intro j hk_14  H locs ls hP hD hS hl
          have hz_14 : n2 = j := hk_14.symm
          subst hz_14
          refine lv_iload_n hx hb dX3_renew_14 rfl (lv_at hl 3 rfl) ?_
          refine lv_iload_n hx hb dX3_renew_15 rfl (lv_at hl 1 rfl) ?_
          refine lv_icmp_ge (tgt := 63) hx hb dX3_renew_16 (by decide) (fun c_16 => ?_) (fun c_16 => xk_ba c_16 (nI_le (Nat.le_refl _) (by omega)))
          refine lv_iinc (v := nI (i + 1)) (lv' := [(2, .int (nI (i + 1))), (0, .ref t0), (1, .int (nI n2)), (3, .int (nI n2))]) hx hb dX3_renew_63 hl (k := 2) rfl (nI_1 _) (by decide) rfl (fun ls hl => ?_)
          refine lv_goto (tgt := 7) hx hb dX3_renew_66 (by decide) ?_
          have eq_129 : (idt (i * n2 + n2) nu : Nat → Int32) = idt ((i + 1) * n2) nu := by rw [Nat.succ_mul]
          have eq_130 : (spF n2 (i * n2 + n2) sp : Nat → Int32) = spF n2 ((i + 1) * n2) sp := by rw [Nat.succ_mul]
          have eW : ([(t0, .inr (3, [.ref t1, .ref t2, .ref t3, .int (nI n2)])), (t1, .inl (cyI, 64, .inl (idt (i * n2 + n2) nu))), (t2, .inl (cyI, 64, .inl (spF n2 (i * n2 + n2) sp))), (t3, .inl (cyI, 225, .inl ne))] : va_W) = [(t0, .inr (3, [.ref t1, .ref t2, .ref t3, .int (nI n2)])), (t1, .inl (cyI, 64, .inl (idt ((i + 1) * n2) nu))), (t2, .inl (cyI, 64, .inl (spF n2 ((i + 1) * n2) sp))), (t3, .inl (cyI, 225, .inl ne))] := (congrArg (List.cons _) (congr (congrArg List.cons (congrArg (fun z => ((t1, (Sum.inl (cyI, 64, Sum.inl z) : va_E)) : Nat × va_E)) eq_129)) (congr (congrArg List.cons (congrArg (fun z => ((t2, (Sum.inl (cyI, 64, Sum.inl z) : va_E)) : Nat × va_E)) eq_130)) (congrArg (List.cons _) rfl))))
          rw [eW] at hP hD
          have hl := lv_sub (l' := [(0, .ref t0), (1, .int (nI n2)), (2, .int (nI (i + 1)))]) hl [1, 2, 0] rfl
          exact ih_7 (i + 1) (by omega)  _ _ _ hP hD hS hl
        | succ n ih_14 =>
          intro j hk_14  H locs ls hP hD hS hl
          refine lv_iload_n hx hb dX3_renew_14 rfl (lv_at hl 3 rfl) ?_
          refine lv_iload_n hx hb dX3_renew_15 rfl (lv_at hl 1 rfl) ?_
          refine lv_icmp_ge (tgt := 63) hx hb dX3_renew_16 (by decide) (fun c_16 => xk_ab c_16 (nI_ge (by omega) (by omega))) (fun c_16 => ?_)
          refine lv_iload_n hx hb dX3_renew_19 rfl (lv_at hl 2 rfl) ?_
          refine lv_iload_n hx hb dX3_renew_20 rfl (lv_at hl 1 rfl) ?_
          refine lv_imul hx hb dX3_renew_21 ?_
          refine lv_iload_n hx hb dX3_renew_22 rfl (lv_at hl 3 rfl) ?_
          refine lv_iadd hx hb dX3_renew_23 ?_
          refine xk_topi (y := nI (i * n2 + j)) (by rw [pk_mul, nI_add]) ?_
          refine lv_istore (lv' := [(4, .int (nI (i * n2 + j))), (0, .ref t0), (1, .int (nI n2)), (2, .int (nI i)), (3, .int (nI j))]) hx hb dX3_renew_24 hl (by decide) rfl (fun ls hl => ?_)
          refine lv_aload_n hx hb dX3_renew_26 rfl (lv_at hl 1 rfl) ?_
          refine lv_iload hx hb dX3_renew_27 (lv_at hl 0 rfl) ?_
          have hij : i * n2 + j < n2 * n2 := ij_lt (by omega) (by omega)
          have hPc := hP.sub (ws' := [(t0, .inr (3, [.ref t1, .ref t2, .ref t3, .int (nI n2)])), (t1, .inl (cyI, 64, .inl (idt (i * n2 + j) nu))), (t2, .inl (cyI, 64, .inl (spF n2 (i * n2 + j) sp))), (t3, .inl (cyI, 225, .inl ne))]) [0, 1, 2, 3] rfl
          have hDc := hD.sub (ws' := [(t0, .inr (3, [.ref t1, .ref t2, .ref t3, .int (nI n2)])), (t1, .inl (cyI, 64, .inl (idt (i * n2 + j) nu))), (t2, .inl (cyI, 64, .inl (spF n2 (i * n2 + j) sp))), (t3, .inl (cyI, 225, .inl ne))]) [0, 1, 2, 3] (by decide) rfl
          refine xk_calli (wr := []) (w2 := [(t0, .inr (3, [.ref t1, .ref t2, .ref t3, .int (nI n2)])), (t1, .inl (cyI, 64, .inl (idt (i * n2 + j) nu))), (t2, .inl (cyI, 64, .inl (spF n2 (i * n2 + j) sp))), (t3, .inl (cyI, 225, .inl ne))]) (va_runV (As := [.int (nI (i * n2 + j))]) (rest := []) hC0 (ct_X3_has l D cyI cyZ t0 t1 t2 t3 _ n2 (idt (i * n2 + j) nu) (spF n2 (i * n2 + j) sp) ne (nI (i * n2 + j)) (q2)) (cwV 1 hts gX3_renew_X3_has rfl rfl rfl (by decide +kernel) ⟨Nat.le_of_ble_eq_true rfl, Nat.le_of_ble_eq_true rfl⟩) ⟨xk_blind, va_recv hK hPc (ci := 3) (q0 := 0) rfl rfl, xk_pre hK hN hPc hDc⟩ rfl rfl hl.1 rfl (lv_room (Nat.le_of_ble_eq_true rfl)) dX3_renew_29 ⟨Nat.le_of_ble_eq_true rfl, Nat.le_of_ble_eq_true rfl⟩) hP hD hS hA [0, 1, 2, 3] [] [0, 1, 2, 3] rfl rfl (by decide) (by decide) rfl (by decide) (fun H locs hP hD hS => ?_)
          refine lv_if_eq (tgt := 57) hx hb dX3_renew_32 (by decide) (fun c_32 => xk_ab c_32 (bI_nz.mpr (st_has_in q2 hij))) (fun c_32 => ?_)
          have c_32 := bI_nz.mp c_32
          refine lv_aload_n hx hb dX3_renew_35 rfl (lv_at hl 1 rfl) ?_
          refine va_get (D := D) (ci := 3) (v := .ref t1) (C := RX3) (T := TX3) (N := 4) hx hb hts in_X3_renew_X3 hown hK hP 0 rfl rfl 0 (by decide) hf11 (fun _ h9 => h9) rfl dX3_renew_36 ?_
          refine lv_iload hx hb dX3_renew_39 (lv_at hl 0 rfl) ?_
          refine lv_iload hx hb dX3_renew_41 (lv_at hl 0 rfl) ?_
          refine xk_iast (w2 := [(t0, .inr (3, [.ref t1, .ref t2, .ref t3, .int (nI n2)])), (t1, .inl (cyI, 64, .inl (upd (idt (i * n2 + j) nu) (i * n2 + j) (nI (i * n2 + j))))), (t2, .inl (cyI, 64, .inl (spF n2 (i * n2 + j) sp))), (t3, .inl (cyI, 225, .inl ne))]) hx hb hK hP hD hS 1 rfl (i * n2 + j) (rfl) (by omega) (by decide) rfl dX3_renew_43 (fun H locs hP hD hS => ?_)
          refine lv_aload_n hx hb dX3_renew_44 rfl (lv_at hl 1 rfl) ?_
          refine va_get (D := D) (ci := 3) (v := .ref t2) (C := RX3) (T := TX3) (N := 4) hx hb hts in_X3_renew_X3 hown hK hP 0 rfl rfl 1 (by decide) hf15 (fun _ h9 => h9) rfl dX3_renew_45 ?_
          refine lv_iload hx hb dX3_renew_48 (lv_at hl 0 rfl) ?_
          refine lv_iload_n hx hb dX3_renew_50 rfl (lv_at hl 3 rfl) ?_
          refine lv_bipush (v := 15) hx hb dX3_renew_51 (by decide) ?_
          refine lv_imul hx hb dX3_renew_53 ?_
          refine lv_iload_n hx hb dX3_renew_54 rfl (lv_at hl 4 rfl) ?_
          refine lv_iadd hx hb dX3_renew_55 ?_
          refine xk_topi (y := nI (i * 15 + j)) (by rw [show (15 : Int32) = nI 15 from rfl, pk_mul, nI_add]) ?_
          refine xk_iast (w2 := [(t0, .inr (3, [.ref t1, .ref t2, .ref t3, .int (nI n2)])), (t1, .inl (cyI, 64, .inl (upd (idt (i * n2 + j) nu) (i * n2 + j) (nI (i * n2 + j))))), (t2, .inl (cyI, 64, .inl (upd (spF n2 (i * n2 + j) sp) (i * n2 + j) (nI (i * 15 + j))))), (t3, .inl (cyI, 225, .inl ne))]) hx hb hK hP hD hS 2 rfl (i * n2 + j) (rfl) (by omega) (by decide) rfl dX3_renew_56 (fun H locs hP hD hS => ?_)
          refine lv_iinc (v := nI (j + 1)) (lv' := [(3, .int (nI (j + 1))), (4, .int (nI (i * n2 + j))), (0, .ref t0), (1, .int (nI n2)), (2, .int (nI i))]) hx hb dX3_renew_57 hl (k := 4) rfl (nI_1 _) (by decide) rfl (fun ls hl => ?_)
          refine lv_goto (tgt := 14) hx hb dX3_renew_60 (by decide) ?_
          have eq_172 : (upd (idt (i * n2 + j) nu) (i * n2 + j) (nI (i * n2 + j)) : Nat → Int32) = idt (i * n2 + (j + 1)) nu := idt_s _ _
          have eq_173 : (upd (spF n2 (i * n2 + j) sp) (i * n2 + j) (nI (i * 15 + j)) : Nat → Int32) = spF n2 (i * n2 + (j + 1)) sp := spF_s (by omega)
          have eW : ([(t0, .inr (3, [.ref t1, .ref t2, .ref t3, .int (nI n2)])), (t1, .inl (cyI, 64, .inl (upd (idt (i * n2 + j) nu) (i * n2 + j) (nI (i * n2 + j))))), (t2, .inl (cyI, 64, .inl (upd (spF n2 (i * n2 + j) sp) (i * n2 + j) (nI (i * 15 + j))))), (t3, .inl (cyI, 225, .inl ne))] : va_W) = [(t0, .inr (3, [.ref t1, .ref t2, .ref t3, .int (nI n2)])), (t1, .inl (cyI, 64, .inl (idt (i * n2 + (j + 1)) nu))), (t2, .inl (cyI, 64, .inl (spF n2 (i * n2 + (j + 1)) sp))), (t3, .inl (cyI, 225, .inl ne))] := (congrArg (List.cons _) (congr (congrArg List.cons (congrArg (fun z => ((t1, (Sum.inl (cyI, 64, Sum.inl z) : va_E)) : Nat × va_E)) eq_172)) (congr (congrArg List.cons (congrArg (fun z => ((t2, (Sum.inl (cyI, 64, Sum.inl z) : va_E)) : Nat × va_E)) eq_173)) (congrArg (List.cons _) rfl))))
          rw [eW] at hP hD
          have hl := lv_sub (l' := [(0, .ref t0), (1, .int (nI n2)), (2, .int (nI i)), (3, .int (nI (j + 1)))]) hl [2, 3, 4, 0] rfl
          exact ih_14 (j + 1) (by omega)  _ _ _ hP hD hS hl
      have eq_178 : (0 : Int32) = nI 0 := rfl
      have eq_179 : (idt (i * n2) nu : Nat → Int32) = idt (i * n2 + 0) nu := rfl
      have eq_180 : (spF n2 (i * n2) sp : Nat → Int32) = spF n2 (i * n2 + 0) sp := rfl
      have eW : ([(t0, .inr (3, [.ref t1, .ref t2, .ref t3, .int (nI n2)])), (t1, .inl (cyI, 64, .inl (idt (i * n2) nu))), (t2, .inl (cyI, 64, .inl (spF n2 (i * n2) sp))), (t3, .inl (cyI, 225, .inl ne))] : va_W) = [(t0, .inr (3, [.ref t1, .ref t2, .ref t3, .int (nI n2)])), (t1, .inl (cyI, 64, .inl (idt (i * n2 + 0) nu))), (t2, .inl (cyI, 64, .inl (spF n2 (i * n2 + 0) sp))), (t3, .inl (cyI, 225, .inl ne))] := (congrArg (List.cons _) (congr (congrArg List.cons (congrArg (fun z => ((t1, (Sum.inl (cyI, 64, Sum.inl z) : va_E)) : Nat × va_E)) eq_179)) (congr (congrArg List.cons (congrArg (fun z => ((t2, (Sum.inl (cyI, 64, Sum.inl z) : va_E)) : Nat × va_E)) eq_180)) (congrArg (List.cons _) rfl))))
      rw [eW] at hP hD
      have hl := lv_sub (l' := [(0, .ref t0), (1, .int (nI n2)), (2, .int (nI i)), (3, .int 0)]) hl [1, 2, 3, 0] rfl
      have eL : ([(0, .ref t0), (1, .int (nI n2)), (2, .int (nI i)), (3, .int 0)] : List (Nat × Value)) = [(0, .ref t0), (1, .int (nI n2)), (2, .int (nI i)), (3, .int (nI 0))] := (congrArg (List.cons _) (congrArg (List.cons _) (congrArg (List.cons _) (congr (congrArg List.cons (congrArg (fun z => (((3 : Nat), Value.int z) : Nat × Value)) eq_178)) rfl))))
      rw [eL] at hl
      exact L14 _ 0 (Nat.zero_add _)  _ _ _ hP hD hS hl
  have eq_187 : (0 : Int32) = nI 0 := rfl
  have eq_188 : (nu : Nat → Int32) = idt (0 * n2) nu := by rw [Nat.zero_mul, idt_0]
  have eq_189 : (sp : Nat → Int32) = spF n2 (0 * n2) sp := by rw [Nat.zero_mul, spF_0]
  have eW : ([(t0, .inr (3, [.ref t1, .ref t2, .ref t3, .int (nI n2)])), (t1, .inl (cyI, 64, .inl nu)), (t2, .inl (cyI, 64, .inl sp)), (t3, .inl (cyI, 225, .inl ne))] : va_W) = [(t0, .inr (3, [.ref t1, .ref t2, .ref t3, .int (nI n2)])), (t1, .inl (cyI, 64, .inl (idt (0 * n2) nu))), (t2, .inl (cyI, 64, .inl (spF n2 (0 * n2) sp))), (t3, .inl (cyI, 225, .inl ne))] := (congrArg (List.cons _) (congr (congrArg List.cons (congrArg (fun z => ((t1, (Sum.inl (cyI, 64, Sum.inl z) : va_E)) : Nat × va_E)) eq_188)) (congr (congrArg List.cons (congrArg (fun z => ((t2, (Sum.inl (cyI, 64, Sum.inl z) : va_E)) : Nat × va_E)) eq_189)) (congrArg (List.cons _) rfl))))
  rw [eW] at hP hD
  have hl := lv_sub (l' := [(0, .ref t0), (1, .int (nI n2)), (2, .int 0)]) hl [1, 2, 0] rfl
  have eL : ([(0, .ref t0), (1, .int (nI n2)), (2, .int 0)] : List (Nat × Value)) = [(0, .ref t0), (1, .int (nI n2)), (2, .int (nI 0))] := (congrArg (List.cons _) (congrArg (List.cons _) (congr (congrArg List.cons (congrArg (fun z => (((2 : Nat), Value.int z) : Nat × Value)) eq_187)) rfl)))
  rw [eL] at hl
  exact L7 _ 0 (Nat.zero_add _)  _ _ _ hP hD hS hl
