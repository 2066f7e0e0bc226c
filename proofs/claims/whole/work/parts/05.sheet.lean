/-! Sheet: its methods' contracts -/
abbrev rm_X2_allows : Room := { frames := 0, cells := 0, slots := 0, locals := 0 }
set_option maxHeartbeats 4000000 in
set_option maxRecDepth 100000 in
theorem ct_X2_allows (l : Launch) (D : va_G) (cyI cyZ : ClassId) (sz : Nat) (x : Int32)  : Met l yX2_allows wsX2_allows rm_X2_allows (xk_Pc D cyI cyZ [.int x] [] sz) (xk_Qi D (va_A [] sz) (bI (¬ x < 1 ∧ ¬ 24 < x)) []) 0 0 (va_A [] sz) := by
  refine xk_of (own := RX2) (cc := cX2_allows) (maxL := 1) (ret := (some .boolean)) (Qc := fun A => xk_Qi D A (bI (¬ x < 1 ∧ ¬ 24 < x)) []) (by decide) rfl rfl (Nat.le_of_ble_eq_true rfl) ?_
  intro p e s m below meth c A ls hx hb hr hml hown hlocks hin hts hA hP hK hN hD hS hl
  have hC0 := xk_fix hx hb hml hown hts
  have hl : lv_has ls 1 [(0, .int x)] := hl
  refine lv_iload_n hx hb dX2_allows_0 rfl (lv_at hl 0 rfl) ?_
  refine lv_iconst (v := 1) hx hb dX2_allows_1 (by decide) ?_
  refine lv_icmp_lt (tgt := 15) hx hb dX2_allows_2 (by decide) (fun c_2 => ?_) (fun c_2 => ?_)
  · refine lv_iconst (v := 0) hx hb dX2_allows_15 (by decide) ?_
    exact xk_zret hx hb hr hlocks hP hD hS (bI_0 (fun h => by first | exact absurd c_2 h.1 | exact c_2 h.1)) (rfl) (bI_nar _) dX2_allows_16
  · refine lv_iload_n hx hb dX2_allows_5 rfl (lv_at hl 0 rfl) ?_
    refine lv_bipush (v := 24) hx hb dX2_allows_6 (by decide) ?_
    refine lv_icmp_gt (tgt := 15) hx hb dX2_allows_8 (by decide) (fun c_8 => ?_) (fun c_8 => ?_)
    · refine lv_iconst (v := 0) hx hb dX2_allows_15 (by decide) ?_
      exact xk_zret hx hb hr hlocks hP hD hS (bI_0 (fun h => by first | exact absurd c_8 h.2 | exact c_8 h.2)) (rfl) (bI_nar _) dX2_allows_16
    · refine lv_iconst (v := 1) hx hb dX2_allows_11 (by decide) ?_
      refine lv_goto (tgt := 16) hx hb dX2_allows_12 (by decide) ?_
      exact xk_zret hx hb hr hlocks hP hD hS (bI_1 ⟨c_2, c_8⟩) (rfl) (bI_nar _) dX2_allows_16

abbrev rm_X2_spot : Room := { frames := 0, cells := 0, slots := 0, locals := 0 }
set_option maxHeartbeats 4000000 in
set_option maxRecDepth 100000 in
theorem ct_X2_spot (l : Launch) (D : va_G) (cyI cyZ : ClassId) (sz : Nat) (x y : Int32)  : Met l yX2_spot wsX2_spot rm_X2_spot (xk_Pc D cyI cyZ [.int x, .int y] [] sz) (xk_Qi D (va_A [] sz) (y * 24 + x) []) 0 0 (va_A [] sz) := by
  refine xk_of (own := RX2) (cc := cX2_spot) (maxL := 2) (ret := (some .int)) (Qc := fun A => xk_Qi D A (y * 24 + x) []) (by decide) rfl rfl (Nat.le_of_ble_eq_true rfl) ?_
  intro p e s m below meth c A ls hx hb hr hml hown hlocks hin hts hA hP hK hN hD hS hl
  have hC0 := xk_fix hx hb hml hown hts
  have hl : lv_has ls 2 [(0, .int x), (1, .int y)] := hl
  refine lv_iload_n hx hb dX2_spot_0 rfl (lv_at hl 1 rfl) ?_
  refine lv_bipush (v := 24) hx hb dX2_spot_1 (by decide) ?_
  refine lv_imul hx hb dX2_spot_3 ?_
  refine lv_iload_n hx hb dX2_spot_4 rfl (lv_at hl 0 rfl) ?_
  refine lv_iadd hx hb dX2_spot_5 ?_
  exact xk_iret hx hb hr hlocks hP hD hS (rfl) (rfl) dX2_spot_6

abbrev rm_X2_width : Room := { frames := 0, cells := 0, slots := 0, locals := 0 }
theorem in_X2_width_X2 : ∀ w ∈ u_ws RX2 TX2 4, w ∈ wsX2_width := by decide +kernel
set_option maxHeartbeats 4000000 in
set_option maxRecDepth 100000 in
theorem ct_X2_width (l : Launch) (D : va_G) (cyI cyZ : ClassId) (h0 h1 h2 : Nat) (sz : Nat) (Wd Hh : Nat) (g ln : Nat → Int32)  : Met l yX2_width wsX2_width rm_X2_width (xk_Pc D cyI cyZ [.ref h0] [(h0, .inr (2, [.ref h1, .ref h2, .int (nI Wd), .int (nI Hh)])), (h1, .inl (cyI, 576, .inl g)), (h2, .inl (cyZ, 576, .inl ln))] sz) (xk_Qi D (va_A [(h0, .inr (2, [.ref h1, .ref h2, .int (nI Wd), .int (nI Hh)])), (h1, .inl (cyI, 576, .inl g)), (h2, .inl (cyZ, 576, .inl ln))] sz) (nI Wd) [(h0, .inr (2, [.ref h1, .ref h2, .int (nI Wd), .int (nI Hh)])), (h1, .inl (cyI, 576, .inl g)), (h2, .inl (cyZ, 576, .inl ln))]) 0 0 (va_A [(h0, .inr (2, [.ref h1, .ref h2, .int (nI Wd), .int (nI Hh)])), (h1, .inl (cyI, 576, .inl g)), (h2, .inl (cyZ, 576, .inl ln))] sz) := by
  refine xk_of (own := RX2) (cc := cX2_width) (maxL := 1) (ret := (some .int)) (Qc := fun A => xk_Qi D A (nI Wd) [(h0, .inr (2, [.ref h1, .ref h2, .int (nI Wd), .int (nI Hh)])), (h1, .inl (cyI, 576, .inl g)), (h2, .inl (cyZ, 576, .inl ln))]) (by decide) rfl rfl (Nat.le_of_ble_eq_true rfl) ?_
  intro p e s m below meth c A ls hx hb hr hml hown hlocks hin hts hA hP hK hN hD hS hl
  have hC0 := xk_fix hx hb hml hown hts
  have hl : lv_has ls 1 [(0, .ref h0)] := hl
  have hf17 := hts (.fieldLink RX2 17 "DotPress$Sheet" "width" "I") (by decide +kernel)
  refine lv_aload_n hx hb dX2_width_0 rfl (lv_at hl 0 rfl) ?_
  refine va_get (D := D) (ci := 2) (v := .int (nI Wd)) (C := RX2) (T := TX2) (N := 4) hx hb hts in_X2_width_X2 hown hK hP 0 rfl rfl 2 (by decide) hf17 (fun _ h9 => h9) rfl dX2_width_1 ?_
  exact xk_iret hx hb hr hlocks hP hD hS (rfl) (rfl) dX2_width_4

abbrev rm_X2_height : Room := { frames := 0, cells := 0, slots := 0, locals := 0 }
theorem in_X2_height_X2 : ∀ w ∈ u_ws RX2 TX2 4, w ∈ wsX2_height := by decide +kernel
set_option maxHeartbeats 4000000 in
set_option maxRecDepth 100000 in
theorem ct_X2_height (l : Launch) (D : va_G) (cyI cyZ : ClassId) (h0 h1 h2 : Nat) (sz : Nat) (Wd Hh : Nat) (g ln : Nat → Int32)  : Met l yX2_height wsX2_height rm_X2_height (xk_Pc D cyI cyZ [.ref h0] [(h0, .inr (2, [.ref h1, .ref h2, .int (nI Wd), .int (nI Hh)])), (h1, .inl (cyI, 576, .inl g)), (h2, .inl (cyZ, 576, .inl ln))] sz) (xk_Qi D (va_A [(h0, .inr (2, [.ref h1, .ref h2, .int (nI Wd), .int (nI Hh)])), (h1, .inl (cyI, 576, .inl g)), (h2, .inl (cyZ, 576, .inl ln))] sz) (nI Hh) [(h0, .inr (2, [.ref h1, .ref h2, .int (nI Wd), .int (nI Hh)])), (h1, .inl (cyI, 576, .inl g)), (h2, .inl (cyZ, 576, .inl ln))]) 0 0 (va_A [(h0, .inr (2, [.ref h1, .ref h2, .int (nI Wd), .int (nI Hh)])), (h1, .inl (cyI, 576, .inl g)), (h2, .inl (cyZ, 576, .inl ln))] sz) := by
  refine xk_of (own := RX2) (cc := cX2_height) (maxL := 1) (ret := (some .int)) (Qc := fun A => xk_Qi D A (nI Hh) [(h0, .inr (2, [.ref h1, .ref h2, .int (nI Wd), .int (nI Hh)])), (h1, .inl (cyI, 576, .inl g)), (h2, .inl (cyZ, 576, .inl ln))]) (by decide) rfl rfl (Nat.le_of_ble_eq_true rfl) ?_
  intro p e s m below meth c A ls hx hb hr hml hown hlocks hin hts hA hP hK hN hD hS hl
  have hC0 := xk_fix hx hb hml hown hts
  have hl : lv_has ls 1 [(0, .ref h0)] := hl
  have hf21 := hts (.fieldLink RX2 21 "DotPress$Sheet" "height" "I") (by decide +kernel)
  refine lv_aload_n hx hb dX2_height_0 rfl (lv_at hl 0 rfl) ?_
  refine va_get (D := D) (ci := 2) (v := .int (nI Hh)) (C := RX2) (T := TX2) (N := 4) hx hb hts in_X2_height_X2 hown hK hP 0 rfl rfl 3 (by decide) hf21 (fun _ h9 => h9) rfl dX2_height_1 ?_
  exact xk_iret hx hb hr hlocks hP hD hS (rfl) (rfl) dX2_height_4

abbrev rm_X2_has : Room := { frames := 0, cells := 0, slots := 0, locals := 0 }
theorem in_X2_has_X2 : ∀ w ∈ u_ws RX2 TX2 4, w ∈ wsX2_has := by decide +kernel
set_option maxHeartbeats 4000000 in
set_option maxRecDepth 100000 in
theorem ct_X2_has (l : Launch) (D : va_G) (cyI cyZ : ClassId) (h0 h1 h2 : Nat) (sz : Nat) (Wd Hh : Nat) (g ln : Nat → Int32) (x y : Int32)  : Met l yX2_has wsX2_has rm_X2_has (xk_Pc D cyI cyZ [.ref h0, .int x, .int y] [(h0, .inr (2, [.ref h1, .ref h2, .int (nI Wd), .int (nI Hh)])), (h1, .inl (cyI, 576, .inl g)), (h2, .inl (cyZ, 576, .inl ln))] sz) (xk_Qi D (va_A [(h0, .inr (2, [.ref h1, .ref h2, .int (nI Wd), .int (nI Hh)])), (h1, .inl (cyI, 576, .inl g)), (h2, .inl (cyZ, 576, .inl ln))] sz) (bI (sh_has Wd Hh x y)) [(h0, .inr (2, [.ref h1, .ref h2, .int (nI Wd), .int (nI Hh)])), (h1, .inl (cyI, 576, .inl g)), (h2, .inl (cyZ, 576, .inl ln))]) 0 0 (va_A [(h0, .inr (2, [.ref h1, .ref h2, .int (nI Wd), .int (nI Hh)])), (h1, .inl (cyI, 576, .inl g)), (h2, .inl (cyZ, 576, .inl ln))] sz) := by
  refine xk_of (own := RX2) (cc := cX2_has) (maxL := 3) (ret := (some .boolean)) (Qc := fun A => xk_Qi D A (bI (sh_has Wd Hh x y)) [(h0, .inr (2, [.ref h1, .ref h2, .int (nI Wd), .int (nI Hh)])), (h1, .inl (cyI, 576, .inl g)), (h2, .inl (cyZ, 576, .inl ln))]) (by decide) rfl rfl (Nat.le_of_ble_eq_true rfl) ?_
  intro p e s m below meth c A ls hx hb hr hml hown hlocks hin hts hA hP hK hN hD hS hl
  have hC0 := xk_fix hx hb hml hown hts
  have hl : lv_has ls 3 [(0, .ref h0), (1, .int x), (2, .int y)] := hl
  have hf17 := hts (.fieldLink RX2 17 "DotPress$Sheet" "width" "I") (by decide +kernel)
  have hf21 := hts (.fieldLink RX2 21 "DotPress$Sheet" "height" "I") (by decide +kernel)
  refine lv_iload_n hx hb dX2_has_0 rfl (lv_at hl 1 rfl) ?_
  refine lv_if_lt (tgt := 28) hx hb dX2_has_1 (by decide) (fun c_1 => ?_) (fun c_1 => ?_)
  · refine lv_iconst (v := 0) hx hb dX2_has_28 (by decide) ?_
    exact xk_zret hx hb hr hlocks hP hD hS (bI_0 (fun h => by first | exact absurd c_1 h.1 | exact c_1 h.1)) (rfl) (bI_nar _) dX2_has_29
  · refine lv_iload_n hx hb dX2_has_4 rfl (lv_at hl 1 rfl) ?_
    refine lv_aload_n hx hb dX2_has_5 rfl (lv_at hl 0 rfl) ?_
    refine va_get (D := D) (ci := 2) (v := .int (nI Wd)) (C := RX2) (T := TX2) (N := 4) hx hb hts in_X2_has_X2 hown hK hP 0 rfl rfl 2 (by decide) hf17 (fun _ h9 => h9) rfl dX2_has_6 ?_
    refine lv_icmp_ge (tgt := 28) hx hb dX2_has_9 (by decide) (fun c_9 => ?_) (fun c_9 => ?_)
    · refine lv_iconst (v := 0) hx hb dX2_has_28 (by decide) ?_
      exact xk_zret hx hb hr hlocks hP hD hS (bI_0 (fun h => by first | exact absurd c_9 h.2.1 | exact c_9 h.2.1)) (rfl) (bI_nar _) dX2_has_29
    · refine lv_iload_n hx hb dX2_has_12 rfl (lv_at hl 2 rfl) ?_
      refine lv_if_lt (tgt := 28) hx hb dX2_has_13 (by decide) (fun c_13 => ?_) (fun c_13 => ?_)
      · refine lv_iconst (v := 0) hx hb dX2_has_28 (by decide) ?_
        exact xk_zret hx hb hr hlocks hP hD hS (bI_0 (fun h => by first | exact absurd c_13 h.2.2.1 | exact c_13 h.2.2.1)) (rfl) (bI_nar _) dX2_has_29
      · refine lv_iload_n hx hb dX2_has_16 rfl (lv_at hl 2 rfl) ?_
        refine lv_aload_n hx hb dX2_has_17 rfl (lv_at hl 0 rfl) ?_
        refine va_get (D := D) (ci := 2) (v := .int (nI Hh)) (C := RX2) (T := TX2) (N := 4) hx hb hts in_X2_has_X2 hown hK hP 0 rfl rfl 3 (by decide) hf21 (fun _ h9 => h9) rfl dX2_has_18 ?_
        refine lv_icmp_ge (tgt := 28) hx hb dX2_has_21 (by decide) (fun c_21 => ?_) (fun c_21 => ?_)
        · refine lv_iconst (v := 0) hx hb dX2_has_28 (by decide) ?_
          exact xk_zret hx hb hr hlocks hP hD hS (bI_0 (fun h => by first | exact absurd c_21 h.2.2.2 | exact c_21 h.2.2.2)) (rfl) (bI_nar _) dX2_has_29
        · refine lv_iconst (v := 1) hx hb dX2_has_24 (by decide) ?_
          refine lv_goto (tgt := 29) hx hb dX2_has_25 (by decide) ?_
          exact xk_zret hx hb hr hlocks hP hD hS (bI_1 ⟨c_1, c_9, c_13, c_21⟩) (rfl) (bI_nar _) dX2_has_29

abbrev rm_X2_hasBox : Room := { frames := 1, cells := 0, slots := 0, locals := 22 }
theorem in_X2_hasBox_X2 : ∀ w ∈ u_ws RX2 TX2 4, w ∈ wsX2_hasBox := by decide +kernel
set_option maxHeartbeats 4000000 in
set_option maxRecDepth 100000 in
theorem ct_X2_hasBox (l : Launch) (D : va_G) (cyI cyZ : ClassId) (h0 h1 h2 : Nat) (sz : Nat) (Wd Hh : Nat) (g ln : Nat → Int32) (x y w h : Int32)  : Met l yX2_hasBox wsX2_hasBox rm_X2_hasBox (xk_Pc D cyI cyZ [.ref h0, .int x, .int y, .int w, .int h] [(h0, .inr (2, [.ref h1, .ref h2, .int (nI Wd), .int (nI Hh)])), (h1, .inl (cyI, 576, .inl g)), (h2, .inl (cyZ, 576, .inl ln))] sz) (xk_Qi D (va_A [(h0, .inr (2, [.ref h1, .ref h2, .int (nI Wd), .int (nI Hh)])), (h1, .inl (cyI, 576, .inl g)), (h2, .inl (cyZ, 576, .inl ln))] sz) (bI (sh_box Wd Hh x y w h)) [(h0, .inr (2, [.ref h1, .ref h2, .int (nI Wd), .int (nI Hh)])), (h1, .inl (cyI, 576, .inl g)), (h2, .inl (cyZ, 576, .inl ln))]) 0 0 (va_A [(h0, .inr (2, [.ref h1, .ref h2, .int (nI Wd), .int (nI Hh)])), (h1, .inl (cyI, 576, .inl g)), (h2, .inl (cyZ, 576, .inl ln))] sz) := by
  refine xk_of (own := RX2) (cc := cX2_hasBox) (maxL := 5) (ret := (some .boolean)) (Qc := fun A => xk_Qi D A (bI (sh_box Wd Hh x y w h)) [(h0, .inr (2, [.ref h1, .ref h2, .int (nI Wd), .int (nI Hh)])), (h1, .inl (cyI, 576, .inl g)), (h2, .inl (cyZ, 576, .inl ln))]) (by decide) rfl rfl (Nat.le_of_ble_eq_true rfl) ?_
  intro p e s m below meth c A ls hx hb hr hml hown hlocks hin hts hA hP hK hN hD hS hl
  have hC0 := xk_fix hx hb hml hown hts
  have hl : lv_has ls 5 [(0, .ref h0), (1, .int x), (2, .int y), (3, .int w), (4, .int h)] := hl
  have hf17 := hts (.fieldLink RX2 17 "DotPress$Sheet" "width" "I") (by decide +kernel)
  have hf21 := hts (.fieldLink RX2 21 "DotPress$Sheet" "height" "I") (by decide +kernel)
  refine lv_aload_n hx hb dX2_hasBox_0 rfl (lv_at hl 0 rfl) ?_
  refine lv_iload_n hx hb dX2_hasBox_1 rfl (lv_at hl 1 rfl) ?_
  refine lv_iload_n hx hb dX2_hasBox_2 rfl (lv_at hl 2 rfl) ?_
  have hPc := hP.sub (ws' := [(h0, .inr (2, [.ref h1, .ref h2, .int (nI Wd), .int (nI Hh)])), (h1, .inl (cyI, 576, .inl g)), (h2, .inl (cyZ, 576, .inl ln))]) [0, 1, 2] rfl
  have hDc := hD.sub (ws' := [(h0, .inr (2, [.ref h1, .ref h2, .int (nI Wd), .int (nI Hh)])), (h1, .inl (cyI, 576, .inl g)), (h2, .inl (cyZ, 576, .inl ln))]) [0, 1, 2] (by decide) rfl
  refine xk_calli (wr := []) (w2 := [(h0, .inr (2, [.ref h1, .ref h2, .int (nI Wd), .int (nI Hh)])), (h1, .inl (cyI, 576, .inl g)), (h2, .inl (cyZ, 576, .inl ln))]) (va_runV (As := [.int x, .int y]) (rest := []) hC0 (ct_X2_has l D cyI cyZ h0 h1 h2 _ Wd Hh g ln x y ) (cwV 2 hts gX2_hasBox_X2_has rfl rfl rfl (by decide +kernel) ⟨Nat.le_of_ble_eq_true rfl, Nat.le_of_ble_eq_true rfl⟩) ⟨xk_blind, va_recv hK hPc (ci := 2) (q0 := 0) rfl rfl, xk_pre hK hN hPc hDc⟩ rfl rfl hl.1 rfl (lv_room (Nat.le_of_ble_eq_true rfl)) dX2_hasBox_3 ⟨Nat.le_of_ble_eq_true rfl, Nat.le_of_ble_eq_true rfl⟩) hP hD hS hA [0, 1, 2] [] [0, 1, 2] rfl rfl (by decide) (by decide) rfl (by decide) (fun H locs hP hD hS => ?_)
  refine lv_if_eq (tgt := 45) hx hb dX2_hasBox_6 (by decide) (fun c_6 => ?_) (fun c_6 => ?_)
  · have c_6 := bI_z.mp c_6
    refine lv_iconst (v := 0) hx hb dX2_hasBox_45 (by decide) ?_
    exact xk_zret hx hb hr hlocks hP hD hS (bI_0 (fun h => by first | exact absurd c_6 h.1 | exact c_6 h.1)) (rfl) (bI_nar _) dX2_hasBox_46
  · have c_6 := bI_nz.mp c_6
    refine lv_iload_n hx hb dX2_hasBox_9 rfl (lv_at hl 3 rfl) ?_
    refine lv_iconst (v := 1) hx hb dX2_hasBox_10 (by decide) ?_
    refine lv_icmp_lt (tgt := 45) hx hb dX2_hasBox_11 (by decide) (fun c_11 => ?_) (fun c_11 => ?_)
    · refine lv_iconst (v := 0) hx hb dX2_hasBox_45 (by decide) ?_
      exact xk_zret hx hb hr hlocks hP hD hS (bI_0 (fun h => by first | exact absurd c_11 h.2.1 | exact c_11 h.2.1)) (rfl) (bI_nar _) dX2_hasBox_46
    · refine lv_iload_n hx hb dX2_hasBox_14 rfl (lv_at hl 3 rfl) ?_
      refine lv_aload_n hx hb dX2_hasBox_15 rfl (lv_at hl 0 rfl) ?_
      refine va_get (D := D) (ci := 2) (v := .int (nI Wd)) (C := RX2) (T := TX2) (N := 4) hx hb hts in_X2_hasBox_X2 hown hK hP 0 rfl rfl 2 (by decide) hf17 (fun _ h9 => h9) rfl dX2_hasBox_16 ?_
      refine lv_iload_n hx hb dX2_hasBox_19 rfl (lv_at hl 1 rfl) ?_
      refine lv_isub hx hb dX2_hasBox_20 ?_
      refine lv_icmp_gt (tgt := 45) hx hb dX2_hasBox_21 (by decide) (fun c_21 => ?_) (fun c_21 => ?_)
      · refine lv_iconst (v := 0) hx hb dX2_hasBox_45 (by decide) ?_
        exact xk_zret hx hb hr hlocks hP hD hS (bI_0 (fun h => by first | exact absurd c_21 h.2.2.1 | exact c_21 h.2.2.1)) (rfl) (bI_nar _) dX2_hasBox_46
      · refine lv_iload hx hb dX2_hasBox_24 (lv_at hl 4 rfl) ?_
        refine lv_iconst (v := 1) hx hb dX2_hasBox_26 (by decide) ?_
        refine lv_icmp_lt (tgt := 45) hx hb dX2_hasBox_27 (by decide) (fun c_27 => ?_) (fun c_27 => ?_)
        · refine lv_iconst (v := 0) hx hb dX2_hasBox_45 (by decide) ?_
          exact xk_zret hx hb hr hlocks hP hD hS (bI_0 (fun h => by first | exact absurd c_27 h.2.2.2.1 | exact c_27 h.2.2.2.1)) (rfl) (bI_nar _) dX2_hasBox_46
        · refine lv_iload hx hb dX2_hasBox_30 (lv_at hl 4 rfl) ?_
          refine lv_aload_n hx hb dX2_hasBox_32 rfl (lv_at hl 0 rfl) ?_
          refine va_get (D := D) (ci := 2) (v := .int (nI Hh)) (C := RX2) (T := TX2) (N := 4) hx hb hts in_X2_hasBox_X2 hown hK hP 0 rfl rfl 3 (by decide) hf21 (fun _ h9 => h9) rfl dX2_hasBox_33 ?_
          refine lv_iload_n hx hb dX2_hasBox_36 rfl (lv_at hl 2 rfl) ?_
          refine lv_isub hx hb dX2_hasBox_37 ?_
          refine lv_icmp_gt (tgt := 45) hx hb dX2_hasBox_38 (by decide) (fun c_38 => ?_) (fun c_38 => ?_)
          · refine lv_iconst (v := 0) hx hb dX2_hasBox_45 (by decide) ?_
            exact xk_zret hx hb hr hlocks hP hD hS (bI_0 (fun h => by first | exact absurd c_38 h.2.2.2.2 | exact c_38 h.2.2.2.2)) (rfl) (bI_nar _) dX2_hasBox_46
          · refine lv_iconst (v := 1) hx hb dX2_hasBox_41 (by decide) ?_
            refine lv_goto (tgt := 46) hx hb dX2_hasBox_42 (by decide) ?_
            exact xk_zret hx hb hr hlocks hP hD hS (bI_1 ⟨c_6, c_11, c_21, c_27, c_38⟩) (rfl) (bI_nar _) dX2_hasBox_46

abbrev rm_X2_greyAt : Room := { frames := 1, cells := 0, slots := 0, locals := 22 }
theorem in_X2_greyAt_X2 : ∀ w ∈ u_ws RX2 TX2 4, w ∈ wsX2_greyAt := by decide +kernel
set_option maxHeartbeats 4000000 in
set_option maxRecDepth 100000 in
theorem ct_X2_greyAt (l : Launch) (D : va_G) (cyI cyZ : ClassId) (h0 h1 h2 : Nat) (sz : Nat) (Wd Hh : Nat) (g ln : Nat → Int32) (jx jy : Nat) (hW : Wd ≤ 24) (hH : Hh ≤ 24) (hx0 : jx < Wd) (hy0 : jy < Hh) : Met l yX2_greyAt wsX2_greyAt rm_X2_greyAt (xk_Pc D cyI cyZ [.ref h0, .int (nI jx), .int (nI jy)] [(h0, .inr (2, [.ref h1, .ref h2, .int (nI Wd), .int (nI Hh)])), (h1, .inl (cyI, 576, .inl g)), (h2, .inl (cyZ, 576, .inl ln))] sz) (xk_Qi D (va_A [(h0, .inr (2, [.ref h1, .ref h2, .int (nI Wd), .int (nI Hh)])), (h1, .inl (cyI, 576, .inl g)), (h2, .inl (cyZ, 576, .inl ln))] sz) (g (jy * 24 + jx)) [(h0, .inr (2, [.ref h1, .ref h2, .int (nI Wd), .int (nI Hh)])), (h1, .inl (cyI, 576, .inl g)), (h2, .inl (cyZ, 576, .inl ln))]) 0 0 (va_A [(h0, .inr (2, [.ref h1, .ref h2, .int (nI Wd), .int (nI Hh)])), (h1, .inl (cyI, 576, .inl g)), (h2, .inl (cyZ, 576, .inl ln))] sz) := by
  refine xk_of (own := RX2) (cc := cX2_greyAt) (maxL := 3) (ret := (some .int)) (Qc := fun A => xk_Qi D A (g (jy * 24 + jx)) [(h0, .inr (2, [.ref h1, .ref h2, .int (nI Wd), .int (nI Hh)])), (h1, .inl (cyI, 576, .inl g)), (h2, .inl (cyZ, 576, .inl ln))]) (by decide) rfl rfl (Nat.le_of_ble_eq_true rfl) ?_
  intro p e s m below meth c A ls hx hb hr hml hown hlocks hin hts hA hP hK hN hD hS hl
  have hC0 := xk_fix hx hb hml hown hts
  have hl : lv_has ls 3 [(0, .ref h0), (1, .int (nI jx)), (2, .int (nI jy))] := hl
  have hf9 := hts (.fieldLink RX2 9 "DotPress$Sheet" "greys" "[I") (by decide +kernel)
  refine lv_aload_n hx hb dX2_greyAt_0 rfl (lv_at hl 0 rfl) ?_
  refine lv_iload_n hx hb dX2_greyAt_1 rfl (lv_at hl 1 rfl) ?_
  refine lv_iload_n hx hb dX2_greyAt_2 rfl (lv_at hl 2 rfl) ?_
  have hPc := hP.sub (ws' := [(h0, .inr (2, [.ref h1, .ref h2, .int (nI Wd), .int (nI Hh)])), (h1, .inl (cyI, 576, .inl g)), (h2, .inl (cyZ, 576, .inl ln))]) [0, 1, 2] rfl
  have hDc := hD.sub (ws' := [(h0, .inr (2, [.ref h1, .ref h2, .int (nI Wd), .int (nI Hh)])), (h1, .inl (cyI, 576, .inl g)), (h2, .inl (cyZ, 576, .inl ln))]) [0, 1, 2] (by decide) rfl
  refine xk_calli (wr := []) (w2 := [(h0, .inr (2, [.ref h1, .ref h2, .int (nI Wd), .int (nI Hh)])), (h1, .inl (cyI, 576, .inl g)), (h2, .inl (cyZ, 576, .inl ln))]) (va_runV (As := [.int (nI jx), .int (nI jy)]) (rest := []) hC0 (ct_X2_has l D cyI cyZ h0 h1 h2 _ Wd Hh g ln (nI jx) (nI jy) ) (cwV 2 hts gX2_greyAt_X2_has rfl rfl rfl (by decide +kernel) ⟨Nat.le_of_ble_eq_true rfl, Nat.le_of_ble_eq_true rfl⟩) ⟨xk_blind, va_recv hK hPc (ci := 2) (q0 := 0) rfl rfl, xk_pre hK hN hPc hDc⟩ rfl rfl hl.1 rfl (lv_room (Nat.le_of_ble_eq_true rfl)) dX2_greyAt_3 ⟨Nat.le_of_ble_eq_true rfl, Nat.le_of_ble_eq_true rfl⟩) hP hD hS hA [0, 1, 2] [] [0, 1, 2] rfl rfl (by decide) (by decide) rfl (by decide) (fun H locs hP hD hS => ?_)
  refine lv_if_eq (tgt := 22) hx hb dX2_greyAt_6 (by decide) (fun c_6 => xk_ab c_6 (bI_nz.mpr (sh_has_in hW hH hx0 hy0))) (fun c_6 => ?_)
  have c_6 := bI_nz.mp c_6
  refine lv_aload_n hx hb dX2_greyAt_9 rfl (lv_at hl 0 rfl) ?_
  refine va_get (D := D) (ci := 2) (v := .ref h1) (C := RX2) (T := TX2) (N := 4) hx hb hts in_X2_greyAt_X2 hown hK hP 0 rfl rfl 0 (by decide) hf9 (fun _ h9 => h9) rfl dX2_greyAt_10 ?_
  refine lv_iload_n hx hb dX2_greyAt_13 rfl (lv_at hl 1 rfl) ?_
  refine lv_iload_n hx hb dX2_greyAt_14 rfl (lv_at hl 2 rfl) ?_
  have hPc := hP.sub (ws' := []) [] rfl
  have hDc := hD.sub (ws' := []) [] (by decide) rfl
  refine xk_calli (wr := [(h0, .inr (2, [.ref h1, .ref h2, .int (nI Wd), .int (nI Hh)])), (h1, .inl (cyI, 576, .inl g)), (h2, .inl (cyZ, 576, .inl ln))]) (w2 := [(h0, .inr (2, [.ref h1, .ref h2, .int (nI Wd), .int (nI Hh)])), (h1, .inl (cyI, 576, .inl g)), (h2, .inl (cyZ, 576, .inl ln))]) (va_runS (As := [.int (nI jx), .int (nI jy)]) (rest := [.ref h1]) hC0 (ct_X2_spot l D cyI cyZ  _ (nI jx) (nI jy) ) (va_cwS 2 hts gX2_greyAt_X2_spot rfl rfl rfl (by decide +kernel) ⟨Nat.le_of_ble_eq_true rfl, Nat.le_of_ble_eq_true rfl⟩) ⟨xk_blind, xk_pre hK hN hPc hDc⟩ rfl rfl hl.1 rfl (lv_room (Nat.le_of_ble_eq_true rfl)) dX2_greyAt_15 ⟨Nat.le_of_ble_eq_true rfl, Nat.le_of_ble_eq_true rfl⟩) hP hD hS hA [] [0, 1, 2] [0, 1, 2] rfl rfl (by decide) (by decide) rfl (by decide) (fun H locs hP hD hS => ?_)
  refine xk_iald hx hb hK hP 1 rfl (jy * 24 + jx) (sh_spot jx jy) (by omega) (by decide) dX2_greyAt_18 ?_
  refine lv_goto (tgt := 23) hx hb dX2_greyAt_19 (by decide) ?_
  exact xk_iret hx hb hr hlocks hP hD hS (rfl) (rfl) dX2_greyAt_23

abbrev rm_X2_isLine : Room := { frames := 1, cells := 0, slots := 0, locals := 22 }
theorem in_X2_isLine_X2 : ∀ w ∈ u_ws RX2 TX2 4, w ∈ wsX2_isLine := by decide +kernel
set_option maxHeartbeats 4000000 in
set_option maxRecDepth 100000 in
theorem ct_X2_isLine (l : Launch) (D : va_G) (cyI cyZ : ClassId) (h0 h1 h2 : Nat) (sz : Nat) (Wd Hh : Nat) (g ln : Nat → Int32) (jx jy : Nat) (hW : Wd ≤ 24) (hH : Hh ≤ 24) (hx0 : jx < Wd) (hy0 : jy < Hh) : Met l yX2_isLine wsX2_isLine rm_X2_isLine (xk_Pc D cyI cyZ [.ref h0, .int (nI jx), .int (nI jy)] [(h0, .inr (2, [.ref h1, .ref h2, .int (nI Wd), .int (nI Hh)])), (h1, .inl (cyI, 576, .inl g)), (h2, .inl (cyZ, 576, .inl ln))] sz) (xk_Qi D (va_A [(h0, .inr (2, [.ref h1, .ref h2, .int (nI Wd), .int (nI Hh)])), (h1, .inl (cyI, 576, .inl g)), (h2, .inl (cyZ, 576, .inl ln))] sz) (bI (¬ ln (jy * 24 + jx) = 0)) [(h0, .inr (2, [.ref h1, .ref h2, .int (nI Wd), .int (nI Hh)])), (h1, .inl (cyI, 576, .inl g)), (h2, .inl (cyZ, 576, .inl ln))]) 0 0 (va_A [(h0, .inr (2, [.ref h1, .ref h2, .int (nI Wd), .int (nI Hh)])), (h1, .inl (cyI, 576, .inl g)), (h2, .inl (cyZ, 576, .inl ln))] sz) := by
  refine xk_of (own := RX2) (cc := cX2_isLine) (maxL := 3) (ret := (some .boolean)) (Qc := fun A => xk_Qi D A (bI (¬ ln (jy * 24 + jx) = 0)) [(h0, .inr (2, [.ref h1, .ref h2, .int (nI Wd), .int (nI Hh)])), (h1, .inl (cyI, 576, .inl g)), (h2, .inl (cyZ, 576, .inl ln))]) (by decide) rfl rfl (Nat.le_of_ble_eq_true rfl) ?_
  intro p e s m below meth c A ls hx hb hr hml hown hlocks hin hts hA hP hK hN hD hS hl
  have hC0 := xk_fix hx hb hml hown hts
  have hl : lv_has ls 3 [(0, .ref h0), (1, .int (nI jx)), (2, .int (nI jy))] := hl
  have hf13 := hts (.fieldLink RX2 13 "DotPress$Sheet" "lines" "[Z") (by decide +kernel)
  refine lv_aload_n hx hb dX2_isLine_0 rfl (lv_at hl 0 rfl) ?_
  refine lv_iload_n hx hb dX2_isLine_1 rfl (lv_at hl 1 rfl) ?_
  refine lv_iload_n hx hb dX2_isLine_2 rfl (lv_at hl 2 rfl) ?_
  have hPc := hP.sub (ws' := [(h0, .inr (2, [.ref h1, .ref h2, .int (nI Wd), .int (nI Hh)])), (h1, .inl (cyI, 576, .inl g)), (h2, .inl (cyZ, 576, .inl ln))]) [0, 1, 2] rfl
  have hDc := hD.sub (ws' := [(h0, .inr (2, [.ref h1, .ref h2, .int (nI Wd), .int (nI Hh)])), (h1, .inl (cyI, 576, .inl g)), (h2, .inl (cyZ, 576, .inl ln))]) [0, 1, 2] (by decide) rfl
  refine xk_calli (wr := []) (w2 := [(h0, .inr (2, [.ref h1, .ref h2, .int (nI Wd), .int (nI Hh)])), (h1, .inl (cyI, 576, .inl g)), (h2, .inl (cyZ, 576, .inl ln))]) (va_runV (As := [.int (nI jx), .int (nI jy)]) (rest := []) hC0 (ct_X2_has l D cyI cyZ h0 h1 h2 _ Wd Hh g ln (nI jx) (nI jy) ) (cwV 2 hts gX2_isLine_X2_has rfl rfl rfl (by decide +kernel) ⟨Nat.le_of_ble_eq_true rfl, Nat.le_of_ble_eq_true rfl⟩) ⟨xk_blind, va_recv hK hPc (ci := 2) (q0 := 0) rfl rfl, xk_pre hK hN hPc hDc⟩ rfl rfl hl.1 rfl (lv_room (Nat.le_of_ble_eq_true rfl)) dX2_isLine_3 ⟨Nat.le_of_ble_eq_true rfl, Nat.le_of_ble_eq_true rfl⟩) hP hD hS hA [0, 1, 2] [] [0, 1, 2] rfl rfl (by decide) (by decide) rfl (by decide) (fun H locs hP hD hS => ?_)
  refine lv_if_eq (tgt := 26) hx hb dX2_isLine_6 (by decide) (fun c_6 => xk_ab c_6 (bI_nz.mpr (sh_has_in hW hH hx0 hy0))) (fun c_6 => ?_)
  have c_6 := bI_nz.mp c_6
  refine lv_aload_n hx hb dX2_isLine_9 rfl (lv_at hl 0 rfl) ?_
  refine va_get (D := D) (ci := 2) (v := .ref h2) (C := RX2) (T := TX2) (N := 4) hx hb hts in_X2_isLine_X2 hown hK hP 0 rfl rfl 1 (by decide) hf13 (fun _ h9 => h9) rfl dX2_isLine_10 ?_
  refine lv_iload_n hx hb dX2_isLine_13 rfl (lv_at hl 1 rfl) ?_
  refine lv_iload_n hx hb dX2_isLine_14 rfl (lv_at hl 2 rfl) ?_
  have hPc := hP.sub (ws' := []) [] rfl
  have hDc := hD.sub (ws' := []) [] (by decide) rfl
  refine xk_calli (wr := [(h0, .inr (2, [.ref h1, .ref h2, .int (nI Wd), .int (nI Hh)])), (h1, .inl (cyI, 576, .inl g)), (h2, .inl (cyZ, 576, .inl ln))]) (w2 := [(h0, .inr (2, [.ref h1, .ref h2, .int (nI Wd), .int (nI Hh)])), (h1, .inl (cyI, 576, .inl g)), (h2, .inl (cyZ, 576, .inl ln))]) (va_runS (As := [.int (nI jx), .int (nI jy)]) (rest := [.ref h2]) hC0 (ct_X2_spot l D cyI cyZ  _ (nI jx) (nI jy) ) (va_cwS 2 hts gX2_isLine_X2_spot rfl rfl rfl (by decide +kernel) ⟨Nat.le_of_ble_eq_true rfl, Nat.le_of_ble_eq_true rfl⟩) ⟨xk_blind, xk_pre hK hN hPc hDc⟩ rfl rfl hl.1 rfl (lv_room (Nat.le_of_ble_eq_true rfl)) dX2_isLine_15 ⟨Nat.le_of_ble_eq_true rfl, Nat.le_of_ble_eq_true rfl⟩) hP hD hS hA [] [0, 1, 2] [0, 1, 2] rfl rfl (by decide) (by decide) rfl (by decide) (fun H locs hP hD hS => ?_)
  refine xk_zald hx hb hK hP 2 rfl (jy * 24 + jx) (sh_spot jx jy) (by omega) (by decide) dX2_isLine_18 ?_
  refine lv_if_eq (tgt := 26) hx hb dX2_isLine_19 (by decide) (fun c_19 => ?_) (fun c_19 => ?_)
  · refine lv_iconst (v := 0) hx hb dX2_isLine_26 (by decide) ?_
    exact xk_zret hx hb hr hlocks hP hD hS (bI_0 (fun h => h c_19)) (rfl) (bI_nar _) dX2_isLine_27
  · refine lv_iconst (v := 1) hx hb dX2_isLine_22 (by decide) ?_
    refine lv_goto (tgt := 27) hx hb dX2_isLine_23 (by decide) ?_
    exact xk_zret hx hb hr hlocks hP hD hS (bI_1 c_19) (rfl) (bI_nar _) dX2_isLine_27

abbrev rm_X2_setGrey : Room := { frames := 1, cells := 0, slots := 0, locals := 22 }
theorem in_X2_setGrey_X2 : ∀ w ∈ u_ws RX2 TX2 4, w ∈ wsX2_setGrey := by decide +kernel
set_option maxHeartbeats 4000000 in
set_option maxRecDepth 100000 in
theorem ct_X2_setGrey (l : Launch) (D : va_G) (cyI cyZ : ClassId) (h0 h1 h2 : Nat) (sz : Nat) (Wd Hh : Nat) (g ln : Nat → Int32) (jx jy : Nat) (v : Int32) (hW : Wd ≤ 24) (hH : Hh ≤ 24) (hx0 : jx < Wd) (hy0 : jy < Hh) : Met l yX2_setGrey wsX2_setGrey rm_X2_setGrey (xk_Pc D cyI cyZ [.ref h0, .int (nI jx), .int (nI jy), .int v] [(h0, .inr (2, [.ref h1, .ref h2, .int (nI Wd), .int (nI Hh)])), (h1, .inl (cyI, 576, .inl g)), (h2, .inl (cyZ, 576, .inl ln))] sz) (xk_Qv D (va_A [(h0, .inr (2, [.ref h1, .ref h2, .int (nI Wd), .int (nI Hh)])), (h1, .inl (cyI, 576, .inl g)), (h2, .inl (cyZ, 576, .inl ln))] sz) [(h0, .inr (2, [.ref h1, .ref h2, .int (nI Wd), .int (nI Hh)])), (h1, .inl (cyI, 576, .inl (upd g (jy * 24 + jx) v))), (h2, .inl (cyZ, 576, .inl ln))]) 0 0 (va_A [(h0, .inr (2, [.ref h1, .ref h2, .int (nI Wd), .int (nI Hh)])), (h1, .inl (cyI, 576, .inl g)), (h2, .inl (cyZ, 576, .inl ln))] sz) := by
  refine xk_of (own := RX2) (cc := cX2_setGrey) (maxL := 4) (ret := none) (Qc := fun A => xk_Qv D A [(h0, .inr (2, [.ref h1, .ref h2, .int (nI Wd), .int (nI Hh)])), (h1, .inl (cyI, 576, .inl (upd g (jy * 24 + jx) v))), (h2, .inl (cyZ, 576, .inl ln))]) (by decide) rfl rfl (Nat.le_of_ble_eq_true rfl) ?_
  intro p e s m below meth c A ls hx hb hr hml hown hlocks hin hts hA hP hK hN hD hS hl
  have hC0 := xk_fix hx hb hml hown hts
  have hl : lv_has ls 4 [(0, .ref h0), (1, .int (nI jx)), (2, .int (nI jy)), (3, .int v)] := hl
  have hf9 := hts (.fieldLink RX2 9 "DotPress$Sheet" "greys" "[I") (by decide +kernel)
  refine lv_aload_n hx hb dX2_setGrey_0 rfl (lv_at hl 0 rfl) ?_
  refine lv_iload_n hx hb dX2_setGrey_1 rfl (lv_at hl 1 rfl) ?_
  refine lv_iload_n hx hb dX2_setGrey_2 rfl (lv_at hl 2 rfl) ?_
  have hPc := hP.sub (ws' := [(h0, .inr (2, [.ref h1, .ref h2, .int (nI Wd), .int (nI Hh)])), (h1, .inl (cyI, 576, .inl g)), (h2, .inl (cyZ, 576, .inl ln))]) [0, 1, 2] rfl
  have hDc := hD.sub (ws' := [(h0, .inr (2, [.ref h1, .ref h2, .int (nI Wd), .int (nI Hh)])), (h1, .inl (cyI, 576, .inl g)), (h2, .inl (cyZ, 576, .inl ln))]) [0, 1, 2] (by decide) rfl
  refine xk_calli (wr := []) (w2 := [(h0, .inr (2, [.ref h1, .ref h2, .int (nI Wd), .int (nI Hh)])), (h1, .inl (cyI, 576, .inl g)), (h2, .inl (cyZ, 576, .inl ln))]) (va_runV (As := [.int (nI jx), .int (nI jy)]) (rest := []) hC0 (ct_X2_has l D cyI cyZ h0 h1 h2 _ Wd Hh g ln (nI jx) (nI jy) ) (cwV 2 hts gX2_setGrey_X2_has rfl rfl rfl (by decide +kernel) ⟨Nat.le_of_ble_eq_true rfl, Nat.le_of_ble_eq_true rfl⟩) ⟨xk_blind, va_recv hK hPc (ci := 2) (q0 := 0) rfl rfl, xk_pre hK hN hPc hDc⟩ rfl rfl hl.1 rfl (lv_room (Nat.le_of_ble_eq_true rfl)) dX2_setGrey_3 ⟨Nat.le_of_ble_eq_true rfl, Nat.le_of_ble_eq_true rfl⟩) hP hD hS hA [0, 1, 2] [] [0, 1, 2] rfl rfl (by decide) (by decide) rfl (by decide) (fun H locs hP hD hS => ?_)
  refine lv_if_eq (tgt := 20) hx hb dX2_setGrey_6 (by decide) (fun c_6 => xk_ab c_6 (bI_nz.mpr (sh_has_in hW hH hx0 hy0))) (fun c_6 => ?_)
  have c_6 := bI_nz.mp c_6
  refine lv_aload_n hx hb dX2_setGrey_9 rfl (lv_at hl 0 rfl) ?_
  refine va_get (D := D) (ci := 2) (v := .ref h1) (C := RX2) (T := TX2) (N := 4) hx hb hts in_X2_setGrey_X2 hown hK hP 0 rfl rfl 0 (by decide) hf9 (fun _ h9 => h9) rfl dX2_setGrey_10 ?_
  refine lv_iload_n hx hb dX2_setGrey_13 rfl (lv_at hl 1 rfl) ?_
  refine lv_iload_n hx hb dX2_setGrey_14 rfl (lv_at hl 2 rfl) ?_
  have hPc := hP.sub (ws' := []) [] rfl
  have hDc := hD.sub (ws' := []) [] (by decide) rfl
  refine xk_calli (wr := [(h0, .inr (2, [.ref h1, .ref h2, .int (nI Wd), .int (nI Hh)])), (h1, .inl (cyI, 576, .inl g)), (h2, .inl (cyZ, 576, .inl ln))]) (w2 := [(h0, .inr (2, [.ref h1, .ref h2, .int (nI Wd), .int (nI Hh)])), (h1, .inl (cyI, 576, .inl g)), (h2, .inl (cyZ, 576, .inl ln))]) (va_runS (As := [.int (nI jx), .int (nI jy)]) (rest := [.ref h1]) hC0 (ct_X2_spot l D cyI cyZ  _ (nI jx) (nI jy) ) (va_cwS 2 hts gX2_setGrey_X2_spot rfl rfl rfl (by decide +kernel) ⟨Nat.le_of_ble_eq_true rfl, Nat.le_of_ble_eq_true rfl⟩) ⟨xk_blind, xk_pre hK hN hPc hDc⟩ rfl rfl hl.1 rfl (lv_room (Nat.le_of_ble_eq_true rfl)) dX2_setGrey_15 ⟨Nat.le_of_ble_eq_true rfl, Nat.le_of_ble_eq_true rfl⟩) hP hD hS hA [] [0, 1, 2] [0, 1, 2] rfl rfl (by decide) (by decide) rfl (by decide) (fun H locs hP hD hS => ?_)
  refine lv_iload_n hx hb dX2_setGrey_18 rfl (lv_at hl 3 rfl) ?_
  refine xk_iast (w2 := [(h0, .inr (2, [.ref h1, .ref h2, .int (nI Wd), .int (nI Hh)])), (h1, .inl (cyI, 576, .inl (upd g (jy * 24 + jx) v))), (h2, .inl (cyZ, 576, .inl ln))]) hx hb hK hP hD hS 1 rfl (jy * 24 + jx) (sh_spot jx jy) (by omega) (by decide) rfl dX2_setGrey_19 (fun H locs hP hD hS => ?_)
  exact xk_vret hx hb hr hlocks hP hD hS (rfl) dX2_setGrey_20

abbrev rm_X2_setLine : Room := { frames := 1, cells := 0, slots := 0, locals := 22 }
theorem in_X2_setLine_X2 : ∀ w ∈ u_ws RX2 TX2 4, w ∈ wsX2_setLine := by decide +kernel
set_option maxHeartbeats 4000000 in
set_option maxRecDepth 100000 in
theorem ct_X2_setLine (l : Launch) (D : va_G) (cyI cyZ : ClassId) (h0 h1 h2 : Nat) (sz : Nat) (Wd Hh : Nat) (g ln : Nat → Int32) (jx jy : Nat) (v : Int32) (hW : Wd ≤ 24) (hH : Hh ≤ 24) (hx0 : jx < Wd) (hy0 : jy < Hh) (hv : vp_nar .boolean v = v) : Met l yX2_setLine wsX2_setLine rm_X2_setLine (xk_Pc D cyI cyZ [.ref h0, .int (nI jx), .int (nI jy), .int v] [(h0, .inr (2, [.ref h1, .ref h2, .int (nI Wd), .int (nI Hh)])), (h1, .inl (cyI, 576, .inl g)), (h2, .inl (cyZ, 576, .inl ln))] sz) (xk_Qv D (va_A [(h0, .inr (2, [.ref h1, .ref h2, .int (nI Wd), .int (nI Hh)])), (h1, .inl (cyI, 576, .inl g)), (h2, .inl (cyZ, 576, .inl ln))] sz) [(h0, .inr (2, [.ref h1, .ref h2, .int (nI Wd), .int (nI Hh)])), (h1, .inl (cyI, 576, .inl g)), (h2, .inl (cyZ, 576, .inl (upd ln (jy * 24 + jx) v)))]) 0 0 (va_A [(h0, .inr (2, [.ref h1, .ref h2, .int (nI Wd), .int (nI Hh)])), (h1, .inl (cyI, 576, .inl g)), (h2, .inl (cyZ, 576, .inl ln))] sz) := by
  refine xk_of (own := RX2) (cc := cX2_setLine) (maxL := 4) (ret := none) (Qc := fun A => xk_Qv D A [(h0, .inr (2, [.ref h1, .ref h2, .int (nI Wd), .int (nI Hh)])), (h1, .inl (cyI, 576, .inl g)), (h2, .inl (cyZ, 576, .inl (upd ln (jy * 24 + jx) v)))]) (by decide) rfl rfl (Nat.le_of_ble_eq_true rfl) ?_
  intro p e s m below meth c A ls hx hb hr hml hown hlocks hin hts hA hP hK hN hD hS hl
  have hC0 := xk_fix hx hb hml hown hts
  have hl : lv_has ls 4 [(0, .ref h0), (1, .int (nI jx)), (2, .int (nI jy)), (3, .int v)] := hl
  have hf13 := hts (.fieldLink RX2 13 "DotPress$Sheet" "lines" "[Z") (by decide +kernel)
  refine lv_aload_n hx hb dX2_setLine_0 rfl (lv_at hl 0 rfl) ?_
  refine lv_iload_n hx hb dX2_setLine_1 rfl (lv_at hl 1 rfl) ?_
  refine lv_iload_n hx hb dX2_setLine_2 rfl (lv_at hl 2 rfl) ?_
  have hPc := hP.sub (ws' := [(h0, .inr (2, [.ref h1, .ref h2, .int (nI Wd), .int (nI Hh)])), (h1, .inl (cyI, 576, .inl g)), (h2, .inl (cyZ, 576, .inl ln))]) [0, 1, 2] rfl
  have hDc := hD.sub (ws' := [(h0, .inr (2, [.ref h1, .ref h2, .int (nI Wd), .int (nI Hh)])), (h1, .inl (cyI, 576, .inl g)), (h2, .inl (cyZ, 576, .inl ln))]) [0, 1, 2] (by decide) rfl
  refine xk_calli (wr := []) (w2 := [(h0, .inr (2, [.ref h1, .ref h2, .int (nI Wd), .int (nI Hh)])), (h1, .inl (cyI, 576, .inl g)), (h2, .inl (cyZ, 576, .inl ln))]) (va_runV (As := [.int (nI jx), .int (nI jy)]) (rest := []) hC0 (ct_X2_has l D cyI cyZ h0 h1 h2 _ Wd Hh g ln (nI jx) (nI jy) ) (cwV 2 hts gX2_setLine_X2_has rfl rfl rfl (by decide +kernel) ⟨Nat.le_of_ble_eq_true rfl, Nat.le_of_ble_eq_true rfl⟩) ⟨xk_blind, va_recv hK hPc (ci := 2) (q0 := 0) rfl rfl, xk_pre hK hN hPc hDc⟩ rfl rfl hl.1 rfl (lv_room (Nat.le_of_ble_eq_true rfl)) dX2_setLine_3 ⟨Nat.le_of_ble_eq_true rfl, Nat.le_of_ble_eq_true rfl⟩) hP hD hS hA [0, 1, 2] [] [0, 1, 2] rfl rfl (by decide) (by decide) rfl (by decide) (fun H locs hP hD hS => ?_)
  refine lv_if_eq (tgt := 20) hx hb dX2_setLine_6 (by decide) (fun c_6 => xk_ab c_6 (bI_nz.mpr (sh_has_in hW hH hx0 hy0))) (fun c_6 => ?_)
  have c_6 := bI_nz.mp c_6
  refine lv_aload_n hx hb dX2_setLine_9 rfl (lv_at hl 0 rfl) ?_
  refine va_get (D := D) (ci := 2) (v := .ref h2) (C := RX2) (T := TX2) (N := 4) hx hb hts in_X2_setLine_X2 hown hK hP 0 rfl rfl 1 (by decide) hf13 (fun _ h9 => h9) rfl dX2_setLine_10 ?_
  refine lv_iload_n hx hb dX2_setLine_13 rfl (lv_at hl 1 rfl) ?_
  refine lv_iload_n hx hb dX2_setLine_14 rfl (lv_at hl 2 rfl) ?_
  have hPc := hP.sub (ws' := []) [] rfl
  have hDc := hD.sub (ws' := []) [] (by decide) rfl
  refine xk_calli (wr := [(h0, .inr (2, [.ref h1, .ref h2, .int (nI Wd), .int (nI Hh)])), (h1, .inl (cyI, 576, .inl g)), (h2, .inl (cyZ, 576, .inl ln))]) (w2 := [(h0, .inr (2, [.ref h1, .ref h2, .int (nI Wd), .int (nI Hh)])), (h1, .inl (cyI, 576, .inl g)), (h2, .inl (cyZ, 576, .inl ln))]) (va_runS (As := [.int (nI jx), .int (nI jy)]) (rest := [.ref h2]) hC0 (ct_X2_spot l D cyI cyZ  _ (nI jx) (nI jy) ) (va_cwS 2 hts gX2_setLine_X2_spot rfl rfl rfl (by decide +kernel) ⟨Nat.le_of_ble_eq_true rfl, Nat.le_of_ble_eq_true rfl⟩) ⟨xk_blind, xk_pre hK hN hPc hDc⟩ rfl rfl hl.1 rfl (lv_room (Nat.le_of_ble_eq_true rfl)) dX2_setLine_15 ⟨Nat.le_of_ble_eq_true rfl, Nat.le_of_ble_eq_true rfl⟩) hP hD hS hA [] [0, 1, 2] [0, 1, 2] rfl rfl (by decide) (by decide) rfl (by decide) (fun H locs hP hD hS => ?_)
  refine lv_iload_n hx hb dX2_setLine_18 rfl (lv_at hl 3 rfl) ?_
  refine xk_zast (w2 := [(h0, .inr (2, [.ref h1, .ref h2, .int (nI Wd), .int (nI Hh)])), (h1, .inl (cyI, 576, .inl g)), (h2, .inl (cyZ, 576, .inl (upd ln (jy * 24 + jx) v)))]) hx hb hK hP hD hS 2 rfl (jy * 24 + jx) (sh_spot jx jy) (by omega) (by decide) (hv) rfl dX2_setLine_19 (fun H locs hP hD hS => ?_)
  exact xk_vret hx hb hr hlocks hP hD hS (rfl) dX2_setLine_20

abbrev rm_X2_renew : Room := { frames := 0, cells := 0, slots := 0, locals := 0 }
theorem in_X2_renew_X2 : ∀ w ∈ u_ws RX2 TX2 4, w ∈ wsX2_renew := by decide +kernel
set_option maxHeartbeats 4000000 in
set_option maxRecDepth 100000 in
theorem ct_X2_renew (l : Launch) (D : va_G) (cyI cyZ : ClassId) (h0 h1 h2 : Nat) (sz : Nat) (Wd Hh : Nat) (g ln : Nat → Int32) (W2 H2 : Nat)  : Met l yX2_renew wsX2_renew rm_X2_renew (xk_Pc D cyI cyZ [.ref h0, .int (nI W2), .int (nI H2)] [(h0, .inr (2, [.ref h1, .ref h2, .int (nI Wd), .int (nI Hh)])), (h1, .inl (cyI, 576, .inl g)), (h2, .inl (cyZ, 576, .inl ln))] sz) (xk_Qv D (va_A [(h0, .inr (2, [.ref h1, .ref h2, .int (nI Wd), .int (nI Hh)])), (h1, .inl (cyI, 576, .inl g)), (h2, .inl (cyZ, 576, .inl ln))] sz) [(h0, .inr (2, [.ref h1, .ref h2, .int (nI W2), .int (nI H2)])), (h1, .inl (cyI, 576, .inl (zr 576 g))), (h2, .inl (cyZ, 576, .inl (zr 576 ln)))]) 0 0 (va_A [(h0, .inr (2, [.ref h1, .ref h2, .int (nI Wd), .int (nI Hh)])), (h1, .inl (cyI, 576, .inl g)), (h2, .inl (cyZ, 576, .inl ln))] sz) := by
  refine xk_of (own := RX2) (cc := cX2_renew) (maxL := 4) (ret := none) (Qc := fun A => xk_Qv D A [(h0, .inr (2, [.ref h1, .ref h2, .int (nI W2), .int (nI H2)])), (h1, .inl (cyI, 576, .inl (zr 576 g))), (h2, .inl (cyZ, 576, .inl (zr 576 ln)))]) (by decide) rfl rfl (Nat.le_of_ble_eq_true rfl) ?_
  intro p e s m below meth c A ls hx hb hr hml hown hlocks hin hts hA hP hK hN hD hS hl
  have hC0 := xk_fix hx hb hml hown hts
  have hl : lv_has ls 4 [(0, .ref h0), (1, .int (nI W2)), (2, .int (nI H2))] := hl
  have hf9 := hts (.fieldLink RX2 9 "DotPress$Sheet" "greys" "[I") (by decide +kernel)
  have hf13 := hts (.fieldLink RX2 13 "DotPress$Sheet" "lines" "[Z") (by decide +kernel)
  have hf17 := hts (.fieldLink RX2 17 "DotPress$Sheet" "width" "I") (by decide +kernel)
  have hf21 := hts (.fieldLink RX2 21 "DotPress$Sheet" "height" "I") (by decide +kernel)
  refine lv_aload_n hx hb dX2_renew_0 rfl (lv_at hl 0 rfl) ?_
  refine lv_iload_n hx hb dX2_renew_1 rfl (lv_at hl 1 rfl) ?_
  refine va_put (D := D) (ci := 2) (v := .int (nI W2)) (ty := .int) (C := RX2) (T := TX2) (N := 4) hx hb hts in_X2_renew_X2 tyX2 tyX2_ok nmX2 hown hK hP hD hS 0 rfl rfl 2 (by decide) hf17 (fun _ h9 => h9) rfl (by decide +kernel) (rfl) (rfl) (Nat.le_of_ble_eq_true rfl) dX2_renew_2 (fun H locs hP hD hS => ?_)
  have hP : va_P D vwCl [(h0, .inr (2, [.ref h1, .ref h2, .int (nI W2), .int (nI Hh)])), (h1, .inl (cyI, 576, .inl g)), (h2, .inl (cyZ, 576, .inl ln))] H := hP
  have hD : va_D A [(h0, .inr (2, [.ref h1, .ref h2, .int (nI W2), .int (nI Hh)])), (h1, .inl (cyI, 576, .inl g)), (h2, .inl (cyZ, 576, .inl ln))] := hD
  refine lv_aload_n hx hb dX2_renew_5 rfl (lv_at hl 0 rfl) ?_
  refine lv_iload_n hx hb dX2_renew_6 rfl (lv_at hl 2 rfl) ?_
  refine va_put (D := D) (ci := 2) (v := .int (nI H2)) (ty := .int) (C := RX2) (T := TX2) (N := 4) hx hb hts in_X2_renew_X2 tyX2 tyX2_ok nmX2 hown hK hP hD hS 0 rfl rfl 3 (by decide) hf21 (fun _ h9 => h9) rfl (by decide +kernel) (rfl) (rfl) (Nat.le_of_ble_eq_true rfl) dX2_renew_7 (fun H locs hP hD hS => ?_)
  have hP : va_P D vwCl [(h0, .inr (2, [.ref h1, .ref h2, .int (nI W2), .int (nI H2)])), (h1, .inl (cyI, 576, .inl g)), (h2, .inl (cyZ, 576, .inl ln))] H := hP
  have hD : va_D A [(h0, .inr (2, [.ref h1, .ref h2, .int (nI W2), .int (nI H2)])), (h1, .inl (cyI, 576, .inl g)), (h2, .inl (cyZ, 576, .inl ln))] := hD
  refine lv_iconst (v := 0) hx hb dX2_renew_10 (by decide) ?_
  refine lv_istore_n (lv' := [(3, .int 0), (0, .ref h0), (1, .int (nI W2)), (2, .int (nI H2))]) hx hb dX2_renew_11 rfl hl (by decide) rfl (fun ls hl => ?_)
  have L12 : ∀ (n k : Nat), k + n = 576 → ∀ (H : Heap) (locs : List Loc) (ls : Array Slot), va_P D vwCl [(h0, .inr (2, [.ref h1, .ref h2, .int (nI W2), .int (nI H2)])), (h1, .inl (cyI, 576, .inl (zr k g))), (h2, .inl (cyZ, 576, .inl (zr k ln)))] H → va_D A [(h0, .inr (2, [.ref h1, .ref h2, .int (nI W2), .int (nI H2)])), (h1, .inl (cyI, 576, .inl (zr k g))), (h2, .inl (cyZ, 576, .inl (zr k ln)))] → va_S A s.heap H locs → lv_has ls 4 [(0, .ref h0), (1, .int (nI W2)), (2, .int (nI H2)), (3, .int (nI k))] → W p l e rm_X2_renew s m ([.ref h0, .int (nI W2), .int (nI H2)] : List Value).toArray below meth c H locs 0 0 (MQ below (xk_Qv D A [(h0, .inr (2, [.ref h1, .ref h2, .int (nI W2), .int (nI H2)])), (h1, .inl (cyI, 576, .inl (zr 576 g))), (h2, .inl (cyZ, 576, .inl (zr 576 ln)))]) ([.ref h0, .int (nI W2), .int (nI H2)] : List Value).toArray s 0 0 A) (F0 m 12 ls []) := by
    intro n
    induction n with
    | zero =>
      intro k hk_12  H locs ls hP hD hS hl
      have hz_12 : 576 = k := hk_12.symm
      subst hz_12
      refine lv_iload_n hx hb dX2_renew_12 rfl (lv_at hl 3 rfl) ?_
      refine lv_aload_n hx hb dX2_renew_13 rfl (lv_at hl 0 rfl) ?_
      refine va_get (D := D) (ci := 2) (v := .ref h1) (C := RX2) (T := TX2) (N := 4) hx hb hts in_X2_renew_X2 hown hK hP 0 rfl rfl 0 (by decide) hf9 (fun _ h9 => h9) rfl dX2_renew_14 ?_
      refine va_alen (v := nI 576) hx hb hK hP 1 0 rfl rfl rfl dX2_renew_17 ?_
      refine lv_icmp_ge (tgt := 50) hx hb dX2_renew_18 (by decide) (fun c_18 => ?_) (fun c_18 => xk_ba c_18 (nI_le (Nat.le_refl _) (by decide)))
      exact xk_vret hx hb hr hlocks hP hD hS (rfl) dX2_renew_50
    | succ n ih_12 =>
      intro k hk_12  H locs ls hP hD hS hl
      refine lv_iload_n hx hb dX2_renew_12 rfl (lv_at hl 3 rfl) ?_
      refine lv_aload_n hx hb dX2_renew_13 rfl (lv_at hl 0 rfl) ?_
      refine va_get (D := D) (ci := 2) (v := .ref h1) (C := RX2) (T := TX2) (N := 4) hx hb hts in_X2_renew_X2 hown hK hP 0 rfl rfl 0 (by decide) hf9 (fun _ h9 => h9) rfl dX2_renew_14 ?_
      refine va_alen (v := nI 576) hx hb hK hP 1 0 rfl rfl rfl dX2_renew_17 ?_
      refine lv_icmp_ge (tgt := 50) hx hb dX2_renew_18 (by decide) (fun c_18 => xk_ab c_18 (nI_ge (by omega) (by decide))) (fun c_18 => ?_)
      refine lv_iload_n hx hb dX2_renew_21 rfl (lv_at hl 3 rfl) ?_
      refine lv_aload_n hx hb dX2_renew_22 rfl (lv_at hl 0 rfl) ?_
      refine va_get (D := D) (ci := 2) (v := .ref h2) (C := RX2) (T := TX2) (N := 4) hx hb hts in_X2_renew_X2 hown hK hP 0 rfl rfl 1 (by decide) hf13 (fun _ h9 => h9) rfl dX2_renew_23 ?_
      refine va_alen (v := nI 576) hx hb hK hP 2 1 rfl rfl rfl dX2_renew_26 ?_
      refine lv_icmp_ge (tgt := 50) hx hb dX2_renew_27 (by decide) (fun c_27 => xk_ab c_27 (nI_ge (by omega) (by decide))) (fun c_27 => ?_)
      refine lv_aload_n hx hb dX2_renew_30 rfl (lv_at hl 0 rfl) ?_
      refine va_get (D := D) (ci := 2) (v := .ref h1) (C := RX2) (T := TX2) (N := 4) hx hb hts in_X2_renew_X2 hown hK hP 0 rfl rfl 0 (by decide) hf9 (fun _ h9 => h9) rfl dX2_renew_31 ?_
      refine lv_iload_n hx hb dX2_renew_34 rfl (lv_at hl 3 rfl) ?_
      refine lv_iconst (v := 0) hx hb dX2_renew_35 (by decide) ?_
      refine xk_iast (w2 := [(h0, .inr (2, [.ref h1, .ref h2, .int (nI W2), .int (nI H2)])), (h1, .inl (cyI, 576, .inl (upd (zr k g) k 0))), (h2, .inl (cyZ, 576, .inl (zr k ln)))]) hx hb hK hP hD hS 1 rfl k (rfl) (by omega) (by decide) rfl dX2_renew_36 (fun H locs hP hD hS => ?_)
      refine lv_aload_n hx hb dX2_renew_37 rfl (lv_at hl 0 rfl) ?_
      refine va_get (D := D) (ci := 2) (v := .ref h2) (C := RX2) (T := TX2) (N := 4) hx hb hts in_X2_renew_X2 hown hK hP 0 rfl rfl 1 (by decide) hf13 (fun _ h9 => h9) rfl dX2_renew_38 ?_
      refine lv_iload_n hx hb dX2_renew_41 rfl (lv_at hl 3 rfl) ?_
      refine lv_iconst (v := 0) hx hb dX2_renew_42 (by decide) ?_
      refine xk_zast (w2 := [(h0, .inr (2, [.ref h1, .ref h2, .int (nI W2), .int (nI H2)])), (h1, .inl (cyI, 576, .inl (upd (zr k g) k 0))), (h2, .inl (cyZ, 576, .inl (upd (zr k ln) k 0)))]) hx hb hK hP hD hS 2 rfl k (rfl) (by omega) (by decide) (rfl) rfl dX2_renew_43 (fun H locs hP hD hS => ?_)
      refine lv_iinc (v := nI (k + 1)) (lv' := [(3, .int (nI (k + 1))), (0, .ref h0), (1, .int (nI W2)), (2, .int (nI H2))]) hx hb dX2_renew_44 hl (k := 3) rfl (nI_1 _) (by decide) rfl (fun ls hl => ?_)
      refine lv_goto (tgt := 12) hx hb dX2_renew_47 (by decide) ?_
      have eq_49 : (upd (zr k g) k 0 : Nat → Int32) = zr (k + 1) g := zr_s k g
      have eq_50 : (upd (zr k ln) k 0 : Nat → Int32) = zr (k + 1) ln := zr_s k ln
      have eW : ([(h0, .inr (2, [.ref h1, .ref h2, .int (nI W2), .int (nI H2)])), (h1, .inl (cyI, 576, .inl (upd (zr k g) k 0))), (h2, .inl (cyZ, 576, .inl (upd (zr k ln) k 0)))] : va_W) = [(h0, .inr (2, [.ref h1, .ref h2, .int (nI W2), .int (nI H2)])), (h1, .inl (cyI, 576, .inl (zr (k + 1) g))), (h2, .inl (cyZ, 576, .inl (zr (k + 1) ln)))] := (congrArg (List.cons _) (congr (congrArg List.cons (congrArg (fun z => ((h1, (Sum.inl (cyI, 576, Sum.inl z) : va_E)) : Nat × va_E)) eq_49)) (congr (congrArg List.cons (congrArg (fun z => ((h2, (Sum.inl (cyZ, 576, Sum.inl z) : va_E)) : Nat × va_E)) eq_50)) rfl)))
      rw [eW] at hP hD
      have hl := lv_sub (l' := [(0, .ref h0), (1, .int (nI W2)), (2, .int (nI H2)), (3, .int (nI (k + 1)))]) hl [1, 2, 3, 0] rfl
      exact ih_12 (k + 1) (by omega)  _ _ _ hP hD hS hl
  have eq_55 : (0 : Int32) = nI 0 := rfl
  have eq_56 : (g : Nat → Int32) = zr 0 g := (zr_0 g).symm
  have eq_57 : (ln : Nat → Int32) = zr 0 ln := (zr_0 ln).symm
  have eW : ([(h0, .inr (2, [.ref h1, .ref h2, .int (nI W2), .int (nI H2)])), (h1, .inl (cyI, 576, .inl g)), (h2, .inl (cyZ, 576, .inl ln))] : va_W) = [(h0, .inr (2, [.ref h1, .ref h2, .int (nI W2), .int (nI H2)])), (h1, .inl (cyI, 576, .inl (zr 0 g))), (h2, .inl (cyZ, 576, .inl (zr 0 ln)))] := (congrArg (List.cons _) (congr (congrArg List.cons (congrArg (fun z => ((h1, (Sum.inl (cyI, 576, Sum.inl z) : va_E)) : Nat × va_E)) eq_56)) (congr (congrArg List.cons (congrArg (fun z => ((h2, (Sum.inl (cyZ, 576, Sum.inl z) : va_E)) : Nat × va_E)) eq_57)) rfl)))
  rw [eW] at hP hD
  have hl := lv_sub (l' := [(0, .ref h0), (1, .int (nI W2)), (2, .int (nI H2)), (3, .int 0)]) hl [1, 2, 3, 0] rfl
  have eL : ([(0, .ref h0), (1, .int (nI W2)), (2, .int (nI H2)), (3, .int 0)] : List (Nat × Value)) = [(0, .ref h0), (1, .int (nI W2)), (2, .int (nI H2)), (3, .int (nI 0))] := (congrArg (List.cons _) (congrArg (List.cons _) (congrArg (List.cons _) (congr (congrArg List.cons (congrArg (fun z => (((3 : Nat), Value.int z) : Nat × Value)) eq_55)) rfl))))
  rw [eL] at hl
  exact L12 _ 0 (Nat.zero_add _)  _ _ _ hP hD hS hl

abbrev rm_X2_lineCount : Room := { frames := 0, cells := 0, slots := 0, locals := 0 }
theorem in_X2_lineCount_X2 : ∀ w ∈ u_ws RX2 TX2 4, w ∈ wsX2_lineCount := by decide +kernel
set_option maxHeartbeats 4000000 in
set_option maxRecDepth 100000 in
theorem ct_X2_lineCount (l : Launch) (D : va_G) (cyI cyZ : ClassId) (h0 h1 h2 : Nat) (sz : Nat) (Wd Hh : Nat) (g ln : Nat → Int32)  : Met l yX2_lineCount wsX2_lineCount rm_X2_lineCount (xk_Pc D cyI cyZ [.ref h0] [(h0, .inr (2, [.ref h1, .ref h2, .int (nI Wd), .int (nI Hh)])), (h1, .inl (cyI, 576, .inl g)), (h2, .inl (cyZ, 576, .inl ln))] sz) (xk_Qi D (va_A [(h0, .inr (2, [.ref h1, .ref h2, .int (nI Wd), .int (nI Hh)])), (h1, .inl (cyI, 576, .inl g)), (h2, .inl (cyZ, 576, .inl ln))] sz) (cL ln 576) [(h0, .inr (2, [.ref h1, .ref h2, .int (nI Wd), .int (nI Hh)])), (h1, .inl (cyI, 576, .inl g)), (h2, .inl (cyZ, 576, .inl ln))]) 0 0 (va_A [(h0, .inr (2, [.ref h1, .ref h2, .int (nI Wd), .int (nI Hh)])), (h1, .inl (cyI, 576, .inl g)), (h2, .inl (cyZ, 576, .inl ln))] sz) := by
  refine xk_of (own := RX2) (cc := cX2_lineCount) (maxL := 3) (ret := (some .int)) (Qc := fun A => xk_Qi D A (cL ln 576) [(h0, .inr (2, [.ref h1, .ref h2, .int (nI Wd), .int (nI Hh)])), (h1, .inl (cyI, 576, .inl g)), (h2, .inl (cyZ, 576, .inl ln))]) (by decide) rfl rfl (Nat.le_of_ble_eq_true rfl) ?_
  intro p e s m below meth c A ls hx hb hr hml hown hlocks hin hts hA hP hK hN hD hS hl
  have hC0 := xk_fix hx hb hml hown hts
  have hl : lv_has ls 3 [(0, .ref h0)] := hl
  have hf13 := hts (.fieldLink RX2 13 "DotPress$Sheet" "lines" "[Z") (by decide +kernel)
  refine lv_iconst (v := 0) hx hb dX2_lineCount_0 (by decide) ?_
  refine lv_istore_n (lv' := [(1, .int 0), (0, .ref h0)]) hx hb dX2_lineCount_1 rfl hl (by decide) rfl (fun ls hl => ?_)
  refine lv_iconst (v := 0) hx hb dX2_lineCount_2 (by decide) ?_
  refine lv_istore_n (lv' := [(2, .int 0), (1, .int 0), (0, .ref h0)]) hx hb dX2_lineCount_3 rfl hl (by decide) rfl (fun ls hl => ?_)
  have L4 : ∀ (n k : Nat), k + n = 576 → ∀ (H : Heap) (locs : List Loc) (ls : Array Slot), va_P D vwCl [(h0, .inr (2, [.ref h1, .ref h2, .int (nI Wd), .int (nI Hh)])), (h1, .inl (cyI, 576, .inl g)), (h2, .inl (cyZ, 576, .inl ln))] H → va_D A [(h0, .inr (2, [.ref h1, .ref h2, .int (nI Wd), .int (nI Hh)])), (h1, .inl (cyI, 576, .inl g)), (h2, .inl (cyZ, 576, .inl ln))] → va_S A s.heap H locs → lv_has ls 3 [(0, .ref h0), (1, .int (cL ln k)), (2, .int (nI k))] → W p l e rm_X2_lineCount s m ([.ref h0] : List Value).toArray below meth c H locs 0 0 (MQ below (xk_Qi D A (cL ln 576) [(h0, .inr (2, [.ref h1, .ref h2, .int (nI Wd), .int (nI Hh)])), (h1, .inl (cyI, 576, .inl g)), (h2, .inl (cyZ, 576, .inl ln))]) ([.ref h0] : List Value).toArray s 0 0 A) (F0 m 4 ls []) := by
    intro n
    induction n with
    | zero =>
      intro k hk_4  H locs ls hP hD hS hl
      have hz_4 : 576 = k := hk_4.symm
      subst hz_4
      refine lv_iload_n hx hb dX2_lineCount_4 rfl (lv_at hl 2 rfl) ?_
      refine lv_aload_n hx hb dX2_lineCount_5 rfl (lv_at hl 0 rfl) ?_
      refine va_get (D := D) (ci := 2) (v := .ref h2) (C := RX2) (T := TX2) (N := 4) hx hb hts in_X2_lineCount_X2 hown hK hP 0 rfl rfl 1 (by decide) hf13 (fun _ h9 => h9) rfl dX2_lineCount_6 ?_
      refine va_alen (v := nI 576) hx hb hK hP 2 1 rfl rfl rfl dX2_lineCount_9 ?_
      refine lv_icmp_ge (tgt := 31) hx hb dX2_lineCount_10 (by decide) (fun c_10 => ?_) (fun c_10 => xk_ba c_10 (nI_le (Nat.le_refl _) (by decide)))
      refine lv_iload_n hx hb dX2_lineCount_31 rfl (lv_at hl 1 rfl) ?_
      exact xk_iret hx hb hr hlocks hP hD hS (rfl) (rfl) dX2_lineCount_32
    | succ n ih_4 =>
      intro k hk_4  H locs ls hP hD hS hl
      refine lv_iload_n hx hb dX2_lineCount_4 rfl (lv_at hl 2 rfl) ?_
      refine lv_aload_n hx hb dX2_lineCount_5 rfl (lv_at hl 0 rfl) ?_
      refine va_get (D := D) (ci := 2) (v := .ref h2) (C := RX2) (T := TX2) (N := 4) hx hb hts in_X2_lineCount_X2 hown hK hP 0 rfl rfl 1 (by decide) hf13 (fun _ h9 => h9) rfl dX2_lineCount_6 ?_
      refine va_alen (v := nI 576) hx hb hK hP 2 1 rfl rfl rfl dX2_lineCount_9 ?_
      refine lv_icmp_ge (tgt := 31) hx hb dX2_lineCount_10 (by decide) (fun c_10 => xk_ab c_10 (nI_ge (by omega) (by decide))) (fun c_10 => ?_)
      refine lv_aload_n hx hb dX2_lineCount_13 rfl (lv_at hl 0 rfl) ?_
      refine va_get (D := D) (ci := 2) (v := .ref h2) (C := RX2) (T := TX2) (N := 4) hx hb hts in_X2_lineCount_X2 hown hK hP 0 rfl rfl 1 (by decide) hf13 (fun _ h9 => h9) rfl dX2_lineCount_14 ?_
      refine lv_iload_n hx hb dX2_lineCount_17 rfl (lv_at hl 2 rfl) ?_
      refine xk_zald hx hb hK hP 2 rfl k (rfl) (by omega) (by decide) dX2_lineCount_18 ?_
      refine lv_if_eq (tgt := 25) hx hb dX2_lineCount_19 (by decide) (fun c_19 => ?_) (fun c_19 => ?_)
      · refine lv_iinc (v := nI (k + 1)) (lv' := [(2, .int (nI (k + 1))), (0, .ref h0), (1, .int (cL ln k))]) hx hb dX2_lineCount_25 hl (k := 2) rfl (nI_1 _) (by decide) rfl (fun ls hl => ?_)
        refine lv_goto (tgt := 4) hx hb dX2_lineCount_28 (by decide) ?_
        have eq_32 : (cL ln k : Int32) = cL ln (k + 1) := by simp [cL, c_19]
        have hl := lv_sub (l' := [(0, .ref h0), (1, .int (cL ln k)), (2, .int (nI (k + 1)))]) hl [1, 2, 0] rfl
        have eL : ([(0, .ref h0), (1, .int (cL ln k)), (2, .int (nI (k + 1)))] : List (Nat × Value)) = [(0, .ref h0), (1, .int (cL ln (k + 1))), (2, .int (nI (k + 1)))] := (congrArg (List.cons _) (congr (congrArg List.cons (congrArg (fun z => (((1 : Nat), Value.int z) : Nat × Value)) eq_32)) (congrArg (List.cons _) rfl)))
        rw [eL] at hl
        exact ih_4 (k + 1) (by omega)  _ _ _ hP hD hS hl
      · refine lv_iinc (v := (cL ln k + 1)) (lv' := [(1, .int (cL ln k + 1)), (0, .ref h0), (2, .int (nI k))]) hx hb dX2_lineCount_22 hl (k := 1) rfl (rfl) (by decide) rfl (fun ls hl => ?_)
        refine lv_iinc (v := nI (k + 1)) (lv' := [(2, .int (nI (k + 1))), (1, .int (cL ln k + 1)), (0, .ref h0)]) hx hb dX2_lineCount_25 hl (k := 2) rfl (nI_1 _) (by decide) rfl (fun ls hl => ?_)
        refine lv_goto (tgt := 4) hx hb dX2_lineCount_28 (by decide) ?_
        have eq_40 : (cL ln k + 1 : Int32) = cL ln (k + 1) := by simp [cL, c_19]
        have hl := lv_sub (l' := [(0, .ref h0), (1, .int (cL ln k + 1)), (2, .int (nI (k + 1)))]) hl [2, 1, 0] rfl
        have eL : ([(0, .ref h0), (1, .int (cL ln k + 1)), (2, .int (nI (k + 1)))] : List (Nat × Value)) = [(0, .ref h0), (1, .int (cL ln (k + 1))), (2, .int (nI (k + 1)))] := (congrArg (List.cons _) (congr (congrArg List.cons (congrArg (fun z => (((1 : Nat), Value.int z) : Nat × Value)) eq_40)) (congrArg (List.cons _) rfl)))
        rw [eL] at hl
        exact ih_4 (k + 1) (by omega)  _ _ _ hP hD hS hl
  have eq_45 : (0 : Int32) = cL ln 0 := rfl
  have eq_46 : (0 : Int32) = nI 0 := rfl
  have hl := lv_sub (l' := [(0, .ref h0), (1, .int 0), (2, .int 0)]) hl [2, 1, 0] rfl
  have eL : ([(0, .ref h0), (1, .int 0), (2, .int 0)] : List (Nat × Value)) = [(0, .ref h0), (1, .int (cL ln 0)), (2, .int (nI 0))] := (congrArg (List.cons _) (congr (congrArg List.cons (congrArg (fun z => (((1 : Nat), Value.int z) : Nat × Value)) eq_45)) (congr (congrArg List.cons (congrArg (fun z => (((2 : Nat), Value.int z) : Nat × Value)) eq_46)) rfl)))
  rw [eL] at hl
  exact L4 _ 0 (Nat.zero_add _)  _ _ _ hP hD hS hl

abbrev rm_X2_greySum : Room := { frames := 0, cells := 0, slots := 0, locals := 0 }
theorem in_X2_greySum_X2 : ∀ w ∈ u_ws RX2 TX2 4, w ∈ wsX2_greySum := by decide +kernel
set_option maxHeartbeats 4000000 in
set_option maxRecDepth 100000 in
theorem ct_X2_greySum (l : Launch) (D : va_G) (cyI cyZ : ClassId) (h0 h1 h2 : Nat) (sz : Nat) (Wd Hh : Nat) (g ln : Nat → Int32)  : Met l yX2_greySum wsX2_greySum rm_X2_greySum (xk_Pc D cyI cyZ [.ref h0] [(h0, .inr (2, [.ref h1, .ref h2, .int (nI Wd), .int (nI Hh)])), (h1, .inl (cyI, 576, .inl g)), (h2, .inl (cyZ, 576, .inl ln))] sz) (xk_Qi D (va_A [(h0, .inr (2, [.ref h1, .ref h2, .int (nI Wd), .int (nI Hh)])), (h1, .inl (cyI, 576, .inl g)), (h2, .inl (cyZ, 576, .inl ln))] sz) (sG g ln 576) [(h0, .inr (2, [.ref h1, .ref h2, .int (nI Wd), .int (nI Hh)])), (h1, .inl (cyI, 576, .inl g)), (h2, .inl (cyZ, 576, .inl ln))]) 0 0 (va_A [(h0, .inr (2, [.ref h1, .ref h2, .int (nI Wd), .int (nI Hh)])), (h1, .inl (cyI, 576, .inl g)), (h2, .inl (cyZ, 576, .inl ln))] sz) := by
  refine xk_of (own := RX2) (cc := cX2_greySum) (maxL := 3) (ret := (some .int)) (Qc := fun A => xk_Qi D A (sG g ln 576) [(h0, .inr (2, [.ref h1, .ref h2, .int (nI Wd), .int (nI Hh)])), (h1, .inl (cyI, 576, .inl g)), (h2, .inl (cyZ, 576, .inl ln))]) (by decide) rfl rfl (Nat.le_of_ble_eq_true rfl) ?_
  intro p e s m below meth c A ls hx hb hr hml hown hlocks hin hts hA hP hK hN hD hS hl
  have hC0 := xk_fix hx hb hml hown hts
  have hl : lv_has ls 3 [(0, .ref h0)] := hl
  have hf9 := hts (.fieldLink RX2 9 "DotPress$Sheet" "greys" "[I") (by decide +kernel)
  have hf13 := hts (.fieldLink RX2 13 "DotPress$Sheet" "lines" "[Z") (by decide +kernel)
  refine lv_iconst (v := 0) hx hb dX2_greySum_0 (by decide) ?_
  refine lv_istore_n (lv' := [(1, .int 0), (0, .ref h0)]) hx hb dX2_greySum_1 rfl hl (by decide) rfl (fun ls hl => ?_)
  refine lv_iconst (v := 0) hx hb dX2_greySum_2 (by decide) ?_
  refine lv_istore_n (lv' := [(2, .int 0), (1, .int 0), (0, .ref h0)]) hx hb dX2_greySum_3 rfl hl (by decide) rfl (fun ls hl => ?_)
  have L4 : ∀ (n k : Nat), k + n = 576 → ∀ (H : Heap) (locs : List Loc) (ls : Array Slot), va_P D vwCl [(h0, .inr (2, [.ref h1, .ref h2, .int (nI Wd), .int (nI Hh)])), (h1, .inl (cyI, 576, .inl g)), (h2, .inl (cyZ, 576, .inl ln))] H → va_D A [(h0, .inr (2, [.ref h1, .ref h2, .int (nI Wd), .int (nI Hh)])), (h1, .inl (cyI, 576, .inl g)), (h2, .inl (cyZ, 576, .inl ln))] → va_S A s.heap H locs → lv_has ls 3 [(0, .ref h0), (1, .int (sG g ln k)), (2, .int (nI k))] → W p l e rm_X2_greySum s m ([.ref h0] : List Value).toArray below meth c H locs 0 0 (MQ below (xk_Qi D A (sG g ln 576) [(h0, .inr (2, [.ref h1, .ref h2, .int (nI Wd), .int (nI Hh)])), (h1, .inl (cyI, 576, .inl g)), (h2, .inl (cyZ, 576, .inl ln))]) ([.ref h0] : List Value).toArray s 0 0 A) (F0 m 4 ls []) := by
    intro n
    induction n with
    | zero =>
      intro k hk_4  H locs ls hP hD hS hl
      have hz_4 : 576 = k := hk_4.symm
      subst hz_4
      refine lv_iload_n hx hb dX2_greySum_4 rfl (lv_at hl 2 rfl) ?_
      refine lv_aload_n hx hb dX2_greySum_5 rfl (lv_at hl 0 rfl) ?_
      refine va_get (D := D) (ci := 2) (v := .ref h1) (C := RX2) (T := TX2) (N := 4) hx hb hts in_X2_greySum_X2 hown hK hP 0 rfl rfl 0 (by decide) hf9 (fun _ h9 => h9) rfl dX2_greySum_6 ?_
      refine va_alen (v := nI 576) hx hb hK hP 1 0 rfl rfl rfl dX2_greySum_9 ?_
      refine lv_icmp_ge (tgt := 46) hx hb dX2_greySum_10 (by decide) (fun c_10 => ?_) (fun c_10 => xk_ba c_10 (nI_le (Nat.le_refl _) (by decide)))
      refine lv_iload_n hx hb dX2_greySum_46 rfl (lv_at hl 1 rfl) ?_
      exact xk_iret hx hb hr hlocks hP hD hS (rfl) (rfl) dX2_greySum_47
    | succ n ih_4 =>
      intro k hk_4  H locs ls hP hD hS hl
      refine lv_iload_n hx hb dX2_greySum_4 rfl (lv_at hl 2 rfl) ?_
      refine lv_aload_n hx hb dX2_greySum_5 rfl (lv_at hl 0 rfl) ?_
      refine va_get (D := D) (ci := 2) (v := .ref h1) (C := RX2) (T := TX2) (N := 4) hx hb hts in_X2_greySum_X2 hown hK hP 0 rfl rfl 0 (by decide) hf9 (fun _ h9 => h9) rfl dX2_greySum_6 ?_
      refine va_alen (v := nI 576) hx hb hK hP 1 0 rfl rfl rfl dX2_greySum_9 ?_
      refine lv_icmp_ge (tgt := 46) hx hb dX2_greySum_10 (by decide) (fun c_10 => xk_ab c_10 (nI_ge (by omega) (by decide))) (fun c_10 => ?_)
      refine lv_iload_n hx hb dX2_greySum_13 rfl (lv_at hl 2 rfl) ?_
      refine lv_aload_n hx hb dX2_greySum_14 rfl (lv_at hl 0 rfl) ?_
      refine va_get (D := D) (ci := 2) (v := .ref h2) (C := RX2) (T := TX2) (N := 4) hx hb hts in_X2_greySum_X2 hown hK hP 0 rfl rfl 1 (by decide) hf13 (fun _ h9 => h9) rfl dX2_greySum_15 ?_
      refine va_alen (v := nI 576) hx hb hK hP 2 1 rfl rfl rfl dX2_greySum_18 ?_
      refine lv_icmp_ge (tgt := 46) hx hb dX2_greySum_19 (by decide) (fun c_19 => xk_ab c_19 (nI_ge (by omega) (by decide))) (fun c_19 => ?_)
      refine lv_aload_n hx hb dX2_greySum_22 rfl (lv_at hl 0 rfl) ?_
      refine va_get (D := D) (ci := 2) (v := .ref h2) (C := RX2) (T := TX2) (N := 4) hx hb hts in_X2_greySum_X2 hown hK hP 0 rfl rfl 1 (by decide) hf13 (fun _ h9 => h9) rfl dX2_greySum_23 ?_
      refine lv_iload_n hx hb dX2_greySum_26 rfl (lv_at hl 2 rfl) ?_
      refine xk_zald hx hb hK hP 2 rfl k (rfl) (by omega) (by decide) dX2_greySum_27 ?_
      refine lv_if_ne (tgt := 40) hx hb dX2_greySum_28 (by decide) (fun c_28 => ?_) (fun c_28 => ?_)
      · refine lv_iinc (v := nI (k + 1)) (lv' := [(2, .int (nI (k + 1))), (0, .ref h0), (1, .int (sG g ln k))]) hx hb dX2_greySum_40 hl (k := 2) rfl (nI_1 _) (by decide) rfl (fun ls hl => ?_)
        refine lv_goto (tgt := 4) hx hb dX2_greySum_43 (by decide) ?_
        have eq_37 : (sG g ln k : Int32) = sG g ln (k + 1) := by simp [sG, c_28]
        have hl := lv_sub (l' := [(0, .ref h0), (1, .int (sG g ln k)), (2, .int (nI (k + 1)))]) hl [1, 2, 0] rfl
        have eL : ([(0, .ref h0), (1, .int (sG g ln k)), (2, .int (nI (k + 1)))] : List (Nat × Value)) = [(0, .ref h0), (1, .int (sG g ln (k + 1))), (2, .int (nI (k + 1)))] := (congrArg (List.cons _) (congr (congrArg List.cons (congrArg (fun z => (((1 : Nat), Value.int z) : Nat × Value)) eq_37)) (congrArg (List.cons _) rfl)))
        rw [eL] at hl
        exact ih_4 (k + 1) (by omega)  _ _ _ hP hD hS hl
      · refine lv_iload_n hx hb dX2_greySum_31 rfl (lv_at hl 1 rfl) ?_
        refine lv_aload_n hx hb dX2_greySum_32 rfl (lv_at hl 0 rfl) ?_
        refine va_get (D := D) (ci := 2) (v := .ref h1) (C := RX2) (T := TX2) (N := 4) hx hb hts in_X2_greySum_X2 hown hK hP 0 rfl rfl 0 (by decide) hf9 (fun _ h9 => h9) rfl dX2_greySum_33 ?_
        refine lv_iload_n hx hb dX2_greySum_36 rfl (lv_at hl 2 rfl) ?_
        refine xk_iald hx hb hK hP 1 rfl k (rfl) (by omega) (by decide) dX2_greySum_37 ?_
        refine lv_iadd hx hb dX2_greySum_38 ?_
        refine lv_istore_n (lv' := [(1, .int (sG g ln k + (g k))), (0, .ref h0), (2, .int (nI k))]) hx hb dX2_greySum_39 rfl hl (by decide) rfl (fun ls hl => ?_)
        refine lv_iinc (v := nI (k + 1)) (lv' := [(2, .int (nI (k + 1))), (1, .int (sG g ln k + (g k))), (0, .ref h0)]) hx hb dX2_greySum_40 hl (k := 2) rfl (nI_1 _) (by decide) rfl (fun ls hl => ?_)
        refine lv_goto (tgt := 4) hx hb dX2_greySum_43 (by decide) ?_
        have eq_51 : (sG g ln k + (g k) : Int32) = sG g ln (k + 1) := by simp [sG, c_28]
        have hl := lv_sub (l' := [(0, .ref h0), (1, .int (sG g ln k + (g k))), (2, .int (nI (k + 1)))]) hl [2, 1, 0] rfl
        have eL : ([(0, .ref h0), (1, .int (sG g ln k + (g k))), (2, .int (nI (k + 1)))] : List (Nat × Value)) = [(0, .ref h0), (1, .int (sG g ln (k + 1))), (2, .int (nI (k + 1)))] := (congrArg (List.cons _) (congr (congrArg List.cons (congrArg (fun z => (((1 : Nat), Value.int z) : Nat × Value)) eq_51)) (congrArg (List.cons _) rfl)))
        rw [eL] at hl
        exact ih_4 (k + 1) (by omega)  _ _ _ hP hD hS hl
  have eq_56 : (0 : Int32) = sG g ln 0 := rfl
  have eq_57 : (0 : Int32) = nI 0 := rfl
  have hl := lv_sub (l' := [(0, .ref h0), (1, .int 0), (2, .int 0)]) hl [2, 1, 0] rfl
  have eL : ([(0, .ref h0), (1, .int 0), (2, .int 0)] : List (Nat × Value)) = [(0, .ref h0), (1, .int (sG g ln 0)), (2, .int (nI 0))] := (congrArg (List.cons _) (congr (congrArg List.cons (congrArg (fun z => (((1 : Nat), Value.int z) : Nat × Value)) eq_56)) (congr (congrArg List.cons (congrArg (fun z => (((2 : Nat), Value.int z) : Nat × Value)) eq_57)) rfl)))
  rw [eL] at hl
  exact L4 _ 0 (Nat.zero_add _)  _ _ _ hP hD hS hl
