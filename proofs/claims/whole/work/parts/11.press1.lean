/-! DotPress: its simple methods -/
abbrev rm_X4_picture_no : Room := { frames := 1, cells := 0, slots := 0, locals := 20 }
set_option maxHeartbeats 4000000 in
set_option maxRecDepth 100000 in
theorem ct_X4_picture_no (l : Launch) (D : va_G) (cyI cyZ : ClassId) (d0 s0 t0 r0 q0 s1 s2 : Nat) (sz : Nat) (bk : Int32) (Wd Hh : Nat) (g ln : Nat → Int32) (x y : Int32) (hno : ¬ ((¬ x < 1 ∧ ¬ 24 < x) ∧ ¬ y < 1 ∧ ¬ 24 < y)) : Met l yX4_picture wsX4_picture rm_X4_picture_no (xk_Pc D cyI cyZ [.ref d0, .int x, .int y] [(d0, .inr (4, [.ref s0, .ref t0, .ref r0, .ref q0, .int bk])), (s0, .inr (2, [.ref s1, .ref s2, .int (nI Wd), .int (nI Hh)])), (s1, .inl (cyI, 576, .inl g)), (s2, .inl (cyZ, 576, .inl ln))] sz) (xk_Qi D (va_A [(d0, .inr (4, [.ref s0, .ref t0, .ref r0, .ref q0, .int bk])), (s0, .inr (2, [.ref s1, .ref s2, .int (nI Wd), .int (nI Hh)])), (s1, .inl (cyI, 576, .inl g)), (s2, .inl (cyZ, 576, .inl ln))] sz) 0 [(d0, .inr (4, [.ref s0, .ref t0, .ref r0, .ref q0, .int bk])), (s0, .inr (2, [.ref s1, .ref s2, .int (nI Wd), .int (nI Hh)])), (s1, .inl (cyI, 576, .inl g)), (s2, .inl (cyZ, 576, .inl ln))]) 0 0 (va_A [(d0, .inr (4, [.ref s0, .ref t0, .ref r0, .ref q0, .int bk])), (s0, .inr (2, [.ref s1, .ref s2, .int (nI Wd), .int (nI Hh)])), (s1, .inl (cyI, 576, .inl g)), (s2, .inl (cyZ, 576, .inl ln))] sz) := by
  refine xk_of (own := RX4) (cc := cX4_picture) (maxL := 3) (ret := (some .boolean)) (Qc := fun A => xk_Qi D A 0 [(d0, .inr (4, [.ref s0, .ref t0, .ref r0, .ref q0, .int bk])), (s0, .inr (2, [.ref s1, .ref s2, .int (nI Wd), .int (nI Hh)])), (s1, .inl (cyI, 576, .inl g)), (s2, .inl (cyZ, 576, .inl ln))]) (by decide) rfl rfl (Nat.le_of_ble_eq_true rfl) ?_
  intro p e s m below meth c A ls hx hb hr hml hown hlocks hin hts hA hP hK hN hD hS hl
  have hC0 := xk_fix hx hb hml hown hts
  have hl : lv_has ls 3 [(0, .ref d0), (1, .int x), (2, .int y)] := hl
  refine lv_iload_n hx hb dX4_picture_0 rfl (lv_at hl 1 rfl) ?_
  have hPc := hP.sub (ws' := []) [] rfl
  have hDc := hD.sub (ws' := []) [] (by decide) rfl
  refine xk_calli (wr := [(d0, .inr (4, [.ref s0, .ref t0, .ref r0, .ref q0, .int bk])), (s0, .inr (2, [.ref s1, .ref s2, .int (nI Wd), .int (nI Hh)])), (s1, .inl (cyI, 576, .inl g)), (s2, .inl (cyZ, 576, .inl ln))]) (w2 := [(d0, .inr (4, [.ref s0, .ref t0, .ref r0, .ref q0, .int bk])), (s0, .inr (2, [.ref s1, .ref s2, .int (nI Wd), .int (nI Hh)])), (s1, .inl (cyI, 576, .inl g)), (s2, .inl (cyZ, 576, .inl ln))]) (va_runS (As := [.int x]) (rest := []) hC0 (ct_X2_allows l D cyI cyZ  _ x ) (va_cwS 1 hts gX4_picture_X2_allows rfl rfl rfl (by decide +kernel) ⟨Nat.le_of_ble_eq_true rfl, Nat.le_of_ble_eq_true rfl⟩) ⟨xk_blind, xk_pre hK hN hPc hDc⟩ rfl rfl hl.1 rfl (lv_room (Nat.le_of_ble_eq_true rfl)) dX4_picture_1 ⟨Nat.le_of_ble_eq_true rfl, Nat.le_of_ble_eq_true rfl⟩) hP hD hS hA [] [0, 1, 2, 3] [0, 1, 2, 3] rfl rfl (by decide) (by decide) rfl (by decide) (fun H locs hP hD hS => ?_)
  refine lv_if_eq (tgt := 14) hx hb dX4_picture_4 (by decide) (fun c_4 => ?_) (fun c_4 => ?_)
  · have c_4 := bI_z.mp c_4
    refine lv_iconst (v := 0) hx hb dX4_picture_14 (by decide) ?_
    exact xk_zret hx hb hr hlocks hP hD hS (rfl) (rfl) (rfl) dX4_picture_15
  · have c_4 := bI_nz.mp c_4
    refine lv_iload_n hx hb dX4_picture_7 rfl (lv_at hl 2 rfl) ?_
    have hPc := hP.sub (ws' := []) [] rfl
    have hDc := hD.sub (ws' := []) [] (by decide) rfl
    refine xk_calli (wr := [(d0, .inr (4, [.ref s0, .ref t0, .ref r0, .ref q0, .int bk])), (s0, .inr (2, [.ref s1, .ref s2, .int (nI Wd), .int (nI Hh)])), (s1, .inl (cyI, 576, .inl g)), (s2, .inl (cyZ, 576, .inl ln))]) (w2 := [(d0, .inr (4, [.ref s0, .ref t0, .ref r0, .ref q0, .int bk])), (s0, .inr (2, [.ref s1, .ref s2, .int (nI Wd), .int (nI Hh)])), (s1, .inl (cyI, 576, .inl g)), (s2, .inl (cyZ, 576, .inl ln))]) (va_runS (As := [.int y]) (rest := []) hC0 (ct_X2_allows l D cyI cyZ  _ y ) (va_cwS 1 hts gX4_picture_X2_allows rfl rfl rfl (by decide +kernel) ⟨Nat.le_of_ble_eq_true rfl, Nat.le_of_ble_eq_true rfl⟩) ⟨xk_blind, xk_pre hK hN hPc hDc⟩ rfl rfl hl.1 rfl (lv_room (Nat.le_of_ble_eq_true rfl)) dX4_picture_8 ⟨Nat.le_of_ble_eq_true rfl, Nat.le_of_ble_eq_true rfl⟩) hP hD hS hA [] [0, 1, 2, 3] [0, 1, 2, 3] rfl rfl (by decide) (by decide) rfl (by decide) (fun H locs hP hD hS => ?_)
    refine lv_if_ne (tgt := 16) hx hb dX4_picture_11 (by decide) (fun c_11 => ?_) (fun c_11 => ?_)
    · have c_11 := bI_nz.mp c_11
      exact absurd ⟨c_4, c_11⟩ hno
    · have c_11 := bI_z.mp c_11
      refine lv_iconst (v := 0) hx hb dX4_picture_14 (by decide) ?_
      exact xk_zret hx hb hr hlocks hP hD hS (rfl) (rfl) (rfl) dX4_picture_15

abbrev rm_X4_picture_ok : Room := { frames := 1, cells := 0, slots := 0, locals := 23 }
theorem in_X4_picture_ok_X4 : ∀ w ∈ u_ws RX4 TX4 5, w ∈ wsX4_picture := by decide +kernel
set_option maxHeartbeats 4000000 in
set_option maxRecDepth 100000 in
theorem ct_X4_picture_ok (l : Launch) (D : va_G) (cyI cyZ : ClassId) (d0 s0 t0 r0 q0 s1 s2 : Nat) (sz : Nat) (bk : Int32) (Wd Hh : Nat) (g ln : Nat → Int32) (W2 H2 : Nat) (q1 : 1 ≤ W2) (q2 : W2 ≤ 24) (q3 : 1 ≤ H2) (q4 : H2 ≤ 24) : Met l yX4_picture wsX4_picture rm_X4_picture_ok (xk_Pc D cyI cyZ [.ref d0, .int (nI W2), .int (nI H2)] [(d0, .inr (4, [.ref s0, .ref t0, .ref r0, .ref q0, .int bk])), (s0, .inr (2, [.ref s1, .ref s2, .int (nI Wd), .int (nI Hh)])), (s1, .inl (cyI, 576, .inl g)), (s2, .inl (cyZ, 576, .inl ln))] sz) (xk_Qi D (va_A [(d0, .inr (4, [.ref s0, .ref t0, .ref r0, .ref q0, .int bk])), (s0, .inr (2, [.ref s1, .ref s2, .int (nI Wd), .int (nI Hh)])), (s1, .inl (cyI, 576, .inl g)), (s2, .inl (cyZ, 576, .inl ln))] sz) 1 [(d0, .inr (4, [.ref s0, .ref t0, .ref r0, .ref q0, .int bk])), (s0, .inr (2, [.ref s1, .ref s2, .int (nI W2), .int (nI H2)])), (s1, .inl (cyI, 576, .inl (zr 576 g))), (s2, .inl (cyZ, 576, .inl (zr 576 ln)))]) 0 0 (va_A [(d0, .inr (4, [.ref s0, .ref t0, .ref r0, .ref q0, .int bk])), (s0, .inr (2, [.ref s1, .ref s2, .int (nI Wd), .int (nI Hh)])), (s1, .inl (cyI, 576, .inl g)), (s2, .inl (cyZ, 576, .inl ln))] sz) := by
  refine xk_of (own := RX4) (cc := cX4_picture) (maxL := 3) (ret := (some .boolean)) (Qc := fun A => xk_Qi D A 1 [(d0, .inr (4, [.ref s0, .ref t0, .ref r0, .ref q0, .int bk])), (s0, .inr (2, [.ref s1, .ref s2, .int (nI W2), .int (nI H2)])), (s1, .inl (cyI, 576, .inl (zr 576 g))), (s2, .inl (cyZ, 576, .inl (zr 576 ln)))]) (by decide) rfl rfl (Nat.le_of_ble_eq_true rfl) ?_
  intro p e s m below meth c A ls hx hb hr hml hown hlocks hin hts hA hP hK hN hD hS hl
  have hC0 := xk_fix hx hb hml hown hts
  have hl : lv_has ls 3 [(0, .ref d0), (1, .int (nI W2)), (2, .int (nI H2))] := hl
  have hf10 := hts (.fieldLink RX4 10 "DotPress" "sheet" "LDotPress$Sheet;") (by decide +kernel)
  refine lv_iload_n hx hb dX4_picture_0 rfl (lv_at hl 1 rfl) ?_
  have hPc := hP.sub (ws' := []) [] rfl
  have hDc := hD.sub (ws' := []) [] (by decide) rfl
  refine xk_calli (wr := [(d0, .inr (4, [.ref s0, .ref t0, .ref r0, .ref q0, .int bk])), (s0, .inr (2, [.ref s1, .ref s2, .int (nI Wd), .int (nI Hh)])), (s1, .inl (cyI, 576, .inl g)), (s2, .inl (cyZ, 576, .inl ln))]) (w2 := [(d0, .inr (4, [.ref s0, .ref t0, .ref r0, .ref q0, .int bk])), (s0, .inr (2, [.ref s1, .ref s2, .int (nI Wd), .int (nI Hh)])), (s1, .inl (cyI, 576, .inl g)), (s2, .inl (cyZ, 576, .inl ln))]) (va_runS (As := [.int (nI W2)]) (rest := []) hC0 (ct_X2_allows l D cyI cyZ  _ (nI W2) ) (va_cwS 1 hts gX4_picture_X2_allows rfl rfl rfl (by decide +kernel) ⟨Nat.le_of_ble_eq_true rfl, Nat.le_of_ble_eq_true rfl⟩) ⟨xk_blind, xk_pre hK hN hPc hDc⟩ rfl rfl hl.1 rfl (lv_room (Nat.le_of_ble_eq_true rfl)) dX4_picture_1 ⟨Nat.le_of_ble_eq_true rfl, Nat.le_of_ble_eq_true rfl⟩) hP hD hS hA [] [0, 1, 2, 3] [0, 1, 2, 3] rfl rfl (by decide) (by decide) rfl (by decide) (fun H locs hP hD hS => ?_)
  refine lv_if_eq (tgt := 14) hx hb dX4_picture_4 (by decide) (fun c_4 => xk_ab c_4 (bI_nz.mpr ⟨rg_lo (lo := 1) (by omega) (by omega), rg_hi (hi := 24) (by omega) (by omega)⟩)) (fun c_4 => ?_)
  have c_4 := bI_nz.mp c_4
  refine lv_iload_n hx hb dX4_picture_7 rfl (lv_at hl 2 rfl) ?_
  have hPc := hP.sub (ws' := []) [] rfl
  have hDc := hD.sub (ws' := []) [] (by decide) rfl
  refine xk_calli (wr := [(d0, .inr (4, [.ref s0, .ref t0, .ref r0, .ref q0, .int bk])), (s0, .inr (2, [.ref s1, .ref s2, .int (nI Wd), .int (nI Hh)])), (s1, .inl (cyI, 576, .inl g)), (s2, .inl (cyZ, 576, .inl ln))]) (w2 := [(d0, .inr (4, [.ref s0, .ref t0, .ref r0, .ref q0, .int bk])), (s0, .inr (2, [.ref s1, .ref s2, .int (nI Wd), .int (nI Hh)])), (s1, .inl (cyI, 576, .inl g)), (s2, .inl (cyZ, 576, .inl ln))]) (va_runS (As := [.int (nI H2)]) (rest := []) hC0 (ct_X2_allows l D cyI cyZ  _ (nI H2) ) (va_cwS 1 hts gX4_picture_X2_allows rfl rfl rfl (by decide +kernel) ⟨Nat.le_of_ble_eq_true rfl, Nat.le_of_ble_eq_true rfl⟩) ⟨xk_blind, xk_pre hK hN hPc hDc⟩ rfl rfl hl.1 rfl (lv_room (Nat.le_of_ble_eq_true rfl)) dX4_picture_8 ⟨Nat.le_of_ble_eq_true rfl, Nat.le_of_ble_eq_true rfl⟩) hP hD hS hA [] [0, 1, 2, 3] [0, 1, 2, 3] rfl rfl (by decide) (by decide) rfl (by decide) (fun H locs hP hD hS => ?_)
  refine lv_if_ne (tgt := 16) hx hb dX4_picture_11 (by decide) (fun c_11 => ?_) (fun c_11 => xk_ab c_11 (bI_nz.mpr ⟨rg_lo (lo := 1) (by omega) (by omega), rg_hi (hi := 24) (by omega) (by omega)⟩))
  have c_11 := bI_nz.mp c_11
  refine lv_aload_n hx hb dX4_picture_16 rfl (lv_at hl 0 rfl) ?_
  refine va_get (D := D) (ci := 4) (v := .ref s0) (C := RX4) (T := TX4) (N := 5) hx hb hts in_X4_picture_ok_X4 hown hK hP 0 rfl rfl 0 (by decide) hf10 (fun _ h9 => h9) rfl dX4_picture_17 ?_
  refine lv_iload_n hx hb dX4_picture_20 rfl (lv_at hl 1 rfl) ?_
  refine lv_iload_n hx hb dX4_picture_21 rfl (lv_at hl 2 rfl) ?_
  have hPc := hP.sub (ws' := [(s0, .inr (2, [.ref s1, .ref s2, .int (nI Wd), .int (nI Hh)])), (s1, .inl (cyI, 576, .inl g)), (s2, .inl (cyZ, 576, .inl ln))]) [1, 2, 3] rfl
  have hDc := hD.sub (ws' := [(s0, .inr (2, [.ref s1, .ref s2, .int (nI Wd), .int (nI Hh)])), (s1, .inl (cyI, 576, .inl g)), (s2, .inl (cyZ, 576, .inl ln))]) [1, 2, 3] (by decide) rfl
  refine xk_callv (wr := [(d0, .inr (4, [.ref s0, .ref t0, .ref r0, .ref q0, .int bk]))]) (w2 := [(d0, .inr (4, [.ref s0, .ref t0, .ref r0, .ref q0, .int bk])), (s0, .inr (2, [.ref s1, .ref s2, .int (nI W2), .int (nI H2)])), (s1, .inl (cyI, 576, .inl (zr 576 g))), (s2, .inl (cyZ, 576, .inl (zr 576 ln)))]) (va_runV (As := [.int (nI W2), .int (nI H2)]) (rest := []) hC0 (ct_X2_renew l D cyI cyZ s0 s1 s2 _ Wd Hh g ln W2 H2 ) (cwV 2 hts gX4_picture_X2_renew rfl rfl rfl (by decide +kernel) ⟨Nat.le_of_ble_eq_true rfl, Nat.le_of_ble_eq_true rfl⟩) ⟨xk_blind, va_recv hK hPc (ci := 2) (q0 := 0) rfl rfl, xk_pre hK hN hPc hDc⟩ rfl rfl hl.1 rfl (lv_room (Nat.le_of_ble_eq_true rfl)) dX4_picture_22 ⟨Nat.le_of_ble_eq_true rfl, Nat.le_of_ble_eq_true rfl⟩) hP hD hS hA [1, 2, 3] [0] [0, 1, 2, 3] rfl rfl (by decide) (by decide) rfl (by decide) (fun H locs hP hD hS => ?_)
  refine lv_iconst (v := 1) hx hb dX4_picture_25 (by decide) ?_
  exact xk_zret hx hb hr hlocks hP hD hS (rfl) (rfl) (rfl) dX4_picture_26

abbrev rm_X4_shade_no : Room := { frames := 1, cells := 0, slots := 0, locals := 22 }
theorem in_X4_shade_no_X4 : ∀ w ∈ u_ws RX4 TX4 5, w ∈ wsX4_shade := by decide +kernel
set_option maxHeartbeats 4000000 in
set_option maxRecDepth 100000 in
theorem ct_X4_shade_no (l : Launch) (D : va_G) (cyI cyZ : ClassId) (d0 s0 t0 r0 q0 s1 s2 : Nat) (sz : Nat) (bk : Int32) (Wd Hh : Nat) (g ln : Nat → Int32) (x y v : Int32) (hno : ¬ (sh_has Wd Hh x y ∧ ¬ v < 0 ∧ ¬ 255 < v)) : Met l yX4_shade wsX4_shade rm_X4_shade_no (xk_Pc D cyI cyZ [.ref d0, .int x, .int y, .int v] [(d0, .inr (4, [.ref s0, .ref t0, .ref r0, .ref q0, .int bk])), (s0, .inr (2, [.ref s1, .ref s2, .int (nI Wd), .int (nI Hh)])), (s1, .inl (cyI, 576, .inl g)), (s2, .inl (cyZ, 576, .inl ln))] sz) (xk_Qi D (va_A [(d0, .inr (4, [.ref s0, .ref t0, .ref r0, .ref q0, .int bk])), (s0, .inr (2, [.ref s1, .ref s2, .int (nI Wd), .int (nI Hh)])), (s1, .inl (cyI, 576, .inl g)), (s2, .inl (cyZ, 576, .inl ln))] sz) 0 [(d0, .inr (4, [.ref s0, .ref t0, .ref r0, .ref q0, .int bk])), (s0, .inr (2, [.ref s1, .ref s2, .int (nI Wd), .int (nI Hh)])), (s1, .inl (cyI, 576, .inl g)), (s2, .inl (cyZ, 576, .inl ln))]) 0 0 (va_A [(d0, .inr (4, [.ref s0, .ref t0, .ref r0, .ref q0, .int bk])), (s0, .inr (2, [.ref s1, .ref s2, .int (nI Wd), .int (nI Hh)])), (s1, .inl (cyI, 576, .inl g)), (s2, .inl (cyZ, 576, .inl ln))] sz) := by
  refine xk_of (own := RX4) (cc := cX4_shade) (maxL := 4) (ret := (some .boolean)) (Qc := fun A => xk_Qi D A 0 [(d0, .inr (4, [.ref s0, .ref t0, .ref r0, .ref q0, .int bk])), (s0, .inr (2, [.ref s1, .ref s2, .int (nI Wd), .int (nI Hh)])), (s1, .inl (cyI, 576, .inl g)), (s2, .inl (cyZ, 576, .inl ln))]) (by decide) rfl rfl (Nat.le_of_ble_eq_true rfl) ?_
  intro p e s m below meth c A ls hx hb hr hml hown hlocks hin hts hA hP hK hN hD hS hl
  have hC0 := xk_fix hx hb hml hown hts
  have hl : lv_has ls 4 [(0, .ref d0), (1, .int x), (2, .int y), (3, .int v)] := hl
  have hf10 := hts (.fieldLink RX4 10 "DotPress" "sheet" "LDotPress$Sheet;") (by decide +kernel)
  refine lv_aload_n hx hb dX4_shade_0 rfl (lv_at hl 0 rfl) ?_
  refine va_get (D := D) (ci := 4) (v := .ref s0) (C := RX4) (T := TX4) (N := 5) hx hb hts in_X4_shade_no_X4 hown hK hP 0 rfl rfl 0 (by decide) hf10 (fun _ h9 => h9) rfl dX4_shade_1 ?_
  refine lv_iload_n hx hb dX4_shade_4 rfl (lv_at hl 1 rfl) ?_
  refine lv_iload_n hx hb dX4_shade_5 rfl (lv_at hl 2 rfl) ?_
  have hPc := hP.sub (ws' := [(s0, .inr (2, [.ref s1, .ref s2, .int (nI Wd), .int (nI Hh)])), (s1, .inl (cyI, 576, .inl g)), (s2, .inl (cyZ, 576, .inl ln))]) [1, 2, 3] rfl
  have hDc := hD.sub (ws' := [(s0, .inr (2, [.ref s1, .ref s2, .int (nI Wd), .int (nI Hh)])), (s1, .inl (cyI, 576, .inl g)), (s2, .inl (cyZ, 576, .inl ln))]) [1, 2, 3] (by decide) rfl
  refine xk_calli (wr := [(d0, .inr (4, [.ref s0, .ref t0, .ref r0, .ref q0, .int bk]))]) (w2 := [(d0, .inr (4, [.ref s0, .ref t0, .ref r0, .ref q0, .int bk])), (s0, .inr (2, [.ref s1, .ref s2, .int (nI Wd), .int (nI Hh)])), (s1, .inl (cyI, 576, .inl g)), (s2, .inl (cyZ, 576, .inl ln))]) (va_runV (As := [.int x, .int y]) (rest := []) hC0 (ct_X2_has l D cyI cyZ s0 s1 s2 _ Wd Hh g ln x y ) (cwV 2 hts gX4_shade_X2_has rfl rfl rfl (by decide +kernel) ⟨Nat.le_of_ble_eq_true rfl, Nat.le_of_ble_eq_true rfl⟩) ⟨xk_blind, va_recv hK hPc (ci := 2) (q0 := 0) rfl rfl, xk_pre hK hN hPc hDc⟩ rfl rfl hl.1 rfl (lv_room (Nat.le_of_ble_eq_true rfl)) dX4_shade_6 ⟨Nat.le_of_ble_eq_true rfl, Nat.le_of_ble_eq_true rfl⟩) hP hD hS hA [1, 2, 3] [0] [0, 1, 2, 3] rfl rfl (by decide) (by decide) rfl (by decide) (fun H locs hP hD hS => ?_)
  refine lv_if_eq (tgt := 19) hx hb dX4_shade_9 (by decide) (fun c_9 => ?_) (fun c_9 => ?_)
  · have c_9 := bI_z.mp c_9
    refine lv_iconst (v := 0) hx hb dX4_shade_19 (by decide) ?_
    exact xk_zret hx hb hr hlocks hP hD hS (rfl) (rfl) (rfl) dX4_shade_20
  · have c_9 := bI_nz.mp c_9
    refine lv_iload_n hx hb dX4_shade_12 rfl (lv_at hl 3 rfl) ?_
    have hPc := hP.sub (ws' := []) [] rfl
    have hDc := hD.sub (ws' := []) [] (by decide) rfl
    refine xk_calli (wr := [(d0, .inr (4, [.ref s0, .ref t0, .ref r0, .ref q0, .int bk])), (s0, .inr (2, [.ref s1, .ref s2, .int (nI Wd), .int (nI Hh)])), (s1, .inl (cyI, 576, .inl g)), (s2, .inl (cyZ, 576, .inl ln))]) (w2 := [(d0, .inr (4, [.ref s0, .ref t0, .ref r0, .ref q0, .int bk])), (s0, .inr (2, [.ref s1, .ref s2, .int (nI Wd), .int (nI Hh)])), (s1, .inl (cyI, 576, .inl g)), (s2, .inl (cyZ, 576, .inl ln))]) (va_runS (As := [.int v]) (rest := []) hC0 (ct_X4_isGrey l D cyI cyZ  _ v ) (va_cwS 1 hts gX4_shade_X4_isGrey rfl rfl rfl (by decide +kernel) ⟨Nat.le_of_ble_eq_true rfl, Nat.le_of_ble_eq_true rfl⟩) ⟨xk_blind, xk_pre hK hN hPc hDc⟩ rfl rfl hl.1 rfl (lv_room (Nat.le_of_ble_eq_true rfl)) dX4_shade_13 ⟨Nat.le_of_ble_eq_true rfl, Nat.le_of_ble_eq_true rfl⟩) hP hD hS hA [] [0, 1, 2, 3] [0, 1, 2, 3] rfl rfl (by decide) (by decide) rfl (by decide) (fun H locs hP hD hS => ?_)
    refine lv_if_ne (tgt := 21) hx hb dX4_shade_16 (by decide) (fun c_16 => ?_) (fun c_16 => ?_)
    · have c_16 := bI_nz.mp c_16
      exact absurd ⟨c_9, c_16⟩ hno
    · have c_16 := bI_z.mp c_16
      refine lv_iconst (v := 0) hx hb dX4_shade_19 (by decide) ?_
      exact xk_zret hx hb hr hlocks hP hD hS (rfl) (rfl) (rfl) dX4_shade_20

abbrev rm_X4_shade_ok : Room := { frames := 2, cells := 0, slots := 0, locals := 45 }
theorem in_X4_shade_ok_X4 : ∀ w ∈ u_ws RX4 TX4 5, w ∈ wsX4_shade := by decide +kernel
set_option maxHeartbeats 4000000 in
set_option maxRecDepth 100000 in
theorem ct_X4_shade_ok (l : Launch) (D : va_G) (cyI cyZ : ClassId) (d0 s0 t0 r0 q0 s1 s2 : Nat) (sz : Nat) (bk : Int32) (Wd Hh : Nat) (g ln : Nat → Int32) (jx jy : Nat) (v : Int32) (hw1 : 1 ≤ Wd) (hw2 : Wd ≤ 24) (hh1 : 1 ≤ Hh) (hh2 : Hh ≤ 24) (hx0 : jx < Wd) (hy0 : jy < Hh) (hv : ¬ v < 0 ∧ ¬ 255 < v) : Met l yX4_shade wsX4_shade rm_X4_shade_ok (xk_Pc D cyI cyZ [.ref d0, .int (nI jx), .int (nI jy), .int v] [(d0, .inr (4, [.ref s0, .ref t0, .ref r0, .ref q0, .int bk])), (s0, .inr (2, [.ref s1, .ref s2, .int (nI Wd), .int (nI Hh)])), (s1, .inl (cyI, 576, .inl g)), (s2, .inl (cyZ, 576, .inl ln))] sz) (xk_Qi D (va_A [(d0, .inr (4, [.ref s0, .ref t0, .ref r0, .ref q0, .int bk])), (s0, .inr (2, [.ref s1, .ref s2, .int (nI Wd), .int (nI Hh)])), (s1, .inl (cyI, 576, .inl g)), (s2, .inl (cyZ, 576, .inl ln))] sz) 1 [(d0, .inr (4, [.ref s0, .ref t0, .ref r0, .ref q0, .int bk])), (s0, .inr (2, [.ref s1, .ref s2, .int (nI Wd), .int (nI Hh)])), (s1, .inl (cyI, 576, .inl (upd g (jy * 24 + jx) v))), (s2, .inl (cyZ, 576, .inl ln))]) 0 0 (va_A [(d0, .inr (4, [.ref s0, .ref t0, .ref r0, .ref q0, .int bk])), (s0, .inr (2, [.ref s1, .ref s2, .int (nI Wd), .int (nI Hh)])), (s1, .inl (cyI, 576, .inl g)), (s2, .inl (cyZ, 576, .inl ln))] sz) := by
  refine xk_of (own := RX4) (cc := cX4_shade) (maxL := 4) (ret := (some .boolean)) (Qc := fun A => xk_Qi D A 1 [(d0, .inr (4, [.ref s0, .ref t0, .ref r0, .ref q0, .int bk])), (s0, .inr (2, [.ref s1, .ref s2, .int (nI Wd), .int (nI Hh)])), (s1, .inl (cyI, 576, .inl (upd g (jy * 24 + jx) v))), (s2, .inl (cyZ, 576, .inl ln))]) (by decide) rfl rfl (Nat.le_of_ble_eq_true rfl) ?_
  intro p e s m below meth c A ls hx hb hr hml hown hlocks hin hts hA hP hK hN hD hS hl
  have hC0 := xk_fix hx hb hml hown hts
  have hl : lv_has ls 4 [(0, .ref d0), (1, .int (nI jx)), (2, .int (nI jy)), (3, .int v)] := hl
  have hf10 := hts (.fieldLink RX4 10 "DotPress" "sheet" "LDotPress$Sheet;") (by decide +kernel)
  refine lv_aload_n hx hb dX4_shade_0 rfl (lv_at hl 0 rfl) ?_
  refine va_get (D := D) (ci := 4) (v := .ref s0) (C := RX4) (T := TX4) (N := 5) hx hb hts in_X4_shade_ok_X4 hown hK hP 0 rfl rfl 0 (by decide) hf10 (fun _ h9 => h9) rfl dX4_shade_1 ?_
  refine lv_iload_n hx hb dX4_shade_4 rfl (lv_at hl 1 rfl) ?_
  refine lv_iload_n hx hb dX4_shade_5 rfl (lv_at hl 2 rfl) ?_
  have hPc := hP.sub (ws' := [(s0, .inr (2, [.ref s1, .ref s2, .int (nI Wd), .int (nI Hh)])), (s1, .inl (cyI, 576, .inl g)), (s2, .inl (cyZ, 576, .inl ln))]) [1, 2, 3] rfl
  have hDc := hD.sub (ws' := [(s0, .inr (2, [.ref s1, .ref s2, .int (nI Wd), .int (nI Hh)])), (s1, .inl (cyI, 576, .inl g)), (s2, .inl (cyZ, 576, .inl ln))]) [1, 2, 3] (by decide) rfl
  refine xk_calli (wr := [(d0, .inr (4, [.ref s0, .ref t0, .ref r0, .ref q0, .int bk]))]) (w2 := [(d0, .inr (4, [.ref s0, .ref t0, .ref r0, .ref q0, .int bk])), (s0, .inr (2, [.ref s1, .ref s2, .int (nI Wd), .int (nI Hh)])), (s1, .inl (cyI, 576, .inl g)), (s2, .inl (cyZ, 576, .inl ln))]) (va_runV (As := [.int (nI jx), .int (nI jy)]) (rest := []) hC0 (ct_X2_has l D cyI cyZ s0 s1 s2 _ Wd Hh g ln (nI jx) (nI jy) ) (cwV 2 hts gX4_shade_X2_has rfl rfl rfl (by decide +kernel) ⟨Nat.le_of_ble_eq_true rfl, Nat.le_of_ble_eq_true rfl⟩) ⟨xk_blind, va_recv hK hPc (ci := 2) (q0 := 0) rfl rfl, xk_pre hK hN hPc hDc⟩ rfl rfl hl.1 rfl (lv_room (Nat.le_of_ble_eq_true rfl)) dX4_shade_6 ⟨Nat.le_of_ble_eq_true rfl, Nat.le_of_ble_eq_true rfl⟩) hP hD hS hA [1, 2, 3] [0] [0, 1, 2, 3] rfl rfl (by decide) (by decide) rfl (by decide) (fun H locs hP hD hS => ?_)
  refine lv_if_eq (tgt := 19) hx hb dX4_shade_9 (by decide) (fun c_9 => xk_ab c_9 (bI_nz.mpr (sh_has_in hw2 hh2 hx0 hy0))) (fun c_9 => ?_)
  have c_9 := bI_nz.mp c_9
  refine lv_iload_n hx hb dX4_shade_12 rfl (lv_at hl 3 rfl) ?_
  have hPc := hP.sub (ws' := []) [] rfl
  have hDc := hD.sub (ws' := []) [] (by decide) rfl
  refine xk_calli (wr := [(d0, .inr (4, [.ref s0, .ref t0, .ref r0, .ref q0, .int bk])), (s0, .inr (2, [.ref s1, .ref s2, .int (nI Wd), .int (nI Hh)])), (s1, .inl (cyI, 576, .inl g)), (s2, .inl (cyZ, 576, .inl ln))]) (w2 := [(d0, .inr (4, [.ref s0, .ref t0, .ref r0, .ref q0, .int bk])), (s0, .inr (2, [.ref s1, .ref s2, .int (nI Wd), .int (nI Hh)])), (s1, .inl (cyI, 576, .inl g)), (s2, .inl (cyZ, 576, .inl ln))]) (va_runS (As := [.int v]) (rest := []) hC0 (ct_X4_isGrey l D cyI cyZ  _ v ) (va_cwS 1 hts gX4_shade_X4_isGrey rfl rfl rfl (by decide +kernel) ⟨Nat.le_of_ble_eq_true rfl, Nat.le_of_ble_eq_true rfl⟩) ⟨xk_blind, xk_pre hK hN hPc hDc⟩ rfl rfl hl.1 rfl (lv_room (Nat.le_of_ble_eq_true rfl)) dX4_shade_13 ⟨Nat.le_of_ble_eq_true rfl, Nat.le_of_ble_eq_true rfl⟩) hP hD hS hA [] [0, 1, 2, 3] [0, 1, 2, 3] rfl rfl (by decide) (by decide) rfl (by decide) (fun H locs hP hD hS => ?_)
  refine lv_if_ne (tgt := 21) hx hb dX4_shade_16 (by decide) (fun c_16 => ?_) (fun c_16 => xk_ab c_16 (bI_nz.mpr hv))
  have c_16 := bI_nz.mp c_16
  refine lv_aload_n hx hb dX4_shade_21 rfl (lv_at hl 0 rfl) ?_
  refine va_get (D := D) (ci := 4) (v := .ref s0) (C := RX4) (T := TX4) (N := 5) hx hb hts in_X4_shade_ok_X4 hown hK hP 0 rfl rfl 0 (by decide) hf10 (fun _ h9 => h9) rfl dX4_shade_22 ?_
  refine lv_iload_n hx hb dX4_shade_25 rfl (lv_at hl 1 rfl) ?_
  refine lv_iload_n hx hb dX4_shade_26 rfl (lv_at hl 2 rfl) ?_
  refine lv_iload_n hx hb dX4_shade_27 rfl (lv_at hl 3 rfl) ?_
  have hPc := hP.sub (ws' := [(s0, .inr (2, [.ref s1, .ref s2, .int (nI Wd), .int (nI Hh)])), (s1, .inl (cyI, 576, .inl g)), (s2, .inl (cyZ, 576, .inl ln))]) [1, 2, 3] rfl
  have hDc := hD.sub (ws' := [(s0, .inr (2, [.ref s1, .ref s2, .int (nI Wd), .int (nI Hh)])), (s1, .inl (cyI, 576, .inl g)), (s2, .inl (cyZ, 576, .inl ln))]) [1, 2, 3] (by decide) rfl
  refine xk_callv (wr := [(d0, .inr (4, [.ref s0, .ref t0, .ref r0, .ref q0, .int bk]))]) (w2 := [(d0, .inr (4, [.ref s0, .ref t0, .ref r0, .ref q0, .int bk])), (s0, .inr (2, [.ref s1, .ref s2, .int (nI Wd), .int (nI Hh)])), (s1, .inl (cyI, 576, .inl (upd g (jy * 24 + jx) v))), (s2, .inl (cyZ, 576, .inl ln))]) (va_runV (As := [.int (nI jx), .int (nI jy), .int v]) (rest := []) hC0 (ct_X2_setGrey l D cyI cyZ s0 s1 s2 _ Wd Hh g ln jx jy v (hw2) (hh2) (hx0) (hy0)) (cwV 3 hts gX4_shade_X2_setGrey rfl rfl rfl (by decide +kernel) ⟨Nat.le_of_ble_eq_true rfl, Nat.le_of_ble_eq_true rfl⟩) ⟨xk_blind, va_recv hK hPc (ci := 2) (q0 := 0) rfl rfl, xk_pre hK hN hPc hDc⟩ rfl rfl hl.1 rfl (lv_room (Nat.le_of_ble_eq_true rfl)) dX4_shade_28 ⟨Nat.le_of_ble_eq_true rfl, Nat.le_of_ble_eq_true rfl⟩) hP hD hS hA [1, 2, 3] [0] [0, 1, 2, 3] rfl rfl (by decide) (by decide) rfl (by decide) (fun H locs hP hD hS => ?_)
  refine lv_iconst (v := 1) hx hb dX4_shade_31 (by decide) ?_
  exact xk_zret hx hb hr hlocks hP hD hS (rfl) (rfl) (rfl) dX4_shade_32

abbrev rm_X4_line_no : Room := { frames := 1, cells := 0, slots := 0, locals := 22 }
theorem in_X4_line_no_X4 : ∀ w ∈ u_ws RX4 TX4 5, w ∈ wsX4_line := by decide +kernel
set_option maxHeartbeats 4000000 in
set_option maxRecDepth 100000 in
theorem ct_X4_line_no (l : Launch) (D : va_G) (cyI cyZ : ClassId) (d0 s0 t0 r0 q0 s1 s2 : Nat) (sz : Nat) (bk : Int32) (Wd Hh : Nat) (g ln : Nat → Int32) (x y v : Int32) (hno : ¬ sh_has Wd Hh x y) : Met l yX4_line wsX4_line rm_X4_line_no (xk_Pc D cyI cyZ [.ref d0, .int x, .int y, .int v] [(d0, .inr (4, [.ref s0, .ref t0, .ref r0, .ref q0, .int bk])), (s0, .inr (2, [.ref s1, .ref s2, .int (nI Wd), .int (nI Hh)])), (s1, .inl (cyI, 576, .inl g)), (s2, .inl (cyZ, 576, .inl ln))] sz) (xk_Qi D (va_A [(d0, .inr (4, [.ref s0, .ref t0, .ref r0, .ref q0, .int bk])), (s0, .inr (2, [.ref s1, .ref s2, .int (nI Wd), .int (nI Hh)])), (s1, .inl (cyI, 576, .inl g)), (s2, .inl (cyZ, 576, .inl ln))] sz) 0 [(d0, .inr (4, [.ref s0, .ref t0, .ref r0, .ref q0, .int bk])), (s0, .inr (2, [.ref s1, .ref s2, .int (nI Wd), .int (nI Hh)])), (s1, .inl (cyI, 576, .inl g)), (s2, .inl (cyZ, 576, .inl ln))]) 0 0 (va_A [(d0, .inr (4, [.ref s0, .ref t0, .ref r0, .ref q0, .int bk])), (s0, .inr (2, [.ref s1, .ref s2, .int (nI Wd), .int (nI Hh)])), (s1, .inl (cyI, 576, .inl g)), (s2, .inl (cyZ, 576, .inl ln))] sz) := by
  refine xk_of (own := RX4) (cc := cX4_line) (maxL := 4) (ret := (some .boolean)) (Qc := fun A => xk_Qi D A 0 [(d0, .inr (4, [.ref s0, .ref t0, .ref r0, .ref q0, .int bk])), (s0, .inr (2, [.ref s1, .ref s2, .int (nI Wd), .int (nI Hh)])), (s1, .inl (cyI, 576, .inl g)), (s2, .inl (cyZ, 576, .inl ln))]) (by decide) rfl rfl (Nat.le_of_ble_eq_true rfl) ?_
  intro p e s m below meth c A ls hx hb hr hml hown hlocks hin hts hA hP hK hN hD hS hl
  have hC0 := xk_fix hx hb hml hown hts
  have hl : lv_has ls 4 [(0, .ref d0), (1, .int x), (2, .int y), (3, .int v)] := hl
  have hf10 := hts (.fieldLink RX4 10 "DotPress" "sheet" "LDotPress$Sheet;") (by decide +kernel)
  refine lv_aload_n hx hb dX4_line_0 rfl (lv_at hl 0 rfl) ?_
  refine va_get (D := D) (ci := 4) (v := .ref s0) (C := RX4) (T := TX4) (N := 5) hx hb hts in_X4_line_no_X4 hown hK hP 0 rfl rfl 0 (by decide) hf10 (fun _ h9 => h9) rfl dX4_line_1 ?_
  refine lv_iload_n hx hb dX4_line_4 rfl (lv_at hl 1 rfl) ?_
  refine lv_iload_n hx hb dX4_line_5 rfl (lv_at hl 2 rfl) ?_
  have hPc := hP.sub (ws' := [(s0, .inr (2, [.ref s1, .ref s2, .int (nI Wd), .int (nI Hh)])), (s1, .inl (cyI, 576, .inl g)), (s2, .inl (cyZ, 576, .inl ln))]) [1, 2, 3] rfl
  have hDc := hD.sub (ws' := [(s0, .inr (2, [.ref s1, .ref s2, .int (nI Wd), .int (nI Hh)])), (s1, .inl (cyI, 576, .inl g)), (s2, .inl (cyZ, 576, .inl ln))]) [1, 2, 3] (by decide) rfl
  refine xk_calli (wr := [(d0, .inr (4, [.ref s0, .ref t0, .ref r0, .ref q0, .int bk]))]) (w2 := [(d0, .inr (4, [.ref s0, .ref t0, .ref r0, .ref q0, .int bk])), (s0, .inr (2, [.ref s1, .ref s2, .int (nI Wd), .int (nI Hh)])), (s1, .inl (cyI, 576, .inl g)), (s2, .inl (cyZ, 576, .inl ln))]) (va_runV (As := [.int x, .int y]) (rest := []) hC0 (ct_X2_has l D cyI cyZ s0 s1 s2 _ Wd Hh g ln x y ) (cwV 2 hts gX4_line_X2_has rfl rfl rfl (by decide +kernel) ⟨Nat.le_of_ble_eq_true rfl, Nat.le_of_ble_eq_true rfl⟩) ⟨xk_blind, va_recv hK hPc (ci := 2) (q0 := 0) rfl rfl, xk_pre hK hN hPc hDc⟩ rfl rfl hl.1 rfl (lv_room (Nat.le_of_ble_eq_true rfl)) dX4_line_6 ⟨Nat.le_of_ble_eq_true rfl, Nat.le_of_ble_eq_true rfl⟩) hP hD hS hA [1, 2, 3] [0] [0, 1, 2, 3] rfl rfl (by decide) (by decide) rfl (by decide) (fun H locs hP hD hS => ?_)
  refine lv_if_eq (tgt := 25) hx hb dX4_line_9 (by decide) (fun c_9 => ?_) (fun c_9 => xk_ba c_9 (bI_z.mpr hno))
  have c_9 := bI_z.mp c_9
  refine lv_iconst (v := 0) hx hb dX4_line_25 (by decide) ?_
  exact xk_zret hx hb hr hlocks hP hD hS (rfl) (rfl) (rfl) dX4_line_26

abbrev rm_X4_line_so : Room := { frames := 2, cells := 0, slots := 0, locals := 44 }
theorem in_X4_line_so_X4 : ∀ w ∈ u_ws RX4 TX4 5, w ∈ wsX4_line := by decide +kernel
set_option maxHeartbeats 4000000 in
set_option maxRecDepth 100000 in
theorem ct_X4_line_so (l : Launch) (D : va_G) (cyI cyZ : ClassId) (d0 s0 t0 r0 q0 s1 s2 : Nat) (sz : Nat) (bk : Int32) (Wd Hh : Nat) (g ln : Nat → Int32) (jx jy : Nat) (v : Int32) (hw1 : 1 ≤ Wd) (hw2 : Wd ≤ 24) (hh1 : 1 ≤ Hh) (hh2 : Hh ≤ 24) (hx0 : jx < Wd) (hy0 : jy < Hh) (hb1 : ln (jy * 24 + jx) = 0 ∨ ln (jy * 24 + jx) = 1) (hs : ln (jy * 24 + jx) = v) : Met l yX4_line wsX4_line rm_X4_line_so (xk_Pc D cyI cyZ [.ref d0, .int (nI jx), .int (nI jy), .int v] [(d0, .inr (4, [.ref s0, .ref t0, .ref r0, .ref q0, .int bk])), (s0, .inr (2, [.ref s1, .ref s2, .int (nI Wd), .int (nI Hh)])), (s1, .inl (cyI, 576, .inl g)), (s2, .inl (cyZ, 576, .inl ln))] sz) (xk_Qi D (va_A [(d0, .inr (4, [.ref s0, .ref t0, .ref r0, .ref q0, .int bk])), (s0, .inr (2, [.ref s1, .ref s2, .int (nI Wd), .int (nI Hh)])), (s1, .inl (cyI, 576, .inl g)), (s2, .inl (cyZ, 576, .inl ln))] sz) 0 [(d0, .inr (4, [.ref s0, .ref t0, .ref r0, .ref q0, .int bk])), (s0, .inr (2, [.ref s1, .ref s2, .int (nI Wd), .int (nI Hh)])), (s1, .inl (cyI, 576, .inl g)), (s2, .inl (cyZ, 576, .inl ln))]) 0 0 (va_A [(d0, .inr (4, [.ref s0, .ref t0, .ref r0, .ref q0, .int bk])), (s0, .inr (2, [.ref s1, .ref s2, .int (nI Wd), .int (nI Hh)])), (s1, .inl (cyI, 576, .inl g)), (s2, .inl (cyZ, 576, .inl ln))] sz) := by
  refine xk_of (own := RX4) (cc := cX4_line) (maxL := 4) (ret := (some .boolean)) (Qc := fun A => xk_Qi D A 0 [(d0, .inr (4, [.ref s0, .ref t0, .ref r0, .ref q0, .int bk])), (s0, .inr (2, [.ref s1, .ref s2, .int (nI Wd), .int (nI Hh)])), (s1, .inl (cyI, 576, .inl g)), (s2, .inl (cyZ, 576, .inl ln))]) (by decide) rfl rfl (Nat.le_of_ble_eq_true rfl) ?_
  intro p e s m below meth c A ls hx hb hr hml hown hlocks hin hts hA hP hK hN hD hS hl
  have hC0 := xk_fix hx hb hml hown hts
  have hl : lv_has ls 4 [(0, .ref d0), (1, .int (nI jx)), (2, .int (nI jy)), (3, .int v)] := hl
  have hf10 := hts (.fieldLink RX4 10 "DotPress" "sheet" "LDotPress$Sheet;") (by decide +kernel)
  refine lv_aload_n hx hb dX4_line_0 rfl (lv_at hl 0 rfl) ?_
  refine va_get (D := D) (ci := 4) (v := .ref s0) (C := RX4) (T := TX4) (N := 5) hx hb hts in_X4_line_so_X4 hown hK hP 0 rfl rfl 0 (by decide) hf10 (fun _ h9 => h9) rfl dX4_line_1 ?_
  refine lv_iload_n hx hb dX4_line_4 rfl (lv_at hl 1 rfl) ?_
  refine lv_iload_n hx hb dX4_line_5 rfl (lv_at hl 2 rfl) ?_
  have hPc := hP.sub (ws' := [(s0, .inr (2, [.ref s1, .ref s2, .int (nI Wd), .int (nI Hh)])), (s1, .inl (cyI, 576, .inl g)), (s2, .inl (cyZ, 576, .inl ln))]) [1, 2, 3] rfl
  have hDc := hD.sub (ws' := [(s0, .inr (2, [.ref s1, .ref s2, .int (nI Wd), .int (nI Hh)])), (s1, .inl (cyI, 576, .inl g)), (s2, .inl (cyZ, 576, .inl ln))]) [1, 2, 3] (by decide) rfl
  refine xk_calli (wr := [(d0, .inr (4, [.ref s0, .ref t0, .ref r0, .ref q0, .int bk]))]) (w2 := [(d0, .inr (4, [.ref s0, .ref t0, .ref r0, .ref q0, .int bk])), (s0, .inr (2, [.ref s1, .ref s2, .int (nI Wd), .int (nI Hh)])), (s1, .inl (cyI, 576, .inl g)), (s2, .inl (cyZ, 576, .inl ln))]) (va_runV (As := [.int (nI jx), .int (nI jy)]) (rest := []) hC0 (ct_X2_has l D cyI cyZ s0 s1 s2 _ Wd Hh g ln (nI jx) (nI jy) ) (cwV 2 hts gX4_line_X2_has rfl rfl rfl (by decide +kernel) ⟨Nat.le_of_ble_eq_true rfl, Nat.le_of_ble_eq_true rfl⟩) ⟨xk_blind, va_recv hK hPc (ci := 2) (q0 := 0) rfl rfl, xk_pre hK hN hPc hDc⟩ rfl rfl hl.1 rfl (lv_room (Nat.le_of_ble_eq_true rfl)) dX4_line_6 ⟨Nat.le_of_ble_eq_true rfl, Nat.le_of_ble_eq_true rfl⟩) hP hD hS hA [1, 2, 3] [0] [0, 1, 2, 3] rfl rfl (by decide) (by decide) rfl (by decide) (fun H locs hP hD hS => ?_)
  refine lv_if_eq (tgt := 25) hx hb dX4_line_9 (by decide) (fun c_9 => xk_ab c_9 (bI_nz.mpr (sh_has_in hw2 hh2 hx0 hy0))) (fun c_9 => ?_)
  have c_9 := bI_nz.mp c_9
  refine lv_aload_n hx hb dX4_line_12 rfl (lv_at hl 0 rfl) ?_
  refine va_get (D := D) (ci := 4) (v := .ref s0) (C := RX4) (T := TX4) (N := 5) hx hb hts in_X4_line_so_X4 hown hK hP 0 rfl rfl 0 (by decide) hf10 (fun _ h9 => h9) rfl dX4_line_13 ?_
  refine lv_iload_n hx hb dX4_line_16 rfl (lv_at hl 1 rfl) ?_
  refine lv_iload_n hx hb dX4_line_17 rfl (lv_at hl 2 rfl) ?_
  have hPc := hP.sub (ws' := [(s0, .inr (2, [.ref s1, .ref s2, .int (nI Wd), .int (nI Hh)])), (s1, .inl (cyI, 576, .inl g)), (s2, .inl (cyZ, 576, .inl ln))]) [1, 2, 3] rfl
  have hDc := hD.sub (ws' := [(s0, .inr (2, [.ref s1, .ref s2, .int (nI Wd), .int (nI Hh)])), (s1, .inl (cyI, 576, .inl g)), (s2, .inl (cyZ, 576, .inl ln))]) [1, 2, 3] (by decide) rfl
  refine xk_calli (wr := [(d0, .inr (4, [.ref s0, .ref t0, .ref r0, .ref q0, .int bk]))]) (w2 := [(d0, .inr (4, [.ref s0, .ref t0, .ref r0, .ref q0, .int bk])), (s0, .inr (2, [.ref s1, .ref s2, .int (nI Wd), .int (nI Hh)])), (s1, .inl (cyI, 576, .inl g)), (s2, .inl (cyZ, 576, .inl ln))]) (va_runV (As := [.int (nI jx), .int (nI jy)]) (rest := []) hC0 (ct_X2_isLine l D cyI cyZ s0 s1 s2 _ Wd Hh g ln jx jy (hw2) (hh2) (hx0) (hy0)) (cwV 2 hts gX4_line_X2_isLine rfl rfl rfl (by decide +kernel) ⟨Nat.le_of_ble_eq_true rfl, Nat.le_of_ble_eq_true rfl⟩) ⟨xk_blind, va_recv hK hPc (ci := 2) (q0 := 0) rfl rfl, xk_pre hK hN hPc hDc⟩ rfl rfl hl.1 rfl (lv_room (Nat.le_of_ble_eq_true rfl)) dX4_line_18 ⟨Nat.le_of_ble_eq_true rfl, Nat.le_of_ble_eq_true rfl⟩) hP hD hS hA [1, 2, 3] [0] [0, 1, 2, 3] rfl rfl (by decide) (by decide) rfl (by decide) (fun H locs hP hD hS => ?_)
  refine xk_topi (y := ln (jy * 24 + jx)) (bI_of01 hb1) ?_
  refine lv_iload_n hx hb dX4_line_21 rfl (lv_at hl 3 rfl) ?_
  refine lv_icmp_ne (tgt := 27) hx hb dX4_line_22 (by decide) (fun c_22 => xk_ba c_22 (hs)) (fun c_22 => ?_)
  refine lv_iconst (v := 0) hx hb dX4_line_25 (by decide) ?_
  exact xk_zret hx hb hr hlocks hP hD hS (rfl) (rfl) (rfl) dX4_line_26

abbrev rm_X4_line_ok : Room := { frames := 2, cells := 0, slots := 0, locals := 45 }
theorem in_X4_line_ok_X4 : ∀ w ∈ u_ws RX4 TX4 5, w ∈ wsX4_line := by decide +kernel
set_option maxHeartbeats 4000000 in
set_option maxRecDepth 100000 in
theorem ct_X4_line_ok (l : Launch) (D : va_G) (cyI cyZ : ClassId) (d0 s0 t0 r0 q0 s1 s2 : Nat) (sz : Nat) (bk : Int32) (Wd Hh : Nat) (g ln : Nat → Int32) (jx jy : Nat) (v : Int32) (hw1 : 1 ≤ Wd) (hw2 : Wd ≤ 24) (hh1 : 1 ≤ Hh) (hh2 : Hh ≤ 24) (hx0 : jx < Wd) (hy0 : jy < Hh) (hb1 : ln (jy * 24 + jx) = 0 ∨ ln (jy * 24 + jx) = 1) (hs : ¬ ln (jy * 24 + jx) = v) (hv : vp_nar .boolean v = v) : Met l yX4_line wsX4_line rm_X4_line_ok (xk_Pc D cyI cyZ [.ref d0, .int (nI jx), .int (nI jy), .int v] [(d0, .inr (4, [.ref s0, .ref t0, .ref r0, .ref q0, .int bk])), (s0, .inr (2, [.ref s1, .ref s2, .int (nI Wd), .int (nI Hh)])), (s1, .inl (cyI, 576, .inl g)), (s2, .inl (cyZ, 576, .inl ln))] sz) (xk_Qi D (va_A [(d0, .inr (4, [.ref s0, .ref t0, .ref r0, .ref q0, .int bk])), (s0, .inr (2, [.ref s1, .ref s2, .int (nI Wd), .int (nI Hh)])), (s1, .inl (cyI, 576, .inl g)), (s2, .inl (cyZ, 576, .inl ln))] sz) 1 [(d0, .inr (4, [.ref s0, .ref t0, .ref r0, .ref q0, .int bk])), (s0, .inr (2, [.ref s1, .ref s2, .int (nI Wd), .int (nI Hh)])), (s1, .inl (cyI, 576, .inl g)), (s2, .inl (cyZ, 576, .inl (upd ln (jy * 24 + jx) v)))]) 0 0 (va_A [(d0, .inr (4, [.ref s0, .ref t0, .ref r0, .ref q0, .int bk])), (s0, .inr (2, [.ref s1, .ref s2, .int (nI Wd), .int (nI Hh)])), (s1, .inl (cyI, 576, .inl g)), (s2, .inl (cyZ, 576, .inl ln))] sz) := by
  refine xk_of (own := RX4) (cc := cX4_line) (maxL := 4) (ret := (some .boolean)) (Qc := fun A => xk_Qi D A 1 [(d0, .inr (4, [.ref s0, .ref t0, .ref r0, .ref q0, .int bk])), (s0, .inr (2, [.ref s1, .ref s2, .int (nI Wd), .int (nI Hh)])), (s1, .inl (cyI, 576, .inl g)), (s2, .inl (cyZ, 576, .inl (upd ln (jy * 24 + jx) v)))]) (by decide) rfl rfl (Nat.le_of_ble_eq_true rfl) ?_
  intro p e s m below meth c A ls hx hb hr hml hown hlocks hin hts hA hP hK hN hD hS hl
  have hC0 := xk_fix hx hb hml hown hts
  have hl : lv_has ls 4 [(0, .ref d0), (1, .int (nI jx)), (2, .int (nI jy)), (3, .int v)] := hl
  have hf10 := hts (.fieldLink RX4 10 "DotPress" "sheet" "LDotPress$Sheet;") (by decide +kernel)
  refine lv_aload_n hx hb dX4_line_0 rfl (lv_at hl 0 rfl) ?_
  refine va_get (D := D) (ci := 4) (v := .ref s0) (C := RX4) (T := TX4) (N := 5) hx hb hts in_X4_line_ok_X4 hown hK hP 0 rfl rfl 0 (by decide) hf10 (fun _ h9 => h9) rfl dX4_line_1 ?_
  refine lv_iload_n hx hb dX4_line_4 rfl (lv_at hl 1 rfl) ?_
  refine lv_iload_n hx hb dX4_line_5 rfl (lv_at hl 2 rfl) ?_
  have hPc := hP.sub (ws' := [(s0, .inr (2, [.ref s1, .ref s2, .int (nI Wd), .int (nI Hh)])), (s1, .inl (cyI, 576, .inl g)), (s2, .inl (cyZ, 576, .inl ln))]) [1, 2, 3] rfl
  have hDc := hD.sub (ws' := [(s0, .inr (2, [.ref s1, .ref s2, .int (nI Wd), .int (nI Hh)])), (s1, .inl (cyI, 576, .inl g)), (s2, .inl (cyZ, 576, .inl ln))]) [1, 2, 3] (by decide) rfl
  refine xk_calli (wr := [(d0, .inr (4, [.ref s0, .ref t0, .ref r0, .ref q0, .int bk]))]) (w2 := [(d0, .inr (4, [.ref s0, .ref t0, .ref r0, .ref q0, .int bk])), (s0, .inr (2, [.ref s1, .ref s2, .int (nI Wd), .int (nI Hh)])), (s1, .inl (cyI, 576, .inl g)), (s2, .inl (cyZ, 576, .inl ln))]) (va_runV (As := [.int (nI jx), .int (nI jy)]) (rest := []) hC0 (ct_X2_has l D cyI cyZ s0 s1 s2 _ Wd Hh g ln (nI jx) (nI jy) ) (cwV 2 hts gX4_line_X2_has rfl rfl rfl (by decide +kernel) ⟨Nat.le_of_ble_eq_true rfl, Nat.le_of_ble_eq_true rfl⟩) ⟨xk_blind, va_recv hK hPc (ci := 2) (q0 := 0) rfl rfl, xk_pre hK hN hPc hDc⟩ rfl rfl hl.1 rfl (lv_room (Nat.le_of_ble_eq_true rfl)) dX4_line_6 ⟨Nat.le_of_ble_eq_true rfl, Nat.le_of_ble_eq_true rfl⟩) hP hD hS hA [1, 2, 3] [0] [0, 1, 2, 3] rfl rfl (by decide) (by decide) rfl (by decide) (fun H locs hP hD hS => ?_)
  refine lv_if_eq (tgt := 25) hx hb dX4_line_9 (by decide) (fun c_9 => xk_ab c_9 (bI_nz.mpr (sh_has_in hw2 hh2 hx0 hy0))) (fun c_9 => ?_)
  have c_9 := bI_nz.mp c_9
  refine lv_aload_n hx hb dX4_line_12 rfl (lv_at hl 0 rfl) ?_
  refine va_get (D := D) (ci := 4) (v := .ref s0) (C := RX4) (T := TX4) (N := 5) hx hb hts in_X4_line_ok_X4 hown hK hP 0 rfl rfl 0 (by decide) hf10 (fun _ h9 => h9) rfl dX4_line_13 ?_
  refine lv_iload_n hx hb dX4_line_16 rfl (lv_at hl 1 rfl) ?_
  refine lv_iload_n hx hb dX4_line_17 rfl (lv_at hl 2 rfl) ?_
  have hPc := hP.sub (ws' := [(s0, .inr (2, [.ref s1, .ref s2, .int (nI Wd), .int (nI Hh)])), (s1, .inl (cyI, 576, .inl g)), (s2, .inl (cyZ, 576, .inl ln))]) [1, 2, 3] rfl
  have hDc := hD.sub (ws' := [(s0, .inr (2, [.ref s1, .ref s2, .int (nI Wd), .int (nI Hh)])), (s1, .inl (cyI, 576, .inl g)), (s2, .inl (cyZ, 576, .inl ln))]) [1, 2, 3] (by decide) rfl
  refine xk_calli (wr := [(d0, .inr (4, [.ref s0, .ref t0, .ref r0, .ref q0, .int bk]))]) (w2 := [(d0, .inr (4, [.ref s0, .ref t0, .ref r0, .ref q0, .int bk])), (s0, .inr (2, [.ref s1, .ref s2, .int (nI Wd), .int (nI Hh)])), (s1, .inl (cyI, 576, .inl g)), (s2, .inl (cyZ, 576, .inl ln))]) (va_runV (As := [.int (nI jx), .int (nI jy)]) (rest := []) hC0 (ct_X2_isLine l D cyI cyZ s0 s1 s2 _ Wd Hh g ln jx jy (hw2) (hh2) (hx0) (hy0)) (cwV 2 hts gX4_line_X2_isLine rfl rfl rfl (by decide +kernel) ⟨Nat.le_of_ble_eq_true rfl, Nat.le_of_ble_eq_true rfl⟩) ⟨xk_blind, va_recv hK hPc (ci := 2) (q0 := 0) rfl rfl, xk_pre hK hN hPc hDc⟩ rfl rfl hl.1 rfl (lv_room (Nat.le_of_ble_eq_true rfl)) dX4_line_18 ⟨Nat.le_of_ble_eq_true rfl, Nat.le_of_ble_eq_true rfl⟩) hP hD hS hA [1, 2, 3] [0] [0, 1, 2, 3] rfl rfl (by decide) (by decide) rfl (by decide) (fun H locs hP hD hS => ?_)
  refine xk_topi (y := ln (jy * 24 + jx)) (bI_of01 hb1) ?_
  refine lv_iload_n hx hb dX4_line_21 rfl (lv_at hl 3 rfl) ?_
  refine lv_icmp_ne (tgt := 27) hx hb dX4_line_22 (by decide) (fun c_22 => ?_) (fun c_22 => xk_ab c_22 (hs))
  refine lv_aload_n hx hb dX4_line_27 rfl (lv_at hl 0 rfl) ?_
  refine va_get (D := D) (ci := 4) (v := .ref s0) (C := RX4) (T := TX4) (N := 5) hx hb hts in_X4_line_ok_X4 hown hK hP 0 rfl rfl 0 (by decide) hf10 (fun _ h9 => h9) rfl dX4_line_28 ?_
  refine lv_iload_n hx hb dX4_line_31 rfl (lv_at hl 1 rfl) ?_
  refine lv_iload_n hx hb dX4_line_32 rfl (lv_at hl 2 rfl) ?_
  refine lv_iload_n hx hb dX4_line_33 rfl (lv_at hl 3 rfl) ?_
  have hPc := hP.sub (ws' := [(s0, .inr (2, [.ref s1, .ref s2, .int (nI Wd), .int (nI Hh)])), (s1, .inl (cyI, 576, .inl g)), (s2, .inl (cyZ, 576, .inl ln))]) [1, 2, 3] rfl
  have hDc := hD.sub (ws' := [(s0, .inr (2, [.ref s1, .ref s2, .int (nI Wd), .int (nI Hh)])), (s1, .inl (cyI, 576, .inl g)), (s2, .inl (cyZ, 576, .inl ln))]) [1, 2, 3] (by decide) rfl
  refine xk_callv (wr := [(d0, .inr (4, [.ref s0, .ref t0, .ref r0, .ref q0, .int bk]))]) (w2 := [(d0, .inr (4, [.ref s0, .ref t0, .ref r0, .ref q0, .int bk])), (s0, .inr (2, [.ref s1, .ref s2, .int (nI Wd), .int (nI Hh)])), (s1, .inl (cyI, 576, .inl g)), (s2, .inl (cyZ, 576, .inl (upd ln (jy * 24 + jx) v)))]) (va_runV (As := [.int (nI jx), .int (nI jy), .int v]) (rest := []) hC0 (ct_X2_setLine l D cyI cyZ s0 s1 s2 _ Wd Hh g ln jx jy v (hw2) (hh2) (hx0) (hy0) (hv)) (cwV 3 hts gX4_line_X2_setLine rfl rfl rfl (by decide +kernel) ⟨Nat.le_of_ble_eq_true rfl, Nat.le_of_ble_eq_true rfl⟩) ⟨xk_blind, va_recv hK hPc (ci := 2) (q0 := 0) rfl rfl, xk_pre hK hN hPc hDc⟩ rfl rfl hl.1 rfl (lv_room (Nat.le_of_ble_eq_true rfl)) dX4_line_34 ⟨Nat.le_of_ble_eq_true rfl, Nat.le_of_ble_eq_true rfl⟩) hP hD hS hA [1, 2, 3] [0] [0, 1, 2, 3] rfl rfl (by decide) (by decide) rfl (by decide) (fun H locs hP hD hS => ?_)
  refine lv_iconst (v := 1) hx hb dX4_line_37 (by decide) ?_
  exact xk_zret hx hb hr hlocks hP hD hS (rfl) (rfl) (rfl) dX4_line_38

abbrev rm_X4_grey_no : Room := { frames := 1, cells := 0, slots := 0, locals := 22 }
theorem in_X4_grey_no_X4 : ∀ w ∈ u_ws RX4 TX4 5, w ∈ wsX4_grey := by decide +kernel
set_option maxHeartbeats 4000000 in
set_option maxRecDepth 100000 in
theorem ct_X4_grey_no (l : Launch) (D : va_G) (cyI cyZ : ClassId) (d0 s0 t0 r0 q0 s1 s2 : Nat) (sz : Nat) (bk : Int32) (Wd Hh : Nat) (g ln : Nat → Int32) (x y : Int32) (hno : ¬ sh_has Wd Hh x y) : Met l yX4_grey wsX4_grey rm_X4_grey_no (xk_Pc D cyI cyZ [.ref d0, .int x, .int y] [(d0, .inr (4, [.ref s0, .ref t0, .ref r0, .ref q0, .int bk])), (s0, .inr (2, [.ref s1, .ref s2, .int (nI Wd), .int (nI Hh)])), (s1, .inl (cyI, 576, .inl g)), (s2, .inl (cyZ, 576, .inl ln))] sz) (xk_Qi D (va_A [(d0, .inr (4, [.ref s0, .ref t0, .ref r0, .ref q0, .int bk])), (s0, .inr (2, [.ref s1, .ref s2, .int (nI Wd), .int (nI Hh)])), (s1, .inl (cyI, 576, .inl g)), (s2, .inl (cyZ, 576, .inl ln))] sz) (-1) [(d0, .inr (4, [.ref s0, .ref t0, .ref r0, .ref q0, .int bk])), (s0, .inr (2, [.ref s1, .ref s2, .int (nI Wd), .int (nI Hh)])), (s1, .inl (cyI, 576, .inl g)), (s2, .inl (cyZ, 576, .inl ln))]) 0 0 (va_A [(d0, .inr (4, [.ref s0, .ref t0, .ref r0, .ref q0, .int bk])), (s0, .inr (2, [.ref s1, .ref s2, .int (nI Wd), .int (nI Hh)])), (s1, .inl (cyI, 576, .inl g)), (s2, .inl (cyZ, 576, .inl ln))] sz) := by
  refine xk_of (own := RX4) (cc := cX4_grey) (maxL := 3) (ret := (some .int)) (Qc := fun A => xk_Qi D A (-1) [(d0, .inr (4, [.ref s0, .ref t0, .ref r0, .ref q0, .int bk])), (s0, .inr (2, [.ref s1, .ref s2, .int (nI Wd), .int (nI Hh)])), (s1, .inl (cyI, 576, .inl g)), (s2, .inl (cyZ, 576, .inl ln))]) (by decide) rfl rfl (Nat.le_of_ble_eq_true rfl) ?_
  intro p e s m below meth c A ls hx hb hr hml hown hlocks hin hts hA hP hK hN hD hS hl
  have hC0 := xk_fix hx hb hml hown hts
  have hl : lv_has ls 3 [(0, .ref d0), (1, .int x), (2, .int y)] := hl
  have hf10 := hts (.fieldLink RX4 10 "DotPress" "sheet" "LDotPress$Sheet;") (by decide +kernel)
  refine lv_aload_n hx hb dX4_grey_0 rfl (lv_at hl 0 rfl) ?_
  refine va_get (D := D) (ci := 4) (v := .ref s0) (C := RX4) (T := TX4) (N := 5) hx hb hts in_X4_grey_no_X4 hown hK hP 0 rfl rfl 0 (by decide) hf10 (fun _ h9 => h9) rfl dX4_grey_1 ?_
  refine lv_iload_n hx hb dX4_grey_4 rfl (lv_at hl 1 rfl) ?_
  refine lv_iload_n hx hb dX4_grey_5 rfl (lv_at hl 2 rfl) ?_
  have hPc := hP.sub (ws' := [(s0, .inr (2, [.ref s1, .ref s2, .int (nI Wd), .int (nI Hh)])), (s1, .inl (cyI, 576, .inl g)), (s2, .inl (cyZ, 576, .inl ln))]) [1, 2, 3] rfl
  have hDc := hD.sub (ws' := [(s0, .inr (2, [.ref s1, .ref s2, .int (nI Wd), .int (nI Hh)])), (s1, .inl (cyI, 576, .inl g)), (s2, .inl (cyZ, 576, .inl ln))]) [1, 2, 3] (by decide) rfl
  refine xk_calli (wr := [(d0, .inr (4, [.ref s0, .ref t0, .ref r0, .ref q0, .int bk]))]) (w2 := [(d0, .inr (4, [.ref s0, .ref t0, .ref r0, .ref q0, .int bk])), (s0, .inr (2, [.ref s1, .ref s2, .int (nI Wd), .int (nI Hh)])), (s1, .inl (cyI, 576, .inl g)), (s2, .inl (cyZ, 576, .inl ln))]) (va_runV (As := [.int x, .int y]) (rest := []) hC0 (ct_X2_has l D cyI cyZ s0 s1 s2 _ Wd Hh g ln x y ) (cwV 2 hts gX4_grey_X2_has rfl rfl rfl (by decide +kernel) ⟨Nat.le_of_ble_eq_true rfl, Nat.le_of_ble_eq_true rfl⟩) ⟨xk_blind, va_recv hK hPc (ci := 2) (q0 := 0) rfl rfl, xk_pre hK hN hPc hDc⟩ rfl rfl hl.1 rfl (lv_room (Nat.le_of_ble_eq_true rfl)) dX4_grey_6 ⟨Nat.le_of_ble_eq_true rfl, Nat.le_of_ble_eq_true rfl⟩) hP hD hS hA [1, 2, 3] [0] [0, 1, 2, 3] rfl rfl (by decide) (by decide) rfl (by decide) (fun H locs hP hD hS => ?_)
  refine lv_if_eq (tgt := 24) hx hb dX4_grey_9 (by decide) (fun c_9 => ?_) (fun c_9 => xk_ba c_9 (bI_z.mpr hno))
  have c_9 := bI_z.mp c_9
  refine lv_iconst (v := (-1)) hx hb dX4_grey_24 (by decide) ?_
  exact xk_iret hx hb hr hlocks hP hD hS (rfl) (rfl) dX4_grey_25

abbrev rm_X4_grey_ok : Room := { frames := 2, cells := 0, slots := 0, locals := 44 }
theorem in_X4_grey_ok_X4 : ∀ w ∈ u_ws RX4 TX4 5, w ∈ wsX4_grey := by decide +kernel
set_option maxHeartbeats 4000000 in
set_option maxRecDepth 100000 in
theorem ct_X4_grey_ok (l : Launch) (D : va_G) (cyI cyZ : ClassId) (d0 s0 t0 r0 q0 s1 s2 : Nat) (sz : Nat) (bk : Int32) (Wd Hh : Nat) (g ln : Nat → Int32) (jx jy : Nat) (hw1 : 1 ≤ Wd) (hw2 : Wd ≤ 24) (hh1 : 1 ≤ Hh) (hh2 : Hh ≤ 24) (hx0 : jx < Wd) (hy0 : jy < Hh) : Met l yX4_grey wsX4_grey rm_X4_grey_ok (xk_Pc D cyI cyZ [.ref d0, .int (nI jx), .int (nI jy)] [(d0, .inr (4, [.ref s0, .ref t0, .ref r0, .ref q0, .int bk])), (s0, .inr (2, [.ref s1, .ref s2, .int (nI Wd), .int (nI Hh)])), (s1, .inl (cyI, 576, .inl g)), (s2, .inl (cyZ, 576, .inl ln))] sz) (xk_Qi D (va_A [(d0, .inr (4, [.ref s0, .ref t0, .ref r0, .ref q0, .int bk])), (s0, .inr (2, [.ref s1, .ref s2, .int (nI Wd), .int (nI Hh)])), (s1, .inl (cyI, 576, .inl g)), (s2, .inl (cyZ, 576, .inl ln))] sz) (g (jy * 24 + jx)) [(d0, .inr (4, [.ref s0, .ref t0, .ref r0, .ref q0, .int bk])), (s0, .inr (2, [.ref s1, .ref s2, .int (nI Wd), .int (nI Hh)])), (s1, .inl (cyI, 576, .inl g)), (s2, .inl (cyZ, 576, .inl ln))]) 0 0 (va_A [(d0, .inr (4, [.ref s0, .ref t0, .ref r0, .ref q0, .int bk])), (s0, .inr (2, [.ref s1, .ref s2, .int (nI Wd), .int (nI Hh)])), (s1, .inl (cyI, 576, .inl g)), (s2, .inl (cyZ, 576, .inl ln))] sz) := by
  refine xk_of (own := RX4) (cc := cX4_grey) (maxL := 3) (ret := (some .int)) (Qc := fun A => xk_Qi D A (g (jy * 24 + jx)) [(d0, .inr (4, [.ref s0, .ref t0, .ref r0, .ref q0, .int bk])), (s0, .inr (2, [.ref s1, .ref s2, .int (nI Wd), .int (nI Hh)])), (s1, .inl (cyI, 576, .inl g)), (s2, .inl (cyZ, 576, .inl ln))]) (by decide) rfl rfl (Nat.le_of_ble_eq_true rfl) ?_
  intro p e s m below meth c A ls hx hb hr hml hown hlocks hin hts hA hP hK hN hD hS hl
  have hC0 := xk_fix hx hb hml hown hts
  have hl : lv_has ls 3 [(0, .ref d0), (1, .int (nI jx)), (2, .int (nI jy))] := hl
  have hf10 := hts (.fieldLink RX4 10 "DotPress" "sheet" "LDotPress$Sheet;") (by decide +kernel)
  refine lv_aload_n hx hb dX4_grey_0 rfl (lv_at hl 0 rfl) ?_
  refine va_get (D := D) (ci := 4) (v := .ref s0) (C := RX4) (T := TX4) (N := 5) hx hb hts in_X4_grey_ok_X4 hown hK hP 0 rfl rfl 0 (by decide) hf10 (fun _ h9 => h9) rfl dX4_grey_1 ?_
  refine lv_iload_n hx hb dX4_grey_4 rfl (lv_at hl 1 rfl) ?_
  refine lv_iload_n hx hb dX4_grey_5 rfl (lv_at hl 2 rfl) ?_
  have hPc := hP.sub (ws' := [(s0, .inr (2, [.ref s1, .ref s2, .int (nI Wd), .int (nI Hh)])), (s1, .inl (cyI, 576, .inl g)), (s2, .inl (cyZ, 576, .inl ln))]) [1, 2, 3] rfl
  have hDc := hD.sub (ws' := [(s0, .inr (2, [.ref s1, .ref s2, .int (nI Wd), .int (nI Hh)])), (s1, .inl (cyI, 576, .inl g)), (s2, .inl (cyZ, 576, .inl ln))]) [1, 2, 3] (by decide) rfl
  refine xk_calli (wr := [(d0, .inr (4, [.ref s0, .ref t0, .ref r0, .ref q0, .int bk]))]) (w2 := [(d0, .inr (4, [.ref s0, .ref t0, .ref r0, .ref q0, .int bk])), (s0, .inr (2, [.ref s1, .ref s2, .int (nI Wd), .int (nI Hh)])), (s1, .inl (cyI, 576, .inl g)), (s2, .inl (cyZ, 576, .inl ln))]) (va_runV (As := [.int (nI jx), .int (nI jy)]) (rest := []) hC0 (ct_X2_has l D cyI cyZ s0 s1 s2 _ Wd Hh g ln (nI jx) (nI jy) ) (cwV 2 hts gX4_grey_X2_has rfl rfl rfl (by decide +kernel) ⟨Nat.le_of_ble_eq_true rfl, Nat.le_of_ble_eq_true rfl⟩) ⟨xk_blind, va_recv hK hPc (ci := 2) (q0 := 0) rfl rfl, xk_pre hK hN hPc hDc⟩ rfl rfl hl.1 rfl (lv_room (Nat.le_of_ble_eq_true rfl)) dX4_grey_6 ⟨Nat.le_of_ble_eq_true rfl, Nat.le_of_ble_eq_true rfl⟩) hP hD hS hA [1, 2, 3] [0] [0, 1, 2, 3] rfl rfl (by decide) (by decide) rfl (by decide) (fun H locs hP hD hS => ?_)
  refine lv_if_eq (tgt := 24) hx hb dX4_grey_9 (by decide) (fun c_9 => xk_ab c_9 (bI_nz.mpr (sh_has_in hw2 hh2 hx0 hy0))) (fun c_9 => ?_)
  have c_9 := bI_nz.mp c_9
  refine lv_aload_n hx hb dX4_grey_12 rfl (lv_at hl 0 rfl) ?_
  refine va_get (D := D) (ci := 4) (v := .ref s0) (C := RX4) (T := TX4) (N := 5) hx hb hts in_X4_grey_ok_X4 hown hK hP 0 rfl rfl 0 (by decide) hf10 (fun _ h9 => h9) rfl dX4_grey_13 ?_
  refine lv_iload_n hx hb dX4_grey_16 rfl (lv_at hl 1 rfl) ?_
  refine lv_iload_n hx hb dX4_grey_17 rfl (lv_at hl 2 rfl) ?_
  have hPc := hP.sub (ws' := [(s0, .inr (2, [.ref s1, .ref s2, .int (nI Wd), .int (nI Hh)])), (s1, .inl (cyI, 576, .inl g)), (s2, .inl (cyZ, 576, .inl ln))]) [1, 2, 3] rfl
  have hDc := hD.sub (ws' := [(s0, .inr (2, [.ref s1, .ref s2, .int (nI Wd), .int (nI Hh)])), (s1, .inl (cyI, 576, .inl g)), (s2, .inl (cyZ, 576, .inl ln))]) [1, 2, 3] (by decide) rfl
  refine xk_calli (wr := [(d0, .inr (4, [.ref s0, .ref t0, .ref r0, .ref q0, .int bk]))]) (w2 := [(d0, .inr (4, [.ref s0, .ref t0, .ref r0, .ref q0, .int bk])), (s0, .inr (2, [.ref s1, .ref s2, .int (nI Wd), .int (nI Hh)])), (s1, .inl (cyI, 576, .inl g)), (s2, .inl (cyZ, 576, .inl ln))]) (va_runV (As := [.int (nI jx), .int (nI jy)]) (rest := []) hC0 (ct_X2_greyAt l D cyI cyZ s0 s1 s2 _ Wd Hh g ln jx jy (hw2) (hh2) (hx0) (hy0)) (cwV 2 hts gX4_grey_X2_greyAt rfl rfl rfl (by decide +kernel) ⟨Nat.le_of_ble_eq_true rfl, Nat.le_of_ble_eq_true rfl⟩) ⟨xk_blind, va_recv hK hPc (ci := 2) (q0 := 0) rfl rfl, xk_pre hK hN hPc hDc⟩ rfl rfl hl.1 rfl (lv_room (Nat.le_of_ble_eq_true rfl)) dX4_grey_18 ⟨Nat.le_of_ble_eq_true rfl, Nat.le_of_ble_eq_true rfl⟩) hP hD hS hA [1, 2, 3] [0] [0, 1, 2, 3] rfl rfl (by decide) (by decide) rfl (by decide) (fun H locs hP hD hS => ?_)
  refine lv_goto (tgt := 25) hx hb dX4_grey_21 (by decide) ?_
  exact xk_iret hx hb hr hlocks hP hD hS (rfl) (rfl) dX4_grey_25

abbrev rm_X4_back_so : Room := { frames := 0, cells := 0, slots := 0, locals := 0 }
theorem in_X4_back_so_X4 : ∀ w ∈ u_ws RX4 TX4 5, w ∈ wsX4_back := by decide +kernel
set_option maxHeartbeats 4000000 in
set_option maxRecDepth 100000 in
theorem ct_X4_back_so (l : Launch) (D : va_G) (cyI cyZ : ClassId) (d0 s0 t0 r0 q0 : Nat) (sz : Nat) (bk : Int32)  (v : Int32) (hs : bk = v) : Met l yX4_back wsX4_back rm_X4_back_so (xk_Pc D cyI cyZ [.ref d0, .int v] [(d0, .inr (4, [.ref s0, .ref t0, .ref r0, .ref q0, .int bk]))] sz) (xk_Qi D (va_A [(d0, .inr (4, [.ref s0, .ref t0, .ref r0, .ref q0, .int bk]))] sz) 0 [(d0, .inr (4, [.ref s0, .ref t0, .ref r0, .ref q0, .int bk]))]) 0 0 (va_A [(d0, .inr (4, [.ref s0, .ref t0, .ref r0, .ref q0, .int bk]))] sz) := by
  refine xk_of (own := RX4) (cc := cX4_back) (maxL := 2) (ret := (some .boolean)) (Qc := fun A => xk_Qi D A 0 [(d0, .inr (4, [.ref s0, .ref t0, .ref r0, .ref q0, .int bk]))]) (by decide) rfl rfl (Nat.le_of_ble_eq_true rfl) ?_
  intro p e s m below meth c A ls hx hb hr hml hown hlocks hin hts hA hP hK hN hD hS hl
  have hC0 := xk_fix hx hb hml hown hts
  have hl : lv_has ls 2 [(0, .ref d0), (1, .int v)] := hl
  have hf37 := hts (.fieldLink RX4 37 "DotPress" "backAndForth" "Z") (by decide +kernel)
  refine lv_aload_n hx hb dX4_back_0 rfl (lv_at hl 0 rfl) ?_
  refine va_get (D := D) (ci := 4) (v := .int bk) (C := RX4) (T := TX4) (N := 5) hx hb hts in_X4_back_so_X4 hown hK hP 0 rfl rfl 4 (by decide) hf37 (fun _ h9 => h9) rfl dX4_back_1 ?_
  refine lv_iload_n hx hb dX4_back_4 rfl (lv_at hl 1 rfl) ?_
  refine lv_icmp_ne (tgt := 10) hx hb dX4_back_5 (by decide) (fun c_5 => xk_ba c_5 (hs)) (fun c_5 => ?_)
  refine lv_iconst (v := 0) hx hb dX4_back_8 (by decide) ?_
  exact xk_zret hx hb hr hlocks hP hD hS (rfl) (rfl) (rfl) dX4_back_9

abbrev rm_X4_back_ok : Room := { frames := 0, cells := 0, slots := 0, locals := 0 }
theorem in_X4_back_ok_X4 : ∀ w ∈ u_ws RX4 TX4 5, w ∈ wsX4_back := by decide +kernel
set_option maxHeartbeats 4000000 in
set_option maxRecDepth 100000 in
theorem ct_X4_back_ok (l : Launch) (D : va_G) (cyI cyZ : ClassId) (d0 s0 t0 r0 q0 : Nat) (sz : Nat) (bk : Int32)  (v : Int32) (hs : ¬ bk = v) (hv : narrow .boolean (.int v) = .int v) (hf : fits .boolean (.int v) = true) : Met l yX4_back wsX4_back rm_X4_back_ok (xk_Pc D cyI cyZ [.ref d0, .int v] [(d0, .inr (4, [.ref s0, .ref t0, .ref r0, .ref q0, .int bk]))] sz) (xk_Qi D (va_A [(d0, .inr (4, [.ref s0, .ref t0, .ref r0, .ref q0, .int bk]))] sz) 1 [(d0, .inr (4, [.ref s0, .ref t0, .ref r0, .ref q0, .int v]))]) 0 0 (va_A [(d0, .inr (4, [.ref s0, .ref t0, .ref r0, .ref q0, .int bk]))] sz) := by
  refine xk_of (own := RX4) (cc := cX4_back) (maxL := 2) (ret := (some .boolean)) (Qc := fun A => xk_Qi D A 1 [(d0, .inr (4, [.ref s0, .ref t0, .ref r0, .ref q0, .int v]))]) (by decide) rfl rfl (Nat.le_of_ble_eq_true rfl) ?_
  intro p e s m below meth c A ls hx hb hr hml hown hlocks hin hts hA hP hK hN hD hS hl
  have hC0 := xk_fix hx hb hml hown hts
  have hl : lv_has ls 2 [(0, .ref d0), (1, .int v)] := hl
  have hf37 := hts (.fieldLink RX4 37 "DotPress" "backAndForth" "Z") (by decide +kernel)
  refine lv_aload_n hx hb dX4_back_0 rfl (lv_at hl 0 rfl) ?_
  refine va_get (D := D) (ci := 4) (v := .int bk) (C := RX4) (T := TX4) (N := 5) hx hb hts in_X4_back_ok_X4 hown hK hP 0 rfl rfl 4 (by decide) hf37 (fun _ h9 => h9) rfl dX4_back_1 ?_
  refine lv_iload_n hx hb dX4_back_4 rfl (lv_at hl 1 rfl) ?_
  refine lv_icmp_ne (tgt := 10) hx hb dX4_back_5 (by decide) (fun c_5 => ?_) (fun c_5 => xk_ab c_5 (hs))
  refine lv_aload_n hx hb dX4_back_10 rfl (lv_at hl 0 rfl) ?_
  refine lv_iload_n hx hb dX4_back_11 rfl (lv_at hl 1 rfl) ?_
  refine va_put (D := D) (ci := 4) (v := .int v) (ty := .boolean) (C := RX4) (T := TX4) (N := 5) hx hb hts in_X4_back_ok_X4 tyX4 tyX4_ok nmX4 hown hK hP hD hS 0 rfl rfl 4 (by decide) hf37 (fun _ h9 => h9) rfl (by decide +kernel) (hv) (hf) (Nat.le_of_ble_eq_true rfl) dX4_back_12 (fun H locs hP hD hS => ?_)
  have hP : va_P D vwCl [(d0, .inr (4, [.ref s0, .ref t0, .ref r0, .ref q0, .int v]))] H := hP
  have hD : va_D A [(d0, .inr (4, [.ref s0, .ref t0, .ref r0, .ref q0, .int v]))] := hD
  refine lv_iconst (v := 1) hx hb dX4_back_15 (by decide) ?_
  exact xk_zret hx hb hr hlocks hP hD hS (rfl) (rfl) (rfl) dX4_back_16

abbrev rm_X4_table_no : Room := { frames := 1, cells := 0, slots := 0, locals := 20 }
set_option maxHeartbeats 4000000 in
set_option maxRecDepth 100000 in
theorem ct_X4_table_no (l : Launch) (D : va_G) (cyI cyZ : ClassId) (d0 s0 t0 r0 q0 t1 t2 t3 : Nat) (sz : Nat) (bk : Int32) (nn : Nat) (nu sp ne : Nat → Int32) (x : Int32) (hno : ¬ (¬ x < 1 ∧ ¬ 8 < x)) : Met l yX4_table wsX4_table rm_X4_table_no (xk_Pc D cyI cyZ [.ref d0, .int x] [(d0, .inr (4, [.ref s0, .ref t0, .ref r0, .ref q0, .int bk])), (t0, .inr (3, [.ref t1, .ref t2, .ref t3, .int (nI nn)])), (t1, .inl (cyI, 64, .inl nu)), (t2, .inl (cyI, 64, .inl sp)), (t3, .inl (cyI, 225, .inl ne))] sz) (xk_Qi D (va_A [(d0, .inr (4, [.ref s0, .ref t0, .ref r0, .ref q0, .int bk])), (t0, .inr (3, [.ref t1, .ref t2, .ref t3, .int (nI nn)])), (t1, .inl (cyI, 64, .inl nu)), (t2, .inl (cyI, 64, .inl sp)), (t3, .inl (cyI, 225, .inl ne))] sz) 0 [(d0, .inr (4, [.ref s0, .ref t0, .ref r0, .ref q0, .int bk])), (t0, .inr (3, [.ref t1, .ref t2, .ref t3, .int (nI nn)])), (t1, .inl (cyI, 64, .inl nu)), (t2, .inl (cyI, 64, .inl sp)), (t3, .inl (cyI, 225, .inl ne))]) 0 0 (va_A [(d0, .inr (4, [.ref s0, .ref t0, .ref r0, .ref q0, .int bk])), (t0, .inr (3, [.ref t1, .ref t2, .ref t3, .int (nI nn)])), (t1, .inl (cyI, 64, .inl nu)), (t2, .inl (cyI, 64, .inl sp)), (t3, .inl (cyI, 225, .inl ne))] sz) := by
  refine xk_of (own := RX4) (cc := cX4_table) (maxL := 2) (ret := (some .boolean)) (Qc := fun A => xk_Qi D A 0 [(d0, .inr (4, [.ref s0, .ref t0, .ref r0, .ref q0, .int bk])), (t0, .inr (3, [.ref t1, .ref t2, .ref t3, .int (nI nn)])), (t1, .inl (cyI, 64, .inl nu)), (t2, .inl (cyI, 64, .inl sp)), (t3, .inl (cyI, 225, .inl ne))]) (by decide) rfl rfl (Nat.le_of_ble_eq_true rfl) ?_
  intro p e s m below meth c A ls hx hb hr hml hown hlocks hin hts hA hP hK hN hD hS hl
  have hC0 := xk_fix hx hb hml hown hts
  have hl : lv_has ls 2 [(0, .ref d0), (1, .int x)] := hl
  refine lv_iload_n hx hb dX4_table_0 rfl (lv_at hl 1 rfl) ?_
  have hPc := hP.sub (ws' := []) [] rfl
  have hDc := hD.sub (ws' := []) [] (by decide) rfl
  refine xk_calli (wr := [(d0, .inr (4, [.ref s0, .ref t0, .ref r0, .ref q0, .int bk])), (t0, .inr (3, [.ref t1, .ref t2, .ref t3, .int (nI nn)])), (t1, .inl (cyI, 64, .inl nu)), (t2, .inl (cyI, 64, .inl sp)), (t3, .inl (cyI, 225, .inl ne))]) (w2 := [(d0, .inr (4, [.ref s0, .ref t0, .ref r0, .ref q0, .int bk])), (t0, .inr (3, [.ref t1, .ref t2, .ref t3, .int (nI nn)])), (t1, .inl (cyI, 64, .inl nu)), (t2, .inl (cyI, 64, .inl sp)), (t3, .inl (cyI, 225, .inl ne))]) (va_runS (As := [.int x]) (rest := []) hC0 (ct_X3_allows l D cyI cyZ  _ x ) (va_cwS 1 hts gX4_table_X3_allows rfl rfl rfl (by decide +kernel) ⟨Nat.le_of_ble_eq_true rfl, Nat.le_of_ble_eq_true rfl⟩) ⟨xk_blind, xk_pre hK hN hPc hDc⟩ rfl rfl hl.1 rfl (lv_room (Nat.le_of_ble_eq_true rfl)) dX4_table_1 ⟨Nat.le_of_ble_eq_true rfl, Nat.le_of_ble_eq_true rfl⟩) hP hD hS hA [] [0, 1, 2, 3, 4] [0, 1, 2, 3, 4] rfl rfl (by decide) (by decide) rfl (by decide) (fun H locs hP hD hS => ?_)
  refine lv_if_ne (tgt := 9) hx hb dX4_table_4 (by decide) (fun c_4 => xk_ba c_4 (bI_z.mpr hno)) (fun c_4 => ?_)
  have c_4 := bI_z.mp c_4
  refine lv_iconst (v := 0) hx hb dX4_table_7 (by decide) ?_
  exact xk_zret hx hb hr hlocks hP hD hS (rfl) (rfl) (rfl) dX4_table_8

abbrev rm_X4_table_ok : Room := { frames := 4, cells := 0, slots := 0, locals := 79 }
theorem in_X4_table_ok_X4 : ∀ w ∈ u_ws RX4 TX4 5, w ∈ wsX4_table := by decide +kernel
set_option maxHeartbeats 4000000 in
set_option maxRecDepth 100000 in
theorem ct_X4_table_ok (l : Launch) (D : va_G) (cyI cyZ : ClassId) (d0 s0 t0 r0 q0 t1 t2 t3 : Nat) (sz : Nat) (bk : Int32) (nn : Nat) (nu sp ne : Nat → Int32) (n2 : Nat) (q1 : 1 ≤ n2) (q2 : n2 ≤ 8) : Met l yX4_table wsX4_table rm_X4_table_ok (xk_Pc D cyI cyZ [.ref d0, .int (nI n2)] [(d0, .inr (4, [.ref s0, .ref t0, .ref r0, .ref q0, .int bk])), (t0, .inr (3, [.ref t1, .ref t2, .ref t3, .int (nI nn)])), (t1, .inl (cyI, 64, .inl nu)), (t2, .inl (cyI, 64, .inl sp)), (t3, .inl (cyI, 225, .inl ne))] sz) (xk_Qi D (va_A [(d0, .inr (4, [.ref s0, .ref t0, .ref r0, .ref q0, .int bk])), (t0, .inr (3, [.ref t1, .ref t2, .ref t3, .int (nI nn)])), (t1, .inl (cyI, 64, .inl nu)), (t2, .inl (cyI, 64, .inl sp)), (t3, .inl (cyI, 225, .inl ne))] sz) 1 [(d0, .inr (4, [.ref s0, .ref t0, .ref r0, .ref q0, .int bk])), (t0, .inr (3, [.ref t1, .ref t2, .ref t3, .int (nI n2)])), (t1, .inl (cyI, 64, .inl (idt (n2 * n2) nu))), (t2, .inl (cyI, 64, .inl (spF n2 (n2 * n2) sp))), (t3, .inl (cyI, 225, .inl (neo n2 ne (2 * n2 - 1))))]) 0 0 (va_A [(d0, .inr (4, [.ref s0, .ref t0, .ref r0, .ref q0, .int bk])), (t0, .inr (3, [.ref t1, .ref t2, .ref t3, .int (nI nn)])), (t1, .inl (cyI, 64, .inl nu)), (t2, .inl (cyI, 64, .inl sp)), (t3, .inl (cyI, 225, .inl ne))] sz) := by
  refine xk_of (own := RX4) (cc := cX4_table) (maxL := 2) (ret := (some .boolean)) (Qc := fun A => xk_Qi D A 1 [(d0, .inr (4, [.ref s0, .ref t0, .ref r0, .ref q0, .int bk])), (t0, .inr (3, [.ref t1, .ref t2, .ref t3, .int (nI n2)])), (t1, .inl (cyI, 64, .inl (idt (n2 * n2) nu))), (t2, .inl (cyI, 64, .inl (spF n2 (n2 * n2) sp))), (t3, .inl (cyI, 225, .inl (neo n2 ne (2 * n2 - 1))))]) (by decide) rfl rfl (Nat.le_of_ble_eq_true rfl) ?_
  intro p e s m below meth c A ls hx hb hr hml hown hlocks hin hts hA hP hK hN hD hS hl
  have hC0 := xk_fix hx hb hml hown hts
  have hl : lv_has ls 2 [(0, .ref d0), (1, .int (nI n2))] := hl
  have hf19 := hts (.fieldLink RX4 19 "DotPress" "steps" "LDotPress$Steps;") (by decide +kernel)
  refine lv_iload_n hx hb dX4_table_0 rfl (lv_at hl 1 rfl) ?_
  have hPc := hP.sub (ws' := []) [] rfl
  have hDc := hD.sub (ws' := []) [] (by decide) rfl
  refine xk_calli (wr := [(d0, .inr (4, [.ref s0, .ref t0, .ref r0, .ref q0, .int bk])), (t0, .inr (3, [.ref t1, .ref t2, .ref t3, .int (nI nn)])), (t1, .inl (cyI, 64, .inl nu)), (t2, .inl (cyI, 64, .inl sp)), (t3, .inl (cyI, 225, .inl ne))]) (w2 := [(d0, .inr (4, [.ref s0, .ref t0, .ref r0, .ref q0, .int bk])), (t0, .inr (3, [.ref t1, .ref t2, .ref t3, .int (nI nn)])), (t1, .inl (cyI, 64, .inl nu)), (t2, .inl (cyI, 64, .inl sp)), (t3, .inl (cyI, 225, .inl ne))]) (va_runS (As := [.int (nI n2)]) (rest := []) hC0 (ct_X3_allows l D cyI cyZ  _ (nI n2) ) (va_cwS 1 hts gX4_table_X3_allows rfl rfl rfl (by decide +kernel) ⟨Nat.le_of_ble_eq_true rfl, Nat.le_of_ble_eq_true rfl⟩) ⟨xk_blind, xk_pre hK hN hPc hDc⟩ rfl rfl hl.1 rfl (lv_room (Nat.le_of_ble_eq_true rfl)) dX4_table_1 ⟨Nat.le_of_ble_eq_true rfl, Nat.le_of_ble_eq_true rfl⟩) hP hD hS hA [] [0, 1, 2, 3, 4] [0, 1, 2, 3, 4] rfl rfl (by decide) (by decide) rfl (by decide) (fun H locs hP hD hS => ?_)
  refine lv_if_ne (tgt := 9) hx hb dX4_table_4 (by decide) (fun c_4 => ?_) (fun c_4 => xk_ab c_4 (bI_nz.mpr ⟨rg_lo (lo := 1) (by omega) (by omega), rg_hi (hi := 8) (by omega) (by omega)⟩))
  have c_4 := bI_nz.mp c_4
  refine lv_aload_n hx hb dX4_table_9 rfl (lv_at hl 0 rfl) ?_
  refine va_get (D := D) (ci := 4) (v := .ref t0) (C := RX4) (T := TX4) (N := 5) hx hb hts in_X4_table_ok_X4 hown hK hP 0 rfl rfl 1 (by decide) hf19 (fun _ h9 => h9) rfl dX4_table_10 ?_
  refine lv_iload_n hx hb dX4_table_13 rfl (lv_at hl 1 rfl) ?_
  have hPc := hP.sub (ws' := [(t0, .inr (3, [.ref t1, .ref t2, .ref t3, .int (nI nn)])), (t1, .inl (cyI, 64, .inl nu)), (t2, .inl (cyI, 64, .inl sp)), (t3, .inl (cyI, 225, .inl ne))]) [1, 2, 3, 4] rfl
  have hDc := hD.sub (ws' := [(t0, .inr (3, [.ref t1, .ref t2, .ref t3, .int (nI nn)])), (t1, .inl (cyI, 64, .inl nu)), (t2, .inl (cyI, 64, .inl sp)), (t3, .inl (cyI, 225, .inl ne))]) [1, 2, 3, 4] (by decide) rfl
  refine xk_callv (wr := [(d0, .inr (4, [.ref s0, .ref t0, .ref r0, .ref q0, .int bk]))]) (w2 := [(d0, .inr (4, [.ref s0, .ref t0, .ref r0, .ref q0, .int bk])), (t0, .inr (3, [.ref t1, .ref t2, .ref t3, .int (nI n2)])), (t1, .inl (cyI, 64, .inl (idt (n2 * n2) nu))), (t2, .inl (cyI, 64, .inl (spF n2 (n2 * n2) sp))), (t3, .inl (cyI, 225, .inl (neo n2 ne (2 * n2 - 1))))]) (va_runV (As := [.int (nI n2)]) (rest := []) hC0 (ct_X3_renew l D cyI cyZ t0 t1 t2 t3 _ nn nu sp ne n2 (by first | assumption | omega) (by first | assumption | omega)) (cwV 1 hts gX4_table_X3_renew rfl rfl rfl (by decide +kernel) ⟨Nat.le_of_ble_eq_true rfl, Nat.le_of_ble_eq_true rfl⟩) ⟨xk_blind, va_recv hK hPc (ci := 3) (q0 := 0) rfl rfl, xk_pre hK hN hPc hDc⟩ rfl rfl hl.1 rfl (lv_room (Nat.le_of_ble_eq_true rfl)) dX4_table_14 ⟨Nat.le_of_ble_eq_true rfl, Nat.le_of_ble_eq_true rfl⟩) hP hD hS hA [1, 2, 3, 4] [0] [0, 1, 2, 3, 4] rfl rfl (by decide) (by decide) rfl (by decide) (fun H locs hP hD hS => ?_)
  refine lv_iconst (v := 1) hx hb dX4_table_17 (by decide) ?_
  exact xk_zret hx hb hr hlocks hP hD hS (rfl) (rfl) (rfl) dX4_table_18

abbrev rm_X4_exchange_no : Room := { frames := 4, cells := 0, slots := 0, locals := 77 }
theorem in_X4_exchange_no_X4 : ∀ w ∈ u_ws RX4 TX4 5, w ∈ wsX4_exchange := by decide +kernel
set_option maxHeartbeats 4000000 in
set_option maxRecDepth 100000 in
theorem ct_X4_exchange_no (l : Launch) (D : va_G) (cyI cyZ : ClassId) (d0 s0 t0 r0 q0 t1 t2 t3 : Nat) (sz : Nat) (bk : Int32) (nn : Nat) (nu sp ne : Nat → Int32) (x y : Int32) (hn2 : nn ≤ 8) (hno : ¬ st_pair nn x y) : Met l yX4_exchange wsX4_exchange rm_X4_exchange_no (xk_Pc D cyI cyZ [.ref d0, .int x, .int y] [(d0, .inr (4, [.ref s0, .ref t0, .ref r0, .ref q0, .int bk])), (t0, .inr (3, [.ref t1, .ref t2, .ref t3, .int (nI nn)])), (t1, .inl (cyI, 64, .inl nu)), (t2, .inl (cyI, 64, .inl sp)), (t3, .inl (cyI, 225, .inl ne))] sz) (xk_Qi D (va_A [(d0, .inr (4, [.ref s0, .ref t0, .ref r0, .ref q0, .int bk])), (t0, .inr (3, [.ref t1, .ref t2, .ref t3, .int (nI nn)])), (t1, .inl (cyI, 64, .inl nu)), (t2, .inl (cyI, 64, .inl sp)), (t3, .inl (cyI, 225, .inl ne))] sz) 0 [(d0, .inr (4, [.ref s0, .ref t0, .ref r0, .ref q0, .int bk])), (t0, .inr (3, [.ref t1, .ref t2, .ref t3, .int (nI nn)])), (t1, .inl (cyI, 64, .inl nu)), (t2, .inl (cyI, 64, .inl sp)), (t3, .inl (cyI, 225, .inl ne))]) 0 0 (va_A [(d0, .inr (4, [.ref s0, .ref t0, .ref r0, .ref q0, .int bk])), (t0, .inr (3, [.ref t1, .ref t2, .ref t3, .int (nI nn)])), (t1, .inl (cyI, 64, .inl nu)), (t2, .inl (cyI, 64, .inl sp)), (t3, .inl (cyI, 225, .inl ne))] sz) := by
  refine xk_of (own := RX4) (cc := cX4_exchange) (maxL := 3) (ret := (some .boolean)) (Qc := fun A => xk_Qi D A 0 [(d0, .inr (4, [.ref s0, .ref t0, .ref r0, .ref q0, .int bk])), (t0, .inr (3, [.ref t1, .ref t2, .ref t3, .int (nI nn)])), (t1, .inl (cyI, 64, .inl nu)), (t2, .inl (cyI, 64, .inl sp)), (t3, .inl (cyI, 225, .inl ne))]) (by decide) rfl rfl (Nat.le_of_ble_eq_true rfl) ?_
  intro p e s m below meth c A ls hx hb hr hml hown hlocks hin hts hA hP hK hN hD hS hl
  have hC0 := xk_fix hx hb hml hown hts
  have hl : lv_has ls 3 [(0, .ref d0), (1, .int x), (2, .int y)] := hl
  have hf19 := hts (.fieldLink RX4 19 "DotPress" "steps" "LDotPress$Steps;") (by decide +kernel)
  refine lv_aload_n hx hb dX4_exchange_0 rfl (lv_at hl 0 rfl) ?_
  refine va_get (D := D) (ci := 4) (v := .ref t0) (C := RX4) (T := TX4) (N := 5) hx hb hts in_X4_exchange_no_X4 hown hK hP 0 rfl rfl 1 (by decide) hf19 (fun _ h9 => h9) rfl dX4_exchange_1 ?_
  refine lv_iload_n hx hb dX4_exchange_4 rfl (lv_at hl 1 rfl) ?_
  refine lv_iload_n hx hb dX4_exchange_5 rfl (lv_at hl 2 rfl) ?_
  have hPc := hP.sub (ws' := [(t0, .inr (3, [.ref t1, .ref t2, .ref t3, .int (nI nn)])), (t1, .inl (cyI, 64, .inl nu)), (t2, .inl (cyI, 64, .inl sp)), (t3, .inl (cyI, 225, .inl ne))]) [1, 2, 3, 4] rfl
  have hDc := hD.sub (ws' := [(t0, .inr (3, [.ref t1, .ref t2, .ref t3, .int (nI nn)])), (t1, .inl (cyI, 64, .inl nu)), (t2, .inl (cyI, 64, .inl sp)), (t3, .inl (cyI, 225, .inl ne))]) [1, 2, 3, 4] (by decide) rfl
  refine xk_calli (wr := [(d0, .inr (4, [.ref s0, .ref t0, .ref r0, .ref q0, .int bk]))]) (w2 := [(d0, .inr (4, [.ref s0, .ref t0, .ref r0, .ref q0, .int bk])), (t0, .inr (3, [.ref t1, .ref t2, .ref t3, .int (nI nn)])), (t1, .inl (cyI, 64, .inl nu)), (t2, .inl (cyI, 64, .inl sp)), (t3, .inl (cyI, 225, .inl ne))]) (va_runV (As := [.int x, .int y]) (rest := []) hC0 (ct_X3_hasPair l D cyI cyZ t0 t1 t2 t3 _ nn nu sp ne x y (by first | assumption | omega)) (cwV 2 hts gX4_exchange_X3_hasPair rfl rfl rfl (by decide +kernel) ⟨Nat.le_of_ble_eq_true rfl, Nat.le_of_ble_eq_true rfl⟩) ⟨xk_blind, va_recv hK hPc (ci := 3) (q0 := 0) rfl rfl, xk_pre hK hN hPc hDc⟩ rfl rfl hl.1 rfl (lv_room (Nat.le_of_ble_eq_true rfl)) dX4_exchange_6 ⟨Nat.le_of_ble_eq_true rfl, Nat.le_of_ble_eq_true rfl⟩) hP hD hS hA [1, 2, 3, 4] [0] [0, 1, 2, 3, 4] rfl rfl (by decide) (by decide) rfl (by decide) (fun H locs hP hD hS => ?_)
  refine lv_if_ne (tgt := 14) hx hb dX4_exchange_9 (by decide) (fun c_9 => xk_ba c_9 (bI_z.mpr hno)) (fun c_9 => ?_)
  have c_9 := bI_z.mp c_9
  refine lv_iconst (v := 0) hx hb dX4_exchange_12 (by decide) ?_
  exact xk_zret hx hb hr hlocks hP hD hS (rfl) (rfl) (rfl) dX4_exchange_13

abbrev rm_X4_exchange_ok : Room := { frames := 5, cells := 0, slots := 0, locals := 100 }
theorem in_X4_exchange_ok_X4 : ∀ w ∈ u_ws RX4 TX4 5, w ∈ wsX4_exchange := by decide +kernel
set_option maxHeartbeats 4000000 in
set_option maxRecDepth 100000 in
theorem ct_X4_exchange_ok (l : Launch) (D : va_G) (cyI cyZ : ClassId) (d0 s0 t0 r0 q0 t1 t2 t3 : Nat) (sz : Nat) (bk : Int32) (nn : Nat) (nu sp ne : Nat → Int32) (j1 j2 : Nat) (hn2 : nn ≤ 8) (hj1 : j1 < nn * nn) (hj2 : j2 < nn * nn) (hne : j1 ≠ j2) : Met l yX4_exchange wsX4_exchange rm_X4_exchange_ok (xk_Pc D cyI cyZ [.ref d0, .int (nI j1), .int (nI j2)] [(d0, .inr (4, [.ref s0, .ref t0, .ref r0, .ref q0, .int bk])), (t0, .inr (3, [.ref t1, .ref t2, .ref t3, .int (nI nn)])), (t1, .inl (cyI, 64, .inl nu)), (t2, .inl (cyI, 64, .inl sp)), (t3, .inl (cyI, 225, .inl ne))] sz) (xk_Qi D (va_A [(d0, .inr (4, [.ref s0, .ref t0, .ref r0, .ref q0, .int bk])), (t0, .inr (3, [.ref t1, .ref t2, .ref t3, .int (nI nn)])), (t1, .inl (cyI, 64, .inl nu)), (t2, .inl (cyI, 64, .inl sp)), (t3, .inl (cyI, 225, .inl ne))] sz) 1 [(d0, .inr (4, [.ref s0, .ref t0, .ref r0, .ref q0, .int bk])), (t0, .inr (3, [.ref t1, .ref t2, .ref t3, .int (nI nn)])), (t1, .inl (cyI, 64, .inl (sw nu j1 j2))), (t2, .inl (cyI, 64, .inl sp)), (t3, .inl (cyI, 225, .inl ne))]) 0 0 (va_A [(d0, .inr (4, [.ref s0, .ref t0, .ref r0, .ref q0, .int bk])), (t0, .inr (3, [.ref t1, .ref t2, .ref t3, .int (nI nn)])), (t1, .inl (cyI, 64, .inl nu)), (t2, .inl (cyI, 64, .inl sp)), (t3, .inl (cyI, 225, .inl ne))] sz) := by
  refine xk_of (own := RX4) (cc := cX4_exchange) (maxL := 3) (ret := (some .boolean)) (Qc := fun A => xk_Qi D A 1 [(d0, .inr (4, [.ref s0, .ref t0, .ref r0, .ref q0, .int bk])), (t0, .inr (3, [.ref t1, .ref t2, .ref t3, .int (nI nn)])), (t1, .inl (cyI, 64, .inl (sw nu j1 j2))), (t2, .inl (cyI, 64, .inl sp)), (t3, .inl (cyI, 225, .inl ne))]) (by decide) rfl rfl (Nat.le_of_ble_eq_true rfl) ?_
  intro p e s m below meth c A ls hx hb hr hml hown hlocks hin hts hA hP hK hN hD hS hl
  have hC0 := xk_fix hx hb hml hown hts
  have hl : lv_has ls 3 [(0, .ref d0), (1, .int (nI j1)), (2, .int (nI j2))] := hl
  have hf19 := hts (.fieldLink RX4 19 "DotPress" "steps" "LDotPress$Steps;") (by decide +kernel)
  refine lv_aload_n hx hb dX4_exchange_0 rfl (lv_at hl 0 rfl) ?_
  refine va_get (D := D) (ci := 4) (v := .ref t0) (C := RX4) (T := TX4) (N := 5) hx hb hts in_X4_exchange_ok_X4 hown hK hP 0 rfl rfl 1 (by decide) hf19 (fun _ h9 => h9) rfl dX4_exchange_1 ?_
  refine lv_iload_n hx hb dX4_exchange_4 rfl (lv_at hl 1 rfl) ?_
  refine lv_iload_n hx hb dX4_exchange_5 rfl (lv_at hl 2 rfl) ?_
  have hPc := hP.sub (ws' := [(t0, .inr (3, [.ref t1, .ref t2, .ref t3, .int (nI nn)])), (t1, .inl (cyI, 64, .inl nu)), (t2, .inl (cyI, 64, .inl sp)), (t3, .inl (cyI, 225, .inl ne))]) [1, 2, 3, 4] rfl
  have hDc := hD.sub (ws' := [(t0, .inr (3, [.ref t1, .ref t2, .ref t3, .int (nI nn)])), (t1, .inl (cyI, 64, .inl nu)), (t2, .inl (cyI, 64, .inl sp)), (t3, .inl (cyI, 225, .inl ne))]) [1, 2, 3, 4] (by decide) rfl
  refine xk_calli (wr := [(d0, .inr (4, [.ref s0, .ref t0, .ref r0, .ref q0, .int bk]))]) (w2 := [(d0, .inr (4, [.ref s0, .ref t0, .ref r0, .ref q0, .int bk])), (t0, .inr (3, [.ref t1, .ref t2, .ref t3, .int (nI nn)])), (t1, .inl (cyI, 64, .inl nu)), (t2, .inl (cyI, 64, .inl sp)), (t3, .inl (cyI, 225, .inl ne))]) (va_runV (As := [.int (nI j1), .int (nI j2)]) (rest := []) hC0 (ct_X3_hasPair l D cyI cyZ t0 t1 t2 t3 _ nn nu sp ne (nI j1) (nI j2) (by first | assumption | omega)) (cwV 2 hts gX4_exchange_X3_hasPair rfl rfl rfl (by decide +kernel) ⟨Nat.le_of_ble_eq_true rfl, Nat.le_of_ble_eq_true rfl⟩) ⟨xk_blind, va_recv hK hPc (ci := 3) (q0 := 0) rfl rfl, xk_pre hK hN hPc hDc⟩ rfl rfl hl.1 rfl (lv_room (Nat.le_of_ble_eq_true rfl)) dX4_exchange_6 ⟨Nat.le_of_ble_eq_true rfl, Nat.le_of_ble_eq_true rfl⟩) hP hD hS hA [1, 2, 3, 4] [0] [0, 1, 2, 3, 4] rfl rfl (by decide) (by decide) rfl (by decide) (fun H locs hP hD hS => ?_)
  refine lv_if_ne (tgt := 14) hx hb dX4_exchange_9 (by decide) (fun c_9 => ?_) (fun c_9 => xk_ab c_9 (bI_nz.mpr (st_pair_in hn2 hj1 hj2 hne)))
  have c_9 := bI_nz.mp c_9
  refine lv_aload_n hx hb dX4_exchange_14 rfl (lv_at hl 0 rfl) ?_
  refine va_get (D := D) (ci := 4) (v := .ref t0) (C := RX4) (T := TX4) (N := 5) hx hb hts in_X4_exchange_ok_X4 hown hK hP 0 rfl rfl 1 (by decide) hf19 (fun _ h9 => h9) rfl dX4_exchange_15 ?_
  refine lv_iload_n hx hb dX4_exchange_18 rfl (lv_at hl 1 rfl) ?_
  refine lv_iload_n hx hb dX4_exchange_19 rfl (lv_at hl 2 rfl) ?_
  have hPc := hP.sub (ws' := [(t0, .inr (3, [.ref t1, .ref t2, .ref t3, .int (nI nn)])), (t1, .inl (cyI, 64, .inl nu)), (t2, .inl (cyI, 64, .inl sp)), (t3, .inl (cyI, 225, .inl ne))]) [1, 2, 3, 4] rfl
  have hDc := hD.sub (ws' := [(t0, .inr (3, [.ref t1, .ref t2, .ref t3, .int (nI nn)])), (t1, .inl (cyI, 64, .inl nu)), (t2, .inl (cyI, 64, .inl sp)), (t3, .inl (cyI, 225, .inl ne))]) [1, 2, 3, 4] (by decide) rfl
  refine xk_callv (wr := [(d0, .inr (4, [.ref s0, .ref t0, .ref r0, .ref q0, .int bk]))]) (w2 := [(d0, .inr (4, [.ref s0, .ref t0, .ref r0, .ref q0, .int bk])), (t0, .inr (3, [.ref t1, .ref t2, .ref t3, .int (nI nn)])), (t1, .inl (cyI, 64, .inl (sw nu j1 j2))), (t2, .inl (cyI, 64, .inl sp)), (t3, .inl (cyI, 225, .inl ne))]) (va_runV (As := [.int (nI j1), .int (nI j2)]) (rest := []) hC0 (ct_X3_swap_ok l D cyI cyZ t0 t1 t2 t3 _ nn nu sp ne j1 j2 (by first | assumption | omega) (by first | assumption | omega) (by first | assumption | omega) (by first | assumption | omega)) (cwV 2 hts gX4_exchange_X3_swap rfl rfl rfl (by decide +kernel) ⟨Nat.le_of_ble_eq_true rfl, Nat.le_of_ble_eq_true rfl⟩) ⟨xk_blind, va_recv hK hPc (ci := 3) (q0 := 0) rfl rfl, xk_pre hK hN hPc hDc⟩ rfl rfl hl.1 rfl (lv_room (Nat.le_of_ble_eq_true rfl)) dX4_exchange_20 ⟨Nat.le_of_ble_eq_true rfl, Nat.le_of_ble_eq_true rfl⟩) hP hD hS hA [1, 2, 3, 4] [0] [0, 1, 2, 3, 4] rfl rfl (by decide) (by decide) rfl (by decide) (fun H locs hP hD hS => ?_)
  refine lv_iconst (v := 1) hx hb dX4_exchange_23 (by decide) ?_
  exact xk_zret hx hb hr hlocks hP hD hS (rfl) (rfl) (rfl) dX4_exchange_24

abbrev rm_X4_number_no : Room := { frames := 3, cells := 0, slots := 0, locals := 55 }
theorem in_X4_number_no_X4 : ∀ w ∈ u_ws RX4 TX4 5, w ∈ wsX4_number := by decide +kernel
set_option maxHeartbeats 4000000 in
set_option maxRecDepth 100000 in
theorem ct_X4_number_no (l : Launch) (D : va_G) (cyI cyZ : ClassId) (d0 s0 t0 r0 q0 t1 t2 t3 : Nat) (sz : Nat) (bk : Int32) (nn : Nat) (nu sp ne : Nat → Int32) (x : Int32) (hn2 : nn ≤ 8) (hno : ¬ st_has nn x) : Met l yX4_number wsX4_number rm_X4_number_no (xk_Pc D cyI cyZ [.ref d0, .int x] [(d0, .inr (4, [.ref s0, .ref t0, .ref r0, .ref q0, .int bk])), (t0, .inr (3, [.ref t1, .ref t2, .ref t3, .int (nI nn)])), (t1, .inl (cyI, 64, .inl nu)), (t2, .inl (cyI, 64, .inl sp)), (t3, .inl (cyI, 225, .inl ne))] sz) (xk_Qi D (va_A [(d0, .inr (4, [.ref s0, .ref t0, .ref r0, .ref q0, .int bk])), (t0, .inr (3, [.ref t1, .ref t2, .ref t3, .int (nI nn)])), (t1, .inl (cyI, 64, .inl nu)), (t2, .inl (cyI, 64, .inl sp)), (t3, .inl (cyI, 225, .inl ne))] sz) (-1) [(d0, .inr (4, [.ref s0, .ref t0, .ref r0, .ref q0, .int bk])), (t0, .inr (3, [.ref t1, .ref t2, .ref t3, .int (nI nn)])), (t1, .inl (cyI, 64, .inl nu)), (t2, .inl (cyI, 64, .inl sp)), (t3, .inl (cyI, 225, .inl ne))]) 0 0 (va_A [(d0, .inr (4, [.ref s0, .ref t0, .ref r0, .ref q0, .int bk])), (t0, .inr (3, [.ref t1, .ref t2, .ref t3, .int (nI nn)])), (t1, .inl (cyI, 64, .inl nu)), (t2, .inl (cyI, 64, .inl sp)), (t3, .inl (cyI, 225, .inl ne))] sz) := by
  refine xk_of (own := RX4) (cc := cX4_number) (maxL := 2) (ret := (some .int)) (Qc := fun A => xk_Qi D A (-1) [(d0, .inr (4, [.ref s0, .ref t0, .ref r0, .ref q0, .int bk])), (t0, .inr (3, [.ref t1, .ref t2, .ref t3, .int (nI nn)])), (t1, .inl (cyI, 64, .inl nu)), (t2, .inl (cyI, 64, .inl sp)), (t3, .inl (cyI, 225, .inl ne))]) (by decide) rfl rfl (Nat.le_of_ble_eq_true rfl) ?_
  intro p e s m below meth c A ls hx hb hr hml hown hlocks hin hts hA hP hK hN hD hS hl
  have hC0 := xk_fix hx hb hml hown hts
  have hl : lv_has ls 2 [(0, .ref d0), (1, .int x)] := hl
  have hf19 := hts (.fieldLink RX4 19 "DotPress" "steps" "LDotPress$Steps;") (by decide +kernel)
  refine lv_aload_n hx hb dX4_number_0 rfl (lv_at hl 0 rfl) ?_
  refine va_get (D := D) (ci := 4) (v := .ref t0) (C := RX4) (T := TX4) (N := 5) hx hb hts in_X4_number_no_X4 hown hK hP 0 rfl rfl 1 (by decide) hf19 (fun _ h9 => h9) rfl dX4_number_1 ?_
  refine lv_iload_n hx hb dX4_number_4 rfl (lv_at hl 1 rfl) ?_
  have hPc := hP.sub (ws' := [(t0, .inr (3, [.ref t1, .ref t2, .ref t3, .int (nI nn)])), (t1, .inl (cyI, 64, .inl nu)), (t2, .inl (cyI, 64, .inl sp)), (t3, .inl (cyI, 225, .inl ne))]) [1, 2, 3, 4] rfl
  have hDc := hD.sub (ws' := [(t0, .inr (3, [.ref t1, .ref t2, .ref t3, .int (nI nn)])), (t1, .inl (cyI, 64, .inl nu)), (t2, .inl (cyI, 64, .inl sp)), (t3, .inl (cyI, 225, .inl ne))]) [1, 2, 3, 4] (by decide) rfl
  refine xk_calli (wr := [(d0, .inr (4, [.ref s0, .ref t0, .ref r0, .ref q0, .int bk]))]) (w2 := [(d0, .inr (4, [.ref s0, .ref t0, .ref r0, .ref q0, .int bk])), (t0, .inr (3, [.ref t1, .ref t2, .ref t3, .int (nI nn)])), (t1, .inl (cyI, 64, .inl nu)), (t2, .inl (cyI, 64, .inl sp)), (t3, .inl (cyI, 225, .inl ne))]) (va_runV (As := [.int x]) (rest := []) hC0 (ct_X3_has l D cyI cyZ t0 t1 t2 t3 _ nn nu sp ne x (by first | assumption | omega)) (cwV 1 hts gX4_number_X3_has rfl rfl rfl (by decide +kernel) ⟨Nat.le_of_ble_eq_true rfl, Nat.le_of_ble_eq_true rfl⟩) ⟨xk_blind, va_recv hK hPc (ci := 3) (q0 := 0) rfl rfl, xk_pre hK hN hPc hDc⟩ rfl rfl hl.1 rfl (lv_room (Nat.le_of_ble_eq_true rfl)) dX4_number_5 ⟨Nat.le_of_ble_eq_true rfl, Nat.le_of_ble_eq_true rfl⟩) hP hD hS hA [1, 2, 3, 4] [0] [0, 1, 2, 3, 4] rfl rfl (by decide) (by decide) rfl (by decide) (fun H locs hP hD hS => ?_)
  refine lv_if_eq (tgt := 22) hx hb dX4_number_8 (by decide) (fun c_8 => ?_) (fun c_8 => xk_ba c_8 (bI_z.mpr hno))
  have c_8 := bI_z.mp c_8
  refine lv_iconst (v := (-1)) hx hb dX4_number_22 (by decide) ?_
  exact xk_iret hx hb hr hlocks hP hD hS (rfl) (rfl) dX4_number_23

abbrev rm_X4_number_ok : Room := { frames := 4, cells := 0, slots := 0, locals := 76 }
theorem in_X4_number_ok_X4 : ∀ w ∈ u_ws RX4 TX4 5, w ∈ wsX4_number := by decide +kernel
set_option maxHeartbeats 4000000 in
set_option maxRecDepth 100000 in
theorem ct_X4_number_ok (l : Launch) (D : va_G) (cyI cyZ : ClassId) (d0 s0 t0 r0 q0 t1 t2 t3 : Nat) (sz : Nat) (bk : Int32) (nn : Nat) (nu sp ne : Nat → Int32) (j1 : Nat) (hn2 : nn ≤ 8) (hj1 : j1 < nn * nn) : Met l yX4_number wsX4_number rm_X4_number_ok (xk_Pc D cyI cyZ [.ref d0, .int (nI j1)] [(d0, .inr (4, [.ref s0, .ref t0, .ref r0, .ref q0, .int bk])), (t0, .inr (3, [.ref t1, .ref t2, .ref t3, .int (nI nn)])), (t1, .inl (cyI, 64, .inl nu)), (t2, .inl (cyI, 64, .inl sp)), (t3, .inl (cyI, 225, .inl ne))] sz) (xk_Qi D (va_A [(d0, .inr (4, [.ref s0, .ref t0, .ref r0, .ref q0, .int bk])), (t0, .inr (3, [.ref t1, .ref t2, .ref t3, .int (nI nn)])), (t1, .inl (cyI, 64, .inl nu)), (t2, .inl (cyI, 64, .inl sp)), (t3, .inl (cyI, 225, .inl ne))] sz) (nu j1) [(d0, .inr (4, [.ref s0, .ref t0, .ref r0, .ref q0, .int bk])), (t0, .inr (3, [.ref t1, .ref t2, .ref t3, .int (nI nn)])), (t1, .inl (cyI, 64, .inl nu)), (t2, .inl (cyI, 64, .inl sp)), (t3, .inl (cyI, 225, .inl ne))]) 0 0 (va_A [(d0, .inr (4, [.ref s0, .ref t0, .ref r0, .ref q0, .int bk])), (t0, .inr (3, [.ref t1, .ref t2, .ref t3, .int (nI nn)])), (t1, .inl (cyI, 64, .inl nu)), (t2, .inl (cyI, 64, .inl sp)), (t3, .inl (cyI, 225, .inl ne))] sz) := by
  refine xk_of (own := RX4) (cc := cX4_number) (maxL := 2) (ret := (some .int)) (Qc := fun A => xk_Qi D A (nu j1) [(d0, .inr (4, [.ref s0, .ref t0, .ref r0, .ref q0, .int bk])), (t0, .inr (3, [.ref t1, .ref t2, .ref t3, .int (nI nn)])), (t1, .inl (cyI, 64, .inl nu)), (t2, .inl (cyI, 64, .inl sp)), (t3, .inl (cyI, 225, .inl ne))]) (by decide) rfl rfl (Nat.le_of_ble_eq_true rfl) ?_
  intro p e s m below meth c A ls hx hb hr hml hown hlocks hin hts hA hP hK hN hD hS hl
  have hC0 := xk_fix hx hb hml hown hts
  have hl : lv_has ls 2 [(0, .ref d0), (1, .int (nI j1))] := hl
  have hf19 := hts (.fieldLink RX4 19 "DotPress" "steps" "LDotPress$Steps;") (by decide +kernel)
  refine lv_aload_n hx hb dX4_number_0 rfl (lv_at hl 0 rfl) ?_
  refine va_get (D := D) (ci := 4) (v := .ref t0) (C := RX4) (T := TX4) (N := 5) hx hb hts in_X4_number_ok_X4 hown hK hP 0 rfl rfl 1 (by decide) hf19 (fun _ h9 => h9) rfl dX4_number_1 ?_
  refine lv_iload_n hx hb dX4_number_4 rfl (lv_at hl 1 rfl) ?_
  have hPc := hP.sub (ws' := [(t0, .inr (3, [.ref t1, .ref t2, .ref t3, .int (nI nn)])), (t1, .inl (cyI, 64, .inl nu)), (t2, .inl (cyI, 64, .inl sp)), (t3, .inl (cyI, 225, .inl ne))]) [1, 2, 3, 4] rfl
  have hDc := hD.sub (ws' := [(t0, .inr (3, [.ref t1, .ref t2, .ref t3, .int (nI nn)])), (t1, .inl (cyI, 64, .inl nu)), (t2, .inl (cyI, 64, .inl sp)), (t3, .inl (cyI, 225, .inl ne))]) [1, 2, 3, 4] (by decide) rfl
  refine xk_calli (wr := [(d0, .inr (4, [.ref s0, .ref t0, .ref r0, .ref q0, .int bk]))]) (w2 := [(d0, .inr (4, [.ref s0, .ref t0, .ref r0, .ref q0, .int bk])), (t0, .inr (3, [.ref t1, .ref t2, .ref t3, .int (nI nn)])), (t1, .inl (cyI, 64, .inl nu)), (t2, .inl (cyI, 64, .inl sp)), (t3, .inl (cyI, 225, .inl ne))]) (va_runV (As := [.int (nI j1)]) (rest := []) hC0 (ct_X3_has l D cyI cyZ t0 t1 t2 t3 _ nn nu sp ne (nI j1) (by first | assumption | omega)) (cwV 1 hts gX4_number_X3_has rfl rfl rfl (by decide +kernel) ⟨Nat.le_of_ble_eq_true rfl, Nat.le_of_ble_eq_true rfl⟩) ⟨xk_blind, va_recv hK hPc (ci := 3) (q0 := 0) rfl rfl, xk_pre hK hN hPc hDc⟩ rfl rfl hl.1 rfl (lv_room (Nat.le_of_ble_eq_true rfl)) dX4_number_5 ⟨Nat.le_of_ble_eq_true rfl, Nat.le_of_ble_eq_true rfl⟩) hP hD hS hA [1, 2, 3, 4] [0] [0, 1, 2, 3, 4] rfl rfl (by decide) (by decide) rfl (by decide) (fun H locs hP hD hS => ?_)
  refine lv_if_eq (tgt := 22) hx hb dX4_number_8 (by decide) (fun c_8 => xk_ab c_8 (bI_nz.mpr (st_has_in hn2 hj1))) (fun c_8 => ?_)
  have c_8 := bI_nz.mp c_8
  refine lv_aload_n hx hb dX4_number_11 rfl (lv_at hl 0 rfl) ?_
  refine va_get (D := D) (ci := 4) (v := .ref t0) (C := RX4) (T := TX4) (N := 5) hx hb hts in_X4_number_ok_X4 hown hK hP 0 rfl rfl 1 (by decide) hf19 (fun _ h9 => h9) rfl dX4_number_12 ?_
  refine lv_iload_n hx hb dX4_number_15 rfl (lv_at hl 1 rfl) ?_
  have hPc := hP.sub (ws' := [(t0, .inr (3, [.ref t1, .ref t2, .ref t3, .int (nI nn)])), (t1, .inl (cyI, 64, .inl nu)), (t2, .inl (cyI, 64, .inl sp)), (t3, .inl (cyI, 225, .inl ne))]) [1, 2, 3, 4] rfl
  have hDc := hD.sub (ws' := [(t0, .inr (3, [.ref t1, .ref t2, .ref t3, .int (nI nn)])), (t1, .inl (cyI, 64, .inl nu)), (t2, .inl (cyI, 64, .inl sp)), (t3, .inl (cyI, 225, .inl ne))]) [1, 2, 3, 4] (by decide) rfl
  refine xk_calli (wr := [(d0, .inr (4, [.ref s0, .ref t0, .ref r0, .ref q0, .int bk]))]) (w2 := [(d0, .inr (4, [.ref s0, .ref t0, .ref r0, .ref q0, .int bk])), (t0, .inr (3, [.ref t1, .ref t2, .ref t3, .int (nI nn)])), (t1, .inl (cyI, 64, .inl nu)), (t2, .inl (cyI, 64, .inl sp)), (t3, .inl (cyI, 225, .inl ne))]) (va_runV (As := [.int (nI j1)]) (rest := []) hC0 (ct_X3_numberAt l D cyI cyZ t0 t1 t2 t3 _ nn nu sp ne j1 (by first | assumption | omega) (by first | assumption | omega)) (cwV 1 hts gX4_number_X3_numberAt rfl rfl rfl (by decide +kernel) ⟨Nat.le_of_ble_eq_true rfl, Nat.le_of_ble_eq_true rfl⟩) ⟨xk_blind, va_recv hK hPc (ci := 3) (q0 := 0) rfl rfl, xk_pre hK hN hPc hDc⟩ rfl rfl hl.1 rfl (lv_room (Nat.le_of_ble_eq_true rfl)) dX4_number_16 ⟨Nat.le_of_ble_eq_true rfl, Nat.le_of_ble_eq_true rfl⟩) hP hD hS hA [1, 2, 3, 4] [0] [0, 1, 2, 3, 4] rfl rfl (by decide) (by decide) rfl (by decide) (fun H locs hP hD hS => ?_)
  refine lv_goto (tgt := 23) hx hb dX4_number_19 (by decide) ?_
  exact xk_iret hx hb hr hlocks hP hD hS (rfl) (rfl) dX4_number_23

abbrev rm_X4_ramp_no : Room := { frames := 2, cells := 0, slots := 0, locals := 46 }
theorem in_X4_ramp_no_X4 : ∀ w ∈ u_ws RX4 TX4 5, w ∈ wsX4_ramp := by decide +kernel
set_option maxHeartbeats 4000000 in
set_option maxRecDepth 100000 in
theorem ct_X4_ramp_no (l : Launch) (D : va_G) (cyI cyZ : ClassId) (d0 s0 t0 r0 q0 s1 s2 : Nat) (sz : Nat) (bk : Int32) (Wd Hh : Nat) (g ln : Nat → Int32) (x y w h v v1 : Int32) (hno : ¬ (sh_box Wd Hh x y w h ∧ (¬ v < 0 ∧ ¬ 255 < v) ∧ ¬ v1 < (-255) ∧ ¬ 255 < v1)) : Met l yX4_ramp wsX4_ramp rm_X4_ramp_no (xk_Pc D cyI cyZ [.ref d0, .int x, .int y, .int w, .int h, .int v, .int v1] [(d0, .inr (4, [.ref s0, .ref t0, .ref r0, .ref q0, .int bk])), (s0, .inr (2, [.ref s1, .ref s2, .int (nI Wd), .int (nI Hh)])), (s1, .inl (cyI, 576, .inl g)), (s2, .inl (cyZ, 576, .inl ln))] sz) (xk_Qi D (va_A [(d0, .inr (4, [.ref s0, .ref t0, .ref r0, .ref q0, .int bk])), (s0, .inr (2, [.ref s1, .ref s2, .int (nI Wd), .int (nI Hh)])), (s1, .inl (cyI, 576, .inl g)), (s2, .inl (cyZ, 576, .inl ln))] sz) 0 [(d0, .inr (4, [.ref s0, .ref t0, .ref r0, .ref q0, .int bk])), (s0, .inr (2, [.ref s1, .ref s2, .int (nI Wd), .int (nI Hh)])), (s1, .inl (cyI, 576, .inl g)), (s2, .inl (cyZ, 576, .inl ln))]) 0 0 (va_A [(d0, .inr (4, [.ref s0, .ref t0, .ref r0, .ref q0, .int bk])), (s0, .inr (2, [.ref s1, .ref s2, .int (nI Wd), .int (nI Hh)])), (s1, .inl (cyI, 576, .inl g)), (s2, .inl (cyZ, 576, .inl ln))] sz) := by
  refine xk_of (own := RX4) (cc := cX4_ramp) (maxL := 11) (ret := (some .boolean)) (Qc := fun A => xk_Qi D A 0 [(d0, .inr (4, [.ref s0, .ref t0, .ref r0, .ref q0, .int bk])), (s0, .inr (2, [.ref s1, .ref s2, .int (nI Wd), .int (nI Hh)])), (s1, .inl (cyI, 576, .inl g)), (s2, .inl (cyZ, 576, .inl ln))]) (by decide) rfl rfl (Nat.le_of_ble_eq_true rfl) ?_
  intro p e s m below meth c A ls hx hb hr hml hown hlocks hin hts hA hP hK hN hD hS hl
  have hC0 := xk_fix hx hb hml hown hts
  have hl : lv_has ls 11 [(0, .ref d0), (1, .int x), (2, .int y), (3, .int w), (4, .int h), (5, .int v), (6, .int v1)] := hl
  have hf10 := hts (.fieldLink RX4 10 "DotPress" "sheet" "LDotPress$Sheet;") (by decide +kernel)
  refine lv_aload_n hx hb dX4_ramp_0 rfl (lv_at hl 0 rfl) ?_
  refine va_get (D := D) (ci := 4) (v := .ref s0) (C := RX4) (T := TX4) (N := 5) hx hb hts in_X4_ramp_no_X4 hown hK hP 0 rfl rfl 0 (by decide) hf10 (fun _ h9 => h9) rfl dX4_ramp_1 ?_
  refine lv_iload_n hx hb dX4_ramp_4 rfl (lv_at hl 1 rfl) ?_
  refine lv_iload_n hx hb dX4_ramp_5 rfl (lv_at hl 2 rfl) ?_
  refine lv_iload_n hx hb dX4_ramp_6 rfl (lv_at hl 3 rfl) ?_
  refine lv_iload hx hb dX4_ramp_7 (lv_at hl 4 rfl) ?_
  have hPc := hP.sub (ws' := [(s0, .inr (2, [.ref s1, .ref s2, .int (nI Wd), .int (nI Hh)])), (s1, .inl (cyI, 576, .inl g)), (s2, .inl (cyZ, 576, .inl ln))]) [1, 2, 3] rfl
  have hDc := hD.sub (ws' := [(s0, .inr (2, [.ref s1, .ref s2, .int (nI Wd), .int (nI Hh)])), (s1, .inl (cyI, 576, .inl g)), (s2, .inl (cyZ, 576, .inl ln))]) [1, 2, 3] (by decide) rfl
  refine xk_calli (wr := [(d0, .inr (4, [.ref s0, .ref t0, .ref r0, .ref q0, .int bk]))]) (w2 := [(d0, .inr (4, [.ref s0, .ref t0, .ref r0, .ref q0, .int bk])), (s0, .inr (2, [.ref s1, .ref s2, .int (nI Wd), .int (nI Hh)])), (s1, .inl (cyI, 576, .inl g)), (s2, .inl (cyZ, 576, .inl ln))]) (va_runV (As := [.int x, .int y, .int w, .int h]) (rest := []) hC0 (ct_X2_hasBox l D cyI cyZ s0 s1 s2 _ Wd Hh g ln x y w h ) (cwV 4 hts gX4_ramp_X2_hasBox rfl rfl rfl (by decide +kernel) ⟨Nat.le_of_ble_eq_true rfl, Nat.le_of_ble_eq_true rfl⟩) ⟨xk_blind, va_recv hK hPc (ci := 2) (q0 := 0) rfl rfl, xk_pre hK hN hPc hDc⟩ rfl rfl hl.1 rfl (lv_room (Nat.le_of_ble_eq_true rfl)) dX4_ramp_9 ⟨Nat.le_of_ble_eq_true rfl, Nat.le_of_ble_eq_true rfl⟩) hP hD hS hA [1, 2, 3] [0] [0, 1, 2, 3] rfl rfl (by decide) (by decide) rfl (by decide) (fun H locs hP hD hS => ?_)
  refine lv_if_eq (tgt := 39) hx hb dX4_ramp_12 (by decide) (fun c_12 => ?_) (fun c_12 => ?_)
  · have c_12 := bI_z.mp c_12
    refine lv_iconst (v := 0) hx hb dX4_ramp_39 (by decide) ?_
    exact xk_zret hx hb hr hlocks hP hD hS (rfl) (rfl) (rfl) dX4_ramp_40
  · have c_12 := bI_nz.mp c_12
    refine lv_iload hx hb dX4_ramp_15 (lv_at hl 5 rfl) ?_
    have hPc := hP.sub (ws' := []) [] rfl
    have hDc := hD.sub (ws' := []) [] (by decide) rfl
    refine xk_calli (wr := [(d0, .inr (4, [.ref s0, .ref t0, .ref r0, .ref q0, .int bk])), (s0, .inr (2, [.ref s1, .ref s2, .int (nI Wd), .int (nI Hh)])), (s1, .inl (cyI, 576, .inl g)), (s2, .inl (cyZ, 576, .inl ln))]) (w2 := [(d0, .inr (4, [.ref s0, .ref t0, .ref r0, .ref q0, .int bk])), (s0, .inr (2, [.ref s1, .ref s2, .int (nI Wd), .int (nI Hh)])), (s1, .inl (cyI, 576, .inl g)), (s2, .inl (cyZ, 576, .inl ln))]) (va_runS (As := [.int v]) (rest := []) hC0 (ct_X4_isGrey l D cyI cyZ  _ v ) (va_cwS 1 hts gX4_ramp_X4_isGrey rfl rfl rfl (by decide +kernel) ⟨Nat.le_of_ble_eq_true rfl, Nat.le_of_ble_eq_true rfl⟩) ⟨xk_blind, xk_pre hK hN hPc hDc⟩ rfl rfl hl.1 rfl (lv_room (Nat.le_of_ble_eq_true rfl)) dX4_ramp_17 ⟨Nat.le_of_ble_eq_true rfl, Nat.le_of_ble_eq_true rfl⟩) hP hD hS hA [] [0, 1, 2, 3] [0, 1, 2, 3] rfl rfl (by decide) (by decide) rfl (by decide) (fun H locs hP hD hS => ?_)
    refine lv_if_eq (tgt := 39) hx hb dX4_ramp_20 (by decide) (fun c_20 => ?_) (fun c_20 => ?_)
    · have c_20 := bI_z.mp c_20
      refine lv_iconst (v := 0) hx hb dX4_ramp_39 (by decide) ?_
      exact xk_zret hx hb hr hlocks hP hD hS (rfl) (rfl) (rfl) dX4_ramp_40
    · have c_20 := bI_nz.mp c_20
      refine lv_iload hx hb dX4_ramp_23 (lv_at hl 6 rfl) ?_
      refine lv_sipush (v := (-255)) hx hb dX4_ramp_25 (by decide) ?_
      refine lv_icmp_lt (tgt := 39) hx hb dX4_ramp_28 (by decide) (fun c_28 => ?_) (fun c_28 => ?_)
      · refine lv_iconst (v := 0) hx hb dX4_ramp_39 (by decide) ?_
        exact xk_zret hx hb hr hlocks hP hD hS (rfl) (rfl) (rfl) dX4_ramp_40
      · refine lv_iload hx hb dX4_ramp_31 (lv_at hl 6 rfl) ?_
        refine lv_sipush (v := 255) hx hb dX4_ramp_33 (by decide) ?_
        refine lv_icmp_le (tgt := 41) hx hb dX4_ramp_36 (by decide) (fun c_36 => ?_) (fun c_36 => ?_)
        · exact absurd ⟨c_12, c_20, c_28, fun h => absurd h (Int32.not_lt.mpr c_36)⟩ hno
        · refine lv_iconst (v := 0) hx hb dX4_ramp_39 (by decide) ?_
          exact xk_zret hx hb hr hlocks hP hD hS (rfl) (rfl) (rfl) dX4_ramp_40

abbrev rm_X4_ramp_ok : Room := { frames := 2, cells := 0, slots := 0, locals := 46 }
theorem in_X4_ramp_ok_X4 : ∀ w ∈ u_ws RX4 TX4 5, w ∈ wsX4_ramp := by decide +kernel
set_option maxHeartbeats 4000000 in
set_option maxRecDepth 100000 in
theorem ct_X4_ramp_ok (l : Launch) (D : va_G) (cyI cyZ : ClassId) (d0 s0 t0 r0 q0 s1 s2 : Nat) (sz : Nat) (bk : Int32) (Wd Hh : Nat) (g ln : Nat → Int32) (jx jy bw bh : Nat) (v v1 : Int32) (hw1 : 1 ≤ Wd) (hw2 : Wd ≤ 24) (hh1 : 1 ≤ Hh) (hh2 : Hh ≤ 24) (b1 : 1 ≤ bw) (b2 : jx + bw ≤ Wd) (b3 : 1 ≤ bh) (b4 : jy + bh ≤ Hh) (hv : ¬ v < 0 ∧ ¬ 255 < v) (hv1 : ¬ v1 < (-255) ∧ ¬ 255 < v1) : Met l yX4_ramp wsX4_ramp rm_X4_ramp_ok (xk_Pc D cyI cyZ [.ref d0, .int (nI jx), .int (nI jy), .int (nI bw), .int (nI bh), .int v, .int v1] [(d0, .inr (4, [.ref s0, .ref t0, .ref r0, .ref q0, .int bk])), (s0, .inr (2, [.ref s1, .ref s2, .int (nI Wd), .int (nI Hh)])), (s1, .inl (cyI, 576, .inl g)), (s2, .inl (cyZ, 576, .inl ln))] sz) (xk_Qi D (va_A [(d0, .inr (4, [.ref s0, .ref t0, .ref r0, .ref q0, .int bk])), (s0, .inr (2, [.ref s1, .ref s2, .int (nI Wd), .int (nI Hh)])), (s1, .inl (cyI, 576, .inl g)), (s2, .inl (cyZ, 576, .inl ln))] sz) 1 [(d0, .inr (4, [.ref s0, .ref t0, .ref r0, .ref q0, .int bk])), (s0, .inr (2, [.ref s1, .ref s2, .int (nI Wd), .int (nI Hh)])), (s1, .inl (cyI, 576, .inl (rpo g jx jy bh v v1 bw))), (s2, .inl (cyZ, 576, .inl ln))]) 0 0 (va_A [(d0, .inr (4, [.ref s0, .ref t0, .ref r0, .ref q0, .int bk])), (s0, .inr (2, [.ref s1, .ref s2, .int (nI Wd), .int (nI Hh)])), (s1, .inl (cyI, 576, .inl g)), (s2, .inl (cyZ, 576, .inl ln))] sz) := by
  refine xk_of (own := RX4) (cc := cX4_ramp) (maxL := 11) (ret := (some .boolean)) (Qc := fun A => xk_Qi D A 1 [(d0, .inr (4, [.ref s0, .ref t0, .ref r0, .ref q0, .int bk])), (s0, .inr (2, [.ref s1, .ref s2, .int (nI Wd), .int (nI Hh)])), (s1, .inl (cyI, 576, .inl (rpo g jx jy bh v v1 bw))), (s2, .inl (cyZ, 576, .inl ln))]) (by decide) rfl rfl (Nat.le_of_ble_eq_true rfl) ?_
  intro p e s m below meth c A ls hx hb hr hml hown hlocks hin hts hA hP hK hN hD hS hl
  have hC0 := xk_fix hx hb hml hown hts
  have hl : lv_has ls 11 [(0, .ref d0), (1, .int (nI jx)), (2, .int (nI jy)), (3, .int (nI bw)), (4, .int (nI bh)), (5, .int v), (6, .int v1)] := hl
  have hf10 := hts (.fieldLink RX4 10 "DotPress" "sheet" "LDotPress$Sheet;") (by decide +kernel)
  refine lv_aload_n hx hb dX4_ramp_0 rfl (lv_at hl 0 rfl) ?_
  refine va_get (D := D) (ci := 4) (v := .ref s0) (C := RX4) (T := TX4) (N := 5) hx hb hts in_X4_ramp_ok_X4 hown hK hP 0 rfl rfl 0 (by decide) hf10 (fun _ h9 => h9) rfl dX4_ramp_1 ?_
  refine lv_iload_n hx hb dX4_ramp_4 rfl (lv_at hl 1 rfl) ?_
  refine lv_iload_n hx hb dX4_ramp_5 rfl (lv_at hl 2 rfl) ?_
  refine lv_iload_n hx hb dX4_ramp_6 rfl (lv_at hl 3 rfl) ?_
  refine lv_iload hx hb dX4_ramp_7 (lv_at hl 4 rfl) ?_
  have hPc := hP.sub (ws' := [(s0, .inr (2, [.ref s1, .ref s2, .int (nI Wd), .int (nI Hh)])), (s1, .inl (cyI, 576, .inl g)), (s2, .inl (cyZ, 576, .inl ln))]) [1, 2, 3] rfl
  have hDc := hD.sub (ws' := [(s0, .inr (2, [.ref s1, .ref s2, .int (nI Wd), .int (nI Hh)])), (s1, .inl (cyI, 576, .inl g)), (s2, .inl (cyZ, 576, .inl ln))]) [1, 2, 3] (by decide) rfl
  refine xk_calli (wr := [(d0, .inr (4, [.ref s0, .ref t0, .ref r0, .ref q0, .int bk]))]) (w2 := [(d0, .inr (4, [.ref s0, .ref t0, .ref r0, .ref q0, .int bk])), (s0, .inr (2, [.ref s1, .ref s2, .int (nI Wd), .int (nI Hh)])), (s1, .inl (cyI, 576, .inl g)), (s2, .inl (cyZ, 576, .inl ln))]) (va_runV (As := [.int (nI jx), .int (nI jy), .int (nI bw), .int (nI bh)]) (rest := []) hC0 (ct_X2_hasBox l D cyI cyZ s0 s1 s2 _ Wd Hh g ln (nI jx) (nI jy) (nI bw) (nI bh) ) (cwV 4 hts gX4_ramp_X2_hasBox rfl rfl rfl (by decide +kernel) ⟨Nat.le_of_ble_eq_true rfl, Nat.le_of_ble_eq_true rfl⟩) ⟨xk_blind, va_recv hK hPc (ci := 2) (q0 := 0) rfl rfl, xk_pre hK hN hPc hDc⟩ rfl rfl hl.1 rfl (lv_room (Nat.le_of_ble_eq_true rfl)) dX4_ramp_9 ⟨Nat.le_of_ble_eq_true rfl, Nat.le_of_ble_eq_true rfl⟩) hP hD hS hA [1, 2, 3] [0] [0, 1, 2, 3] rfl rfl (by decide) (by decide) rfl (by decide) (fun H locs hP hD hS => ?_)
  refine lv_if_eq (tgt := 39) hx hb dX4_ramp_12 (by decide) (fun c_12 => xk_ab c_12 (bI_nz.mpr (sh_box_in hw2 hh2 b1 b2 b3 b4))) (fun c_12 => ?_)
  have c_12 := bI_nz.mp c_12
  refine lv_iload hx hb dX4_ramp_15 (lv_at hl 5 rfl) ?_
  have hPc := hP.sub (ws' := []) [] rfl
  have hDc := hD.sub (ws' := []) [] (by decide) rfl
  refine xk_calli (wr := [(d0, .inr (4, [.ref s0, .ref t0, .ref r0, .ref q0, .int bk])), (s0, .inr (2, [.ref s1, .ref s2, .int (nI Wd), .int (nI Hh)])), (s1, .inl (cyI, 576, .inl g)), (s2, .inl (cyZ, 576, .inl ln))]) (w2 := [(d0, .inr (4, [.ref s0, .ref t0, .ref r0, .ref q0, .int bk])), (s0, .inr (2, [.ref s1, .ref s2, .int (nI Wd), .int (nI Hh)])), (s1, .inl (cyI, 576, .inl g)), (s2, .inl (cyZ, 576, .inl ln))]) (va_runS (As := [.int v]) (rest := []) hC0 (ct_X4_isGrey l D cyI cyZ  _ v ) (va_cwS 1 hts gX4_ramp_X4_isGrey rfl rfl rfl (by decide +kernel) ⟨Nat.le_of_ble_eq_true rfl, Nat.le_of_ble_eq_true rfl⟩) ⟨xk_blind, xk_pre hK hN hPc hDc⟩ rfl rfl hl.1 rfl (lv_room (Nat.le_of_ble_eq_true rfl)) dX4_ramp_17 ⟨Nat.le_of_ble_eq_true rfl, Nat.le_of_ble_eq_true rfl⟩) hP hD hS hA [] [0, 1, 2, 3] [0, 1, 2, 3] rfl rfl (by decide) (by decide) rfl (by decide) (fun H locs hP hD hS => ?_)
  refine lv_if_eq (tgt := 39) hx hb dX4_ramp_20 (by decide) (fun c_20 => xk_ab c_20 (bI_nz.mpr hv)) (fun c_20 => ?_)
  have c_20 := bI_nz.mp c_20
  refine lv_iload hx hb dX4_ramp_23 (lv_at hl 6 rfl) ?_
  refine lv_sipush (v := (-255)) hx hb dX4_ramp_25 (by decide) ?_
  refine lv_icmp_lt (tgt := 39) hx hb dX4_ramp_28 (by decide) (fun c_28 => xk_ab c_28 (hv1.1)) (fun c_28 => ?_)
  refine lv_iload hx hb dX4_ramp_31 (lv_at hl 6 rfl) ?_
  refine lv_sipush (v := 255) hx hb dX4_ramp_33 (by decide) ?_
  refine lv_icmp_le (tgt := 41) hx hb dX4_ramp_36 (by decide) (fun c_36 => ?_) (fun c_36 => xk_ba c_36 (Int32.not_lt.mp hv1.2))
  refine lv_iconst (v := 0) hx hb dX4_ramp_41 (by decide) ?_
  refine lv_istore (lv' := [(7, .int 0), (0, .ref d0), (1, .int (nI jx)), (2, .int (nI jy)), (3, .int (nI bw)), (4, .int (nI bh)), (5, .int v), (6, .int v1)]) hx hb dX4_ramp_42 hl (by decide) rfl (fun ls hl => ?_)
  have L44 : ∀ (n i : Nat), i + n = bw → ∀ (H : Heap) (locs : List Loc) (ls : Array Slot), va_P D vwCl [(d0, .inr (4, [.ref s0, .ref t0, .ref r0, .ref q0, .int bk])), (s0, .inr (2, [.ref s1, .ref s2, .int (nI Wd), .int (nI Hh)])), (s1, .inl (cyI, 576, .inl (rpo g jx jy bh v v1 i))), (s2, .inl (cyZ, 576, .inl ln))] H → va_D A [(d0, .inr (4, [.ref s0, .ref t0, .ref r0, .ref q0, .int bk])), (s0, .inr (2, [.ref s1, .ref s2, .int (nI Wd), .int (nI Hh)])), (s1, .inl (cyI, 576, .inl (rpo g jx jy bh v v1 i))), (s2, .inl (cyZ, 576, .inl ln))] → va_S A s.heap H locs → lv_has ls 11 [(0, .ref d0), (1, .int (nI jx)), (2, .int (nI jy)), (3, .int (nI bw)), (4, .int (nI bh)), (5, .int v), (6, .int v1), (7, .int (nI i))] → W p l e rm_X4_ramp_ok s m ([.ref d0, .int (nI jx), .int (nI jy), .int (nI bw), .int (nI bh), .int v, .int v1] : List Value).toArray below meth c H locs 0 0 (MQ below (xk_Qi D A 1 [(d0, .inr (4, [.ref s0, .ref t0, .ref r0, .ref q0, .int bk])), (s0, .inr (2, [.ref s1, .ref s2, .int (nI Wd), .int (nI Hh)])), (s1, .inl (cyI, 576, .inl (rpo g jx jy bh v v1 bw))), (s2, .inl (cyZ, 576, .inl ln))]) ([.ref d0, .int (nI jx), .int (nI jy), .int (nI bw), .int (nI bh), .int v, .int v1] : List Value).toArray s 0 0 A) (F0 m 44 ls []) := by
    intro n
    induction n with
    | zero =>
      intro i hk_44  H locs ls hP hD hS hl
      have hz_44 : bw = i := hk_44.symm
      subst hz_44
      refine lv_iload hx hb dX4_ramp_44 (lv_at hl 7 rfl) ?_
      refine lv_iload_n hx hb dX4_ramp_46 rfl (lv_at hl 3 rfl) ?_
      refine lv_icmp_ge (tgt := 113) hx hb dX4_ramp_47 (by decide) (fun c_47 => ?_) (fun c_47 => xk_ba c_47 (nI_le (Nat.le_refl _) (by omega)))
      refine lv_iconst (v := 1) hx hb dX4_ramp_113 (by decide) ?_
      exact xk_zret hx hb hr hlocks hP hD hS (rfl) (rfl) (rfl) dX4_ramp_114
    | succ n ih_44 =>
      intro i hk_44  H locs ls hP hD hS hl
      refine lv_iload hx hb dX4_ramp_44 (lv_at hl 7 rfl) ?_
      refine lv_iload_n hx hb dX4_ramp_46 rfl (lv_at hl 3 rfl) ?_
      refine lv_icmp_ge (tgt := 113) hx hb dX4_ramp_47 (by decide) (fun c_47 => xk_ab c_47 (nI_ge (by omega) (by omega))) (fun c_47 => ?_)
      refine lv_iload hx hb dX4_ramp_50 (lv_at hl 5 rfl) ?_
      refine lv_iload hx hb dX4_ramp_52 (lv_at hl 6 rfl) ?_
      refine lv_iload hx hb dX4_ramp_54 (lv_at hl 7 rfl) ?_
      refine lv_imul hx hb dX4_ramp_56 ?_
      refine lv_iadd hx hb dX4_ramp_57 ?_
      refine lv_istore (lv' := [(8, .int (v + (v1 * nI i))), (0, .ref d0), (1, .int (nI jx)), (2, .int (nI jy)), (3, .int (nI bw)), (4, .int (nI bh)), (5, .int v), (6, .int v1), (7, .int (nI i))]) hx hb dX4_ramp_58 hl (by decide) rfl (fun ls hl => ?_)
      refine lv_iconst (v := 0) hx hb dX4_ramp_60 (by decide) ?_
      refine lv_sipush (v := 255) hx hb dX4_ramp_61 (by decide) ?_
      refine lv_iload hx hb dX4_ramp_64 (lv_at hl 0 rfl) ?_
      refine va_mmin hx hb (hml.trans hl.1.symm) hown (hts (.methodLink RX4 64 Lib.Math.min.name) (by decide +kernel)) (hts (.static Lib.Math.min.name) (by decide +kernel)) (hts (.initialized "java/lang/Math") (by decide +kernel)) (hts (.code Lib.Math.min.name Lib.Math.min.code 2 (some .int)) (by decide +kernel)) (Nat.le_of_ble_eq_true rfl) (Nat.le_of_ble_eq_true rfl) (Nat.zero_le _) (Nat.zero_le _) dX4_ramp_66 ?_
      refine va_mmax hx hb (hml.trans hl.1.symm) hown (hts (.methodLink RX4 70 Lib.Math.max.name) (by decide +kernel)) (hts (.static Lib.Math.max.name) (by decide +kernel)) (hts (.initialized "java/lang/Math") (by decide +kernel)) (hts (.code Lib.Math.max.name Lib.Math.max.code 2 (some .int)) (by decide +kernel)) (Nat.le_of_ble_eq_true rfl) (Nat.le_of_ble_eq_true rfl) (Nat.zero_le _) (Nat.zero_le _) dX4_ramp_69 ?_
      refine xk_topi (y := (rpv v v1 i)) (rfl) ?_
      refine lv_istore (lv' := [(9, .int (rpv v v1 i)), (8, .int (v + (v1 * nI i))), (0, .ref d0), (1, .int (nI jx)), (2, .int (nI jy)), (3, .int (nI bw)), (4, .int (nI bh)), (5, .int v), (6, .int v1), (7, .int (nI i))]) hx hb dX4_ramp_72 hl (by decide) rfl (fun ls hl => ?_)
      refine lv_iconst (v := 0) hx hb dX4_ramp_74 (by decide) ?_
      refine lv_istore (lv' := [(10, .int 0), (9, .int (rpv v v1 i)), (8, .int (v + (v1 * nI i))), (0, .ref d0), (1, .int (nI jx)), (2, .int (nI jy)), (3, .int (nI bw)), (4, .int (nI bh)), (5, .int v), (6, .int v1), (7, .int (nI i))]) hx hb dX4_ramp_75 hl (by decide) rfl (fun ls hl => ?_)
      have L77 : ∀ (n j : Nat), j + n = bh → ∀ (H : Heap) (locs : List Loc) (ls : Array Slot), va_P D vwCl [(d0, .inr (4, [.ref s0, .ref t0, .ref r0, .ref q0, .int bk])), (s0, .inr (2, [.ref s1, .ref s2, .int (nI Wd), .int (nI Hh)])), (s1, .inl (cyI, 576, .inl (rpi (rpo g jx jy bh v v1 i) (jx + i) jy (rpv v v1 i) j))), (s2, .inl (cyZ, 576, .inl ln))] H → va_D A [(d0, .inr (4, [.ref s0, .ref t0, .ref r0, .ref q0, .int bk])), (s0, .inr (2, [.ref s1, .ref s2, .int (nI Wd), .int (nI Hh)])), (s1, .inl (cyI, 576, .inl (rpi (rpo g jx jy bh v v1 i) (jx + i) jy (rpv v v1 i) j))), (s2, .inl (cyZ, 576, .inl ln))] → va_S A s.heap H locs → lv_has ls 11 [(0, .ref d0), (1, .int (nI jx)), (2, .int (nI jy)), (3, .int (nI bw)), (4, .int (nI bh)), (5, .int v), (6, .int v1), (7, .int (nI i)), (8, .int (v + (v1 * nI i))), (9, .int (rpv v v1 i)), (10, .int (nI j))] → W p l e rm_X4_ramp_ok s m ([.ref d0, .int (nI jx), .int (nI jy), .int (nI bw), .int (nI bh), .int v, .int v1] : List Value).toArray below meth c H locs 0 0 (MQ below (xk_Qi D A 1 [(d0, .inr (4, [.ref s0, .ref t0, .ref r0, .ref q0, .int bk])), (s0, .inr (2, [.ref s1, .ref s2, .int (nI Wd), .int (nI Hh)])), (s1, .inl (cyI, 576, .inl (rpo g jx jy bh v v1 bw))), (s2, .inl (cyZ, 576, .inl ln))]) ([.ref d0, .int (nI jx), .int (nI jy), .int (nI bw), .int (nI bh), .int v, .int v1] : List Value).toArray s 0 0 A) (F0 m 77 ls []) := by
        intro n
        induction n with
        | zero =>
          intro j hk_77  H locs ls hP hD hS hl
          have hz_77 : bh = j := hk_77.symm
          subst hz_77
          refine lv_iload hx hb dX4_ramp_77 (lv_at hl 10 rfl) ?_
          refine lv_iload hx hb dX4_ramp_79 (lv_at hl 4 rfl) ?_
          refine lv_icmp_ge (tgt := 107) hx hb dX4_ramp_81 (by decide) (fun c_81 => ?_) (fun c_81 => xk_ba c_81 (nI_le (Nat.le_refl _) (by omega)))
          refine lv_iinc (v := nI (i + 1)) (lv' := [(7, .int (nI (i + 1))), (0, .ref d0), (1, .int (nI jx)), (2, .int (nI jy)), (3, .int (nI bw)), (4, .int (nI bh)), (5, .int v), (6, .int v1), (8, .int (v + (v1 * nI i))), (9, .int (rpv v v1 i)), (10, .int (nI bh))]) hx hb dX4_ramp_107 hl (k := 7) rfl (nI_1 _) (by decide) rfl (fun ls hl => ?_)
          refine lv_goto (tgt := 44) hx hb dX4_ramp_110 (by decide) ?_
          have eq_69 : (rpi (rpo g jx jy bh v v1 i) (jx + i) jy (rpv v v1 i) bh : Nat → Int32) = rpo g jx jy bh v v1 (i + 1) := rfl
          have eW : ([(d0, .inr (4, [.ref s0, .ref t0, .ref r0, .ref q0, .int bk])), (s0, .inr (2, [.ref s1, .ref s2, .int (nI Wd), .int (nI Hh)])), (s1, .inl (cyI, 576, .inl (rpi (rpo g jx jy bh v v1 i) (jx + i) jy (rpv v v1 i) bh))), (s2, .inl (cyZ, 576, .inl ln))] : va_W) = [(d0, .inr (4, [.ref s0, .ref t0, .ref r0, .ref q0, .int bk])), (s0, .inr (2, [.ref s1, .ref s2, .int (nI Wd), .int (nI Hh)])), (s1, .inl (cyI, 576, .inl (rpo g jx jy bh v v1 (i + 1)))), (s2, .inl (cyZ, 576, .inl ln))] := (congrArg (List.cons _) (congrArg (List.cons _) (congr (congrArg List.cons (congrArg (fun z => ((s1, (Sum.inl (cyI, 576, Sum.inl z) : va_E)) : Nat × va_E)) eq_69)) (congrArg (List.cons _) rfl))))
          rw [eW] at hP hD
          have hl := lv_sub (l' := [(0, .ref d0), (1, .int (nI jx)), (2, .int (nI jy)), (3, .int (nI bw)), (4, .int (nI bh)), (5, .int v), (6, .int v1), (7, .int (nI (i + 1)))]) hl [1, 2, 3, 4, 5, 6, 7, 0] rfl
          exact ih_44 (i + 1) (by omega)  _ _ _ hP hD hS hl
        | succ n ih_77 =>
          intro j hk_77  H locs ls hP hD hS hl
          refine lv_iload hx hb dX4_ramp_77 (lv_at hl 10 rfl) ?_
          refine lv_iload hx hb dX4_ramp_79 (lv_at hl 4 rfl) ?_
          refine lv_icmp_ge (tgt := 107) hx hb dX4_ramp_81 (by decide) (fun c_81 => xk_ab c_81 (nI_ge (by omega) (by omega))) (fun c_81 => ?_)
          refine lv_aload_n hx hb dX4_ramp_84 rfl (lv_at hl 0 rfl) ?_
          refine va_get (D := D) (ci := 4) (v := .ref s0) (C := RX4) (T := TX4) (N := 5) hx hb hts in_X4_ramp_ok_X4 hown hK hP 0 rfl rfl 0 (by decide) hf10 (fun _ h9 => h9) rfl dX4_ramp_85 ?_
          refine lv_iload_n hx hb dX4_ramp_88 rfl (lv_at hl 1 rfl) ?_
          refine lv_iload hx hb dX4_ramp_89 (lv_at hl 7 rfl) ?_
          refine lv_iadd hx hb dX4_ramp_91 ?_
          refine xk_topi (y := nI (jx + i)) (nI_add _ _) ?_
          refine lv_iload_n hx hb dX4_ramp_92 rfl (lv_at hl 2 rfl) ?_
          refine lv_iload hx hb dX4_ramp_93 (lv_at hl 10 rfl) ?_
          refine lv_iadd hx hb dX4_ramp_95 ?_
          refine xk_topi (y := nI (jy + j)) (nI_add _ _) ?_
          refine lv_iload hx hb dX4_ramp_96 (lv_at hl 9 rfl) ?_
          have hPc := hP.sub (ws' := [(s0, .inr (2, [.ref s1, .ref s2, .int (nI Wd), .int (nI Hh)])), (s1, .inl (cyI, 576, .inl (rpi (rpo g jx jy bh v v1 i) (jx + i) jy (rpv v v1 i) j))), (s2, .inl (cyZ, 576, .inl ln))]) [1, 2, 3] rfl
          have hDc := hD.sub (ws' := [(s0, .inr (2, [.ref s1, .ref s2, .int (nI Wd), .int (nI Hh)])), (s1, .inl (cyI, 576, .inl (rpi (rpo g jx jy bh v v1 i) (jx + i) jy (rpv v v1 i) j))), (s2, .inl (cyZ, 576, .inl ln))]) [1, 2, 3] (by decide) rfl
          refine xk_callv (wr := [(d0, .inr (4, [.ref s0, .ref t0, .ref r0, .ref q0, .int bk]))]) (w2 := [(d0, .inr (4, [.ref s0, .ref t0, .ref r0, .ref q0, .int bk])), (s0, .inr (2, [.ref s1, .ref s2, .int (nI Wd), .int (nI Hh)])), (s1, .inl (cyI, 576, .inl (upd (rpi (rpo g jx jy bh v v1 i) (jx + i) jy (rpv v v1 i) j) ((jy + j) * 24 + (jx + i)) (rpv v v1 i)))), (s2, .inl (cyZ, 576, .inl ln))]) (va_runV (As := [.int (nI (jx + i)), .int (nI (jy + j)), .int (rpv v v1 i)]) (rest := []) hC0 (ct_X2_setGrey l D cyI cyZ s0 s1 s2 _ Wd Hh (rpi (rpo g jx jy bh v v1 i) (jx + i) jy (rpv v v1 i) j) ln (jx + i) (jy + j) (rpv v v1 i) (hw2) (hh2) (by omega) (by omega)) (cwV 3 hts gX4_ramp_X2_setGrey rfl rfl rfl (by decide +kernel) ⟨Nat.le_of_ble_eq_true rfl, Nat.le_of_ble_eq_true rfl⟩) ⟨xk_blind, va_recv hK hPc (ci := 2) (q0 := 0) rfl rfl, xk_pre hK hN hPc hDc⟩ rfl rfl hl.1 rfl (lv_room (Nat.le_of_ble_eq_true rfl)) dX4_ramp_98 ⟨Nat.le_of_ble_eq_true rfl, Nat.le_of_ble_eq_true rfl⟩) hP hD hS hA [1, 2, 3] [0] [0, 1, 2, 3] rfl rfl (by decide) (by decide) rfl (by decide) (fun H locs hP hD hS => ?_)
          refine lv_iinc (v := nI (j + 1)) (lv' := [(10, .int (nI (j + 1))), (0, .ref d0), (1, .int (nI jx)), (2, .int (nI jy)), (3, .int (nI bw)), (4, .int (nI bh)), (5, .int v), (6, .int v1), (7, .int (nI i)), (8, .int (v + (v1 * nI i))), (9, .int (rpv v v1 i))]) hx hb dX4_ramp_101 hl (k := 10) rfl (nI_1 _) (by decide) rfl (fun ls hl => ?_)
          refine lv_goto (tgt := 77) hx hb dX4_ramp_104 (by decide) ?_
          have eq_95 : (upd (rpi (rpo g jx jy bh v v1 i) (jx + i) jy (rpv v v1 i) j) ((jy + j) * 24 + (jx + i)) (rpv v v1 i) : Nat → Int32) = rpi (rpo g jx jy bh v v1 i) (jx + i) jy (rpv v v1 i) (j + 1) := rfl
          have eW : ([(d0, .inr (4, [.ref s0, .ref t0, .ref r0, .ref q0, .int bk])), (s0, .inr (2, [.ref s1, .ref s2, .int (nI Wd), .int (nI Hh)])), (s1, .inl (cyI, 576, .inl (upd (rpi (rpo g jx jy bh v v1 i) (jx + i) jy (rpv v v1 i) j) ((jy + j) * 24 + (jx + i)) (rpv v v1 i)))), (s2, .inl (cyZ, 576, .inl ln))] : va_W) = [(d0, .inr (4, [.ref s0, .ref t0, .ref r0, .ref q0, .int bk])), (s0, .inr (2, [.ref s1, .ref s2, .int (nI Wd), .int (nI Hh)])), (s1, .inl (cyI, 576, .inl (rpi (rpo g jx jy bh v v1 i) (jx + i) jy (rpv v v1 i) (j + 1)))), (s2, .inl (cyZ, 576, .inl ln))] := (congrArg (List.cons _) (congrArg (List.cons _) (congr (congrArg List.cons (congrArg (fun z => ((s1, (Sum.inl (cyI, 576, Sum.inl z) : va_E)) : Nat × va_E)) eq_95)) (congrArg (List.cons _) rfl))))
          rw [eW] at hP hD
          have hl := lv_sub (l' := [(0, .ref d0), (1, .int (nI jx)), (2, .int (nI jy)), (3, .int (nI bw)), (4, .int (nI bh)), (5, .int v), (6, .int v1), (7, .int (nI i)), (8, .int (v + (v1 * nI i))), (9, .int (rpv v v1 i)), (10, .int (nI (j + 1)))]) hl [1, 2, 3, 4, 5, 6, 7, 8, 9, 10, 0] rfl
          exact ih_77 (j + 1) (by omega)  _ _ _ hP hD hS hl
      have eq_100 : (0 : Int32) = nI 0 := rfl
      have eq_101 : (rpo g jx jy bh v v1 i : Nat → Int32) = rpi (rpo g jx jy bh v v1 i) (jx + i) jy (rpv v v1 i) 0 := rfl
      have eW : ([(d0, .inr (4, [.ref s0, .ref t0, .ref r0, .ref q0, .int bk])), (s0, .inr (2, [.ref s1, .ref s2, .int (nI Wd), .int (nI Hh)])), (s1, .inl (cyI, 576, .inl (rpo g jx jy bh v v1 i))), (s2, .inl (cyZ, 576, .inl ln))] : va_W) = [(d0, .inr (4, [.ref s0, .ref t0, .ref r0, .ref q0, .int bk])), (s0, .inr (2, [.ref s1, .ref s2, .int (nI Wd), .int (nI Hh)])), (s1, .inl (cyI, 576, .inl (rpi (rpo g jx jy bh v v1 i) (jx + i) jy (rpv v v1 i) 0))), (s2, .inl (cyZ, 576, .inl ln))] := (congrArg (List.cons _) (congrArg (List.cons _) (congr (congrArg List.cons (congrArg (fun z => ((s1, (Sum.inl (cyI, 576, Sum.inl z) : va_E)) : Nat × va_E)) eq_101)) (congrArg (List.cons _) rfl))))
      rw [eW] at hP hD
      have hl := lv_sub (l' := [(0, .ref d0), (1, .int (nI jx)), (2, .int (nI jy)), (3, .int (nI bw)), (4, .int (nI bh)), (5, .int v), (6, .int v1), (7, .int (nI i)), (8, .int (v + (v1 * nI i))), (9, .int (rpv v v1 i)), (10, .int 0)]) hl [3, 4, 5, 6, 7, 8, 9, 10, 2, 1, 0] rfl
      have eL : ([(0, .ref d0), (1, .int (nI jx)), (2, .int (nI jy)), (3, .int (nI bw)), (4, .int (nI bh)), (5, .int v), (6, .int v1), (7, .int (nI i)), (8, .int (v + (v1 * nI i))), (9, .int (rpv v v1 i)), (10, .int 0)] : List (Nat × Value)) = [(0, .ref d0), (1, .int (nI jx)), (2, .int (nI jy)), (3, .int (nI bw)), (4, .int (nI bh)), (5, .int v), (6, .int v1), (7, .int (nI i)), (8, .int (v + (v1 * nI i))), (9, .int (rpv v v1 i)), (10, .int (nI 0))] := (congrArg (List.cons _) (congrArg (List.cons _) (congrArg (List.cons _) (congrArg (List.cons _) (congrArg (List.cons _) (congrArg (List.cons _) (congrArg (List.cons _) (congrArg (List.cons _) (congrArg (List.cons _) (congrArg (List.cons _) (congr (congrArg List.cons (congrArg (fun z => (((10 : Nat), Value.int z) : Nat × Value)) eq_100)) rfl)))))))))))
      rw [eL] at hl
      exact L77 _ 0 (Nat.zero_add _)  _ _ _ hP hD hS hl
  have eq_108 : (0 : Int32) = nI 0 := rfl
  have eq_109 : (g : Nat → Int32) = rpo g jx jy bh v v1 0 := rfl
  have eW : ([(d0, .inr (4, [.ref s0, .ref t0, .ref r0, .ref q0, .int bk])), (s0, .inr (2, [.ref s1, .ref s2, .int (nI Wd), .int (nI Hh)])), (s1, .inl (cyI, 576, .inl g)), (s2, .inl (cyZ, 576, .inl ln))] : va_W) = [(d0, .inr (4, [.ref s0, .ref t0, .ref r0, .ref q0, .int bk])), (s0, .inr (2, [.ref s1, .ref s2, .int (nI Wd), .int (nI Hh)])), (s1, .inl (cyI, 576, .inl (rpo g jx jy bh v v1 0))), (s2, .inl (cyZ, 576, .inl ln))] := (congrArg (List.cons _) (congrArg (List.cons _) (congr (congrArg List.cons (congrArg (fun z => ((s1, (Sum.inl (cyI, 576, Sum.inl z) : va_E)) : Nat × va_E)) eq_109)) (congrArg (List.cons _) rfl))))
  rw [eW] at hP hD
  have hl := lv_sub (l' := [(0, .ref d0), (1, .int (nI jx)), (2, .int (nI jy)), (3, .int (nI bw)), (4, .int (nI bh)), (5, .int v), (6, .int v1), (7, .int 0)]) hl [1, 2, 3, 4, 5, 6, 7, 0] rfl
  have eL : ([(0, .ref d0), (1, .int (nI jx)), (2, .int (nI jy)), (3, .int (nI bw)), (4, .int (nI bh)), (5, .int v), (6, .int v1), (7, .int 0)] : List (Nat × Value)) = [(0, .ref d0), (1, .int (nI jx)), (2, .int (nI jy)), (3, .int (nI bw)), (4, .int (nI bh)), (5, .int v), (6, .int v1), (7, .int (nI 0))] := (congrArg (List.cons _) (congrArg (List.cons _) (congrArg (List.cons _) (congrArg (List.cons _) (congrArg (List.cons _) (congrArg (List.cons _) (congrArg (List.cons _) (congr (congrArg List.cons (congrArg (fun z => (((7 : Nat), Value.int z) : Nat × Value)) eq_108)) rfl))))))))
  rw [eL] at hl
  exact L44 _ 0 (Nat.zero_add _)  _ _ _ hP hD hS hl
