/-! the reference: ranks, beats -/
abbrev rm_X5_pairOf : Room := { frames := 1, cells := 0, slots := 0, locals := 22 }
theorem in_X5_pairOf_X5 : ∀ w ∈ u_ws RX5 TX5 19, w ∈ wsX5_pairOf := by decide +kernel
set_option maxHeartbeats 4000000 in
set_option maxRecDepth 100000 in
theorem ct_X5_pairOf (l : Launch) (D : va_G) (cyI cyZ : ClassId) (a0 a1 a2 a3 a4 a5 a6 a7 : Nat) (sz : Nat) (th : Int32) (Wd Hh nn : Nat) (na nb rk pr bk lo : Int32) (bt bb : Int64) (mm : Nat) (x y : Int32) (hmq : na * na + nb * nb = nI mm) (hm1 : 1 ≤ mm) (hm2 : mm ≤ 128) : Met l yX5_pairOf wsX5_pairOf rm_X5_pairOf (xk_Pc D cyI cyZ [.ref a0, .int x, .int y] [(a0, .inr (5, [.int th, .int (nI Wd), .int (nI Hh), .int (nI nn), .int na, .int nb, .int rk, .int pr, .int bk, .ref a1, .ref a2, .ref a3, .ref a4, .ref a5, .ref a6, .ref a7, .int lo, .long bt, .long bb]))] sz) (xk_Qi D (va_A [(a0, .inr (5, [.int th, .int (nI Wd), .int (nI Hh), .int (nI nn), .int na, .int nb, .int rk, .int pr, .int bk, .ref a1, .ref a2, .ref a3, .ref a4, .ref a5, .ref a6, .ref a7, .int lo, .long bt, .long bb]))] sz) (nI (pN na nb mm x y)) [(a0, .inr (5, [.int th, .int (nI Wd), .int (nI Hh), .int (nI nn), .int na, .int nb, .int rk, .int pr, .int bk, .ref a1, .ref a2, .ref a3, .ref a4, .ref a5, .ref a6, .ref a7, .int lo, .long bt, .long bb]))]) 0 0 (va_A [(a0, .inr (5, [.int th, .int (nI Wd), .int (nI Hh), .int (nI nn), .int na, .int nb, .int rk, .int pr, .int bk, .ref a1, .ref a2, .ref a3, .ref a4, .ref a5, .ref a6, .ref a7, .int lo, .long bt, .long bb]))] sz) := by
  refine xk_of (own := RX5) (cc := cX5_pairOf) (maxL := 3) (ret := (some .int)) (Qc := fun A => xk_Qi D A (nI (pN na nb mm x y)) [(a0, .inr (5, [.int th, .int (nI Wd), .int (nI Hh), .int (nI nn), .int na, .int nb, .int rk, .int pr, .int bk, .ref a1, .ref a2, .ref a3, .ref a4, .ref a5, .ref a6, .ref a7, .int lo, .long bt, .long bb]))]) (by decide) rfl rfl (Nat.le_of_ble_eq_true rfl) ?_
  intro p e s m below meth c A ls hx hb hr hml hown hlocks hin hts hA hP hK hN hD hS hl
  have hC0 := xk_fix hx hb hml hown hts
  have hl : lv_has ls 3 [(0, .ref a0), (1, .int x), (2, .int y)] := hl
  have hf19 := hts (.fieldLink RX5 19 "DotPressModel" "a" "I") (by decide +kernel)
  have hf22 := hts (.fieldLink RX5 22 "DotPressModel" "b" "I") (by decide +kernel)
  refine lv_aload_n hx hb dX5_pairOf_0 rfl (lv_at hl 0 rfl) ?_
  have hPc := hP.sub (ws' := [(a0, .inr (5, [.int th, .int (nI Wd), .int (nI Hh), .int (nI nn), .int na, .int nb, .int rk, .int pr, .int bk, .ref a1, .ref a2, .ref a3, .ref a4, .ref a5, .ref a6, .ref a7, .int lo, .long bt, .long bb]))]) [0] rfl
  have hDc := hD.sub (ws' := [(a0, .inr (5, [.int th, .int (nI Wd), .int (nI Hh), .int (nI nn), .int na, .int nb, .int rk, .int pr, .int bk, .ref a1, .ref a2, .ref a3, .ref a4, .ref a5, .ref a6, .ref a7, .int lo, .long bt, .long bb]))]) [0] (by decide) rfl
  refine xk_calli (wr := []) (w2 := [(a0, .inr (5, [.int th, .int (nI Wd), .int (nI Hh), .int (nI nn), .int na, .int nb, .int rk, .int pr, .int bk, .ref a1, .ref a2, .ref a3, .ref a4, .ref a5, .ref a6, .ref a7, .int lo, .long bt, .long bb]))]) (va_runV (As := []) (rest := []) hC0 (ct_X5_m l D cyI cyZ a0 a1 a2 a3 a4 a5 a6 a7 _ th Wd Hh nn na nb rk pr bk lo bt bb ) (cwV 0 hts gX5_pairOf_X5_m rfl rfl rfl (by decide +kernel) ⟨Nat.le_of_ble_eq_true rfl, Nat.le_of_ble_eq_true rfl⟩) ⟨xk_blind, va_recv hK hPc (ci := 5) (q0 := 0) rfl rfl, xk_pre hK hN hPc hDc⟩ rfl rfl hl.1 rfl (lv_room (Nat.le_of_ble_eq_true rfl)) dX5_pairOf_1 ⟨Nat.le_of_ble_eq_true rfl, Nat.le_of_ble_eq_true rfl⟩) hP hD hS hA [0] [] [0] rfl rfl (by decide) (by decide) rfl (by decide) (fun H locs hP hD hS => ?_)
  refine xk_topi (y := nI mm) (hmq) ?_
  refine lv_aload_n hx hb dX5_pairOf_4 rfl (lv_at hl 0 rfl) ?_
  refine va_get (D := D) (ci := 5) (v := .int na) (C := RX5) (T := TX5) (N := 19) hx hb hts in_X5_pairOf_X5 hown hK hP 0 rfl rfl 4 (by decide) hf19 (fun _ h9 => h9) rfl dX5_pairOf_5 ?_
  refine lv_iload_n hx hb dX5_pairOf_8 rfl (lv_at hl 1 rfl) ?_
  refine lv_imul hx hb dX5_pairOf_9 ?_
  refine lv_aload_n hx hb dX5_pairOf_10 rfl (lv_at hl 0 rfl) ?_
  refine va_get (D := D) (ci := 5) (v := .int nb) (C := RX5) (T := TX5) (N := 19) hx hb hts in_X5_pairOf_X5 hown hK hP 0 rfl rfl 5 (by decide) hf22 (fun _ h9 => h9) rfl dX5_pairOf_11 ?_
  refine lv_iload_n hx hb dX5_pairOf_14 rfl (lv_at hl 2 rfl) ?_
  refine lv_imul hx hb dX5_pairOf_15 ?_
  refine lv_iadd hx hb dX5_pairOf_16 ?_
  refine lv_aload_n hx hb dX5_pairOf_17 rfl (lv_at hl 0 rfl) ?_
  have hPc := hP.sub (ws' := [(a0, .inr (5, [.int th, .int (nI Wd), .int (nI Hh), .int (nI nn), .int na, .int nb, .int rk, .int pr, .int bk, .ref a1, .ref a2, .ref a3, .ref a4, .ref a5, .ref a6, .ref a7, .int lo, .long bt, .long bb]))]) [0] rfl
  have hDc := hD.sub (ws' := [(a0, .inr (5, [.int th, .int (nI Wd), .int (nI Hh), .int (nI nn), .int na, .int nb, .int rk, .int pr, .int bk, .ref a1, .ref a2, .ref a3, .ref a4, .ref a5, .ref a6, .ref a7, .int lo, .long bt, .long bb]))]) [0] (by decide) rfl
  refine xk_calli (wr := []) (w2 := [(a0, .inr (5, [.int th, .int (nI Wd), .int (nI Hh), .int (nI nn), .int na, .int nb, .int rk, .int pr, .int bk, .ref a1, .ref a2, .ref a3, .ref a4, .ref a5, .ref a6, .ref a7, .int lo, .long bt, .long bb]))]) (va_runV (As := []) (rest := [.int ((na * x) + (nb * y)), .int (nI mm)]) hC0 (ct_X5_m l D cyI cyZ a0 a1 a2 a3 a4 a5 a6 a7 _ th Wd Hh nn na nb rk pr bk lo bt bb ) (cwV 0 hts gX5_pairOf_X5_m rfl rfl rfl (by decide +kernel) ⟨Nat.le_of_ble_eq_true rfl, Nat.le_of_ble_eq_true rfl⟩) ⟨xk_blind, va_recv hK hPc (ci := 5) (q0 := 0) rfl rfl, xk_pre hK hN hPc hDc⟩ rfl rfl hl.1 rfl (lv_room (Nat.le_of_ble_eq_true rfl)) dX5_pairOf_18 ⟨Nat.le_of_ble_eq_true rfl, Nat.le_of_ble_eq_true rfl⟩) hP hD hS hA [0] [] [0] rfl rfl (by decide) (by decide) rfl (by decide) (fun H locs hP hD hS => ?_)
  refine xk_topi (y := nI mm) (hmq) ?_
  have hPc := hP.sub (ws' := []) [] rfl
  have hDc := hD.sub (ws' := []) [] (by decide) rfl
  refine xk_calli (wr := [(a0, .inr (5, [.int th, .int (nI Wd), .int (nI Hh), .int (nI nn), .int na, .int nb, .int rk, .int pr, .int bk, .ref a1, .ref a2, .ref a3, .ref a4, .ref a5, .ref a6, .ref a7, .int lo, .long bt, .long bb]))]) (w2 := [(a0, .inr (5, [.int th, .int (nI Wd), .int (nI Hh), .int (nI nn), .int na, .int nb, .int rk, .int pr, .int bk, .ref a1, .ref a2, .ref a3, .ref a4, .ref a5, .ref a6, .ref a7, .int lo, .long bt, .long bb]))]) (va_runS (As := [.int ((na * x) + (nb * y)), .int (nI mm)]) (rest := [.int (nI mm)]) hC0 (ct_J9_floorMod_7cf53 l D cyI cyZ  _ ((na * x) + (nb * y)) (nI mm) (nI_ne0 hm1 (by omega))) (va_cwS 2 hts gX5_pairOf_J9_floorMod_7cf53 rfl rfl rfl (by decide +kernel) ⟨Nat.le_of_ble_eq_true rfl, Nat.le_of_ble_eq_true rfl⟩) ⟨xk_blind, xk_pre hK hN hPc hDc⟩ rfl rfl hl.1 rfl (lv_room (Nat.le_of_ble_eq_true rfl)) dX5_pairOf_21 ⟨Nat.le_of_ble_eq_true rfl, Nat.le_of_ble_eq_true rfl⟩) hP hD hS hA [] [0] [0] rfl rfl (by decide) (by decide) rfl (by decide) (fun H locs hP hD hS => ?_)
  refine xk_topi (y := nI (kUn na nb mm x y)) (fmI_N hm1 (by omega)) ?_
  refine lv_imul hx hb dX5_pairOf_24 ?_
  refine xk_topi (y := nI (mm * kUn na nb mm x y)) (pk_mul _ _) ?_
  refine lv_aload_n hx hb dX5_pairOf_25 rfl (lv_at hl 0 rfl) ?_
  refine va_get (D := D) (ci := 5) (v := .int na) (C := RX5) (T := TX5) (N := 19) hx hb hts in_X5_pairOf_X5 hown hK hP 0 rfl rfl 4 (by decide) hf19 (fun _ h9 => h9) rfl dX5_pairOf_26 ?_
  refine lv_iload_n hx hb dX5_pairOf_29 rfl (lv_at hl 2 rfl) ?_
  refine lv_imul hx hb dX5_pairOf_30 ?_
  refine lv_aload_n hx hb dX5_pairOf_31 rfl (lv_at hl 0 rfl) ?_
  refine va_get (D := D) (ci := 5) (v := .int nb) (C := RX5) (T := TX5) (N := 19) hx hb hts in_X5_pairOf_X5 hown hK hP 0 rfl rfl 5 (by decide) hf22 (fun _ h9 => h9) rfl dX5_pairOf_32 ?_
  refine lv_iload_n hx hb dX5_pairOf_35 rfl (lv_at hl 1 rfl) ?_
  refine lv_imul hx hb dX5_pairOf_36 ?_
  refine lv_isub hx hb dX5_pairOf_37 ?_
  refine lv_aload_n hx hb dX5_pairOf_38 rfl (lv_at hl 0 rfl) ?_
  have hPc := hP.sub (ws' := [(a0, .inr (5, [.int th, .int (nI Wd), .int (nI Hh), .int (nI nn), .int na, .int nb, .int rk, .int pr, .int bk, .ref a1, .ref a2, .ref a3, .ref a4, .ref a5, .ref a6, .ref a7, .int lo, .long bt, .long bb]))]) [0] rfl
  have hDc := hD.sub (ws' := [(a0, .inr (5, [.int th, .int (nI Wd), .int (nI Hh), .int (nI nn), .int na, .int nb, .int rk, .int pr, .int bk, .ref a1, .ref a2, .ref a3, .ref a4, .ref a5, .ref a6, .ref a7, .int lo, .long bt, .long bb]))]) [0] (by decide) rfl
  refine xk_calli (wr := []) (w2 := [(a0, .inr (5, [.int th, .int (nI Wd), .int (nI Hh), .int (nI nn), .int na, .int nb, .int rk, .int pr, .int bk, .ref a1, .ref a2, .ref a3, .ref a4, .ref a5, .ref a6, .ref a7, .int lo, .long bt, .long bb]))]) (va_runV (As := []) (rest := [.int ((na * y) - (nb * x)), .int (nI (mm * kUn na nb mm x y))]) hC0 (ct_X5_m l D cyI cyZ a0 a1 a2 a3 a4 a5 a6 a7 _ th Wd Hh nn na nb rk pr bk lo bt bb ) (cwV 0 hts gX5_pairOf_X5_m rfl rfl rfl (by decide +kernel) ⟨Nat.le_of_ble_eq_true rfl, Nat.le_of_ble_eq_true rfl⟩) ⟨xk_blind, va_recv hK hPc (ci := 5) (q0 := 0) rfl rfl, xk_pre hK hN hPc hDc⟩ rfl rfl hl.1 rfl (lv_room (Nat.le_of_ble_eq_true rfl)) dX5_pairOf_39 ⟨Nat.le_of_ble_eq_true rfl, Nat.le_of_ble_eq_true rfl⟩) hP hD hS hA [0] [] [0] rfl rfl (by decide) (by decide) rfl (by decide) (fun H locs hP hD hS => ?_)
  refine xk_topi (y := nI mm) (hmq) ?_
  have hPc := hP.sub (ws' := []) [] rfl
  have hDc := hD.sub (ws' := []) [] (by decide) rfl
  refine xk_calli (wr := [(a0, .inr (5, [.int th, .int (nI Wd), .int (nI Hh), .int (nI nn), .int na, .int nb, .int rk, .int pr, .int bk, .ref a1, .ref a2, .ref a3, .ref a4, .ref a5, .ref a6, .ref a7, .int lo, .long bt, .long bb]))]) (w2 := [(a0, .inr (5, [.int th, .int (nI Wd), .int (nI Hh), .int (nI nn), .int na, .int nb, .int rk, .int pr, .int bk, .ref a1, .ref a2, .ref a3, .ref a4, .ref a5, .ref a6, .ref a7, .int lo, .long bt, .long bb]))]) (va_runS (As := [.int ((na * y) - (nb * x)), .int (nI mm)]) (rest := [.int (nI (mm * kUn na nb mm x y))]) hC0 (ct_J9_floorMod_7cf53 l D cyI cyZ  _ ((na * y) - (nb * x)) (nI mm) (nI_ne0 hm1 (by omega))) (va_cwS 2 hts gX5_pairOf_J9_floorMod_7cf53 rfl rfl rfl (by decide +kernel) ⟨Nat.le_of_ble_eq_true rfl, Nat.le_of_ble_eq_true rfl⟩) ⟨xk_blind, xk_pre hK hN hPc hDc⟩ rfl rfl hl.1 rfl (lv_room (Nat.le_of_ble_eq_true rfl)) dX5_pairOf_42 ⟨Nat.le_of_ble_eq_true rfl, Nat.le_of_ble_eq_true rfl⟩) hP hD hS hA [] [0] [0] rfl rfl (by decide) (by decide) rfl (by decide) (fun H locs hP hD hS => ?_)
  refine xk_topi (y := nI (kVn na nb mm x y)) (fmI_N hm1 (by omega)) ?_
  refine lv_iadd hx hb dX5_pairOf_45 ?_
  refine xk_topi (y := nI (pN na nb mm x y)) (nI_add _ _) ?_
  exact xk_iret hx hb hr hlocks hP hD hS (rfl) (rfl) dX5_pairOf_46

abbrev rm_X5_far : Room := { frames := 1, cells := 0, slots := 0, locals := 20 }
set_option maxHeartbeats 4000000 in
set_option maxRecDepth 100000 in
theorem ct_X5_far (l : Launch) (D : va_G) (cyI cyZ : ClassId) (a0 a1 a2 a3 a4 a5 a6 a7 : Nat) (sz : Nat) (th : Int32) (Wd Hh nn : Nat) (na nb rk pr bk lo : Int32) (bt bb : Int64) (mm j1 : Nat) (hmq : na * na + nb * nb = nI mm) (hm1 : 1 ≤ mm) (hm2 : mm ≤ 128) (hj1 : j1 < 2 ^ 31) : Met l yX5_far wsX5_far rm_X5_far (xk_Pc D cyI cyZ [.ref a0, .int (nI j1)] [(a0, .inr (5, [.int th, .int (nI Wd), .int (nI Hh), .int (nI nn), .int na, .int nb, .int rk, .int pr, .int bk, .ref a1, .ref a2, .ref a3, .ref a4, .ref a5, .ref a6, .ref a7, .int lo, .long bt, .long bb]))] sz) (xk_Qi D (va_A [(a0, .inr (5, [.int th, .int (nI Wd), .int (nI Hh), .int (nI nn), .int na, .int nb, .int rk, .int pr, .int bk, .ref a1, .ref a2, .ref a3, .ref a4, .ref a5, .ref a6, .ref a7, .int lo, .long bt, .long bb]))] sz) (frI mm j1) [(a0, .inr (5, [.int th, .int (nI Wd), .int (nI Hh), .int (nI nn), .int na, .int nb, .int rk, .int pr, .int bk, .ref a1, .ref a2, .ref a3, .ref a4, .ref a5, .ref a6, .ref a7, .int lo, .long bt, .long bb]))]) 0 0 (va_A [(a0, .inr (5, [.int th, .int (nI Wd), .int (nI Hh), .int (nI nn), .int na, .int nb, .int rk, .int pr, .int bk, .ref a1, .ref a2, .ref a3, .ref a4, .ref a5, .ref a6, .ref a7, .int lo, .long bt, .long bb]))] sz) := by
  refine xk_of (own := RX5) (cc := cX5_far) (maxL := 4) (ret := (some .int)) (Qc := fun A => xk_Qi D A (frI mm j1) [(a0, .inr (5, [.int th, .int (nI Wd), .int (nI Hh), .int (nI nn), .int na, .int nb, .int rk, .int pr, .int bk, .ref a1, .ref a2, .ref a3, .ref a4, .ref a5, .ref a6, .ref a7, .int lo, .long bt, .long bb]))]) (by decide) rfl rfl (Nat.le_of_ble_eq_true rfl) ?_
  intro p e s m below meth c A ls hx hb hr hml hown hlocks hin hts hA hP hK hN hD hS hl
  have hC0 := xk_fix hx hb hml hown hts
  have hl : lv_has ls 4 [(0, .ref a0), (1, .int (nI j1))] := hl
  refine lv_iconst (v := 2) hx hb dX5_far_0 (by decide) ?_
  refine lv_iload_n hx hb dX5_far_1 rfl (lv_at hl 1 rfl) ?_
  refine lv_aload_n hx hb dX5_far_2 rfl (lv_at hl 0 rfl) ?_
  have hPc := hP.sub (ws' := [(a0, .inr (5, [.int th, .int (nI Wd), .int (nI Hh), .int (nI nn), .int na, .int nb, .int rk, .int pr, .int bk, .ref a1, .ref a2, .ref a3, .ref a4, .ref a5, .ref a6, .ref a7, .int lo, .long bt, .long bb]))]) [0] rfl
  have hDc := hD.sub (ws' := [(a0, .inr (5, [.int th, .int (nI Wd), .int (nI Hh), .int (nI nn), .int na, .int nb, .int rk, .int pr, .int bk, .ref a1, .ref a2, .ref a3, .ref a4, .ref a5, .ref a6, .ref a7, .int lo, .long bt, .long bb]))]) [0] (by decide) rfl
  refine xk_calli (wr := []) (w2 := [(a0, .inr (5, [.int th, .int (nI Wd), .int (nI Hh), .int (nI nn), .int na, .int nb, .int rk, .int pr, .int bk, .ref a1, .ref a2, .ref a3, .ref a4, .ref a5, .ref a6, .ref a7, .int lo, .long bt, .long bb]))]) (va_runV (As := []) (rest := [.int (nI j1), .int 2]) hC0 (ct_X5_m l D cyI cyZ a0 a1 a2 a3 a4 a5 a6 a7 _ th Wd Hh nn na nb rk pr bk lo bt bb ) (cwV 0 hts gX5_far_X5_m rfl rfl rfl (by decide +kernel) ⟨Nat.le_of_ble_eq_true rfl, Nat.le_of_ble_eq_true rfl⟩) ⟨xk_blind, va_recv hK hPc (ci := 5) (q0 := 0) rfl rfl, xk_pre hK hN hPc hDc⟩ rfl rfl hl.1 rfl (lv_room (Nat.le_of_ble_eq_true rfl)) dX5_far_3 ⟨Nat.le_of_ble_eq_true rfl, Nat.le_of_ble_eq_true rfl⟩) hP hD hS hA [0] [] [0] rfl rfl (by decide) (by decide) rfl (by decide) (fun H locs hP hD hS => ?_)
  refine xk_topi (y := nI mm) (hmq) ?_
  refine lv_idiv hx hb dX5_far_6 (nI_ne0 hm1 (by omega)) ?_
  refine xk_topi (y := nI (j1 / mm)) (pk_div hj1 hm1 (by omega)) ?_
  refine lv_imul hx hb dX5_far_7 ?_
  refine lv_iconst (v := 1) hx hb dX5_far_8 (by decide) ?_
  refine lv_iadd hx hb dX5_far_9 ?_
  refine lv_aload_n hx hb dX5_far_10 rfl (lv_at hl 0 rfl) ?_
  have hPc := hP.sub (ws' := [(a0, .inr (5, [.int th, .int (nI Wd), .int (nI Hh), .int (nI nn), .int na, .int nb, .int rk, .int pr, .int bk, .ref a1, .ref a2, .ref a3, .ref a4, .ref a5, .ref a6, .ref a7, .int lo, .long bt, .long bb]))]) [0] rfl
  have hDc := hD.sub (ws' := [(a0, .inr (5, [.int th, .int (nI Wd), .int (nI Hh), .int (nI nn), .int na, .int nb, .int rk, .int pr, .int bk, .ref a1, .ref a2, .ref a3, .ref a4, .ref a5, .ref a6, .ref a7, .int lo, .long bt, .long bb]))]) [0] (by decide) rfl
  refine xk_calli (wr := []) (w2 := [(a0, .inr (5, [.int th, .int (nI Wd), .int (nI Hh), .int (nI nn), .int na, .int nb, .int rk, .int pr, .int bk, .ref a1, .ref a2, .ref a3, .ref a4, .ref a5, .ref a6, .ref a7, .int lo, .long bt, .long bb]))]) (va_runV (As := []) (rest := [.int ((2 * nI (j1 / mm)) + 1)]) hC0 (ct_X5_m l D cyI cyZ a0 a1 a2 a3 a4 a5 a6 a7 _ th Wd Hh nn na nb rk pr bk lo bt bb ) (cwV 0 hts gX5_far_X5_m rfl rfl rfl (by decide +kernel) ⟨Nat.le_of_ble_eq_true rfl, Nat.le_of_ble_eq_true rfl⟩) ⟨xk_blind, va_recv hK hPc (ci := 5) (q0 := 0) rfl rfl, xk_pre hK hN hPc hDc⟩ rfl rfl hl.1 rfl (lv_room (Nat.le_of_ble_eq_true rfl)) dX5_far_11 ⟨Nat.le_of_ble_eq_true rfl, Nat.le_of_ble_eq_true rfl⟩) hP hD hS hA [0] [] [0] rfl rfl (by decide) (by decide) rfl (by decide) (fun H locs hP hD hS => ?_)
  refine xk_topi (y := nI mm) (hmq) ?_
  refine lv_isub hx hb dX5_far_14 ?_
  refine lv_istore_n (lv' := [(2, .int (((2 * nI (j1 / mm)) + 1) - nI mm)), (0, .ref a0), (1, .int (nI j1))]) hx hb dX5_far_15 rfl hl (by decide) rfl (fun ls hl => ?_)
  refine lv_iconst (v := 2) hx hb dX5_far_16 (by decide) ?_
  refine lv_iload_n hx hb dX5_far_17 rfl (lv_at hl 2 rfl) ?_
  refine lv_aload_n hx hb dX5_far_18 rfl (lv_at hl 1 rfl) ?_
  have hPc := hP.sub (ws' := [(a0, .inr (5, [.int th, .int (nI Wd), .int (nI Hh), .int (nI nn), .int na, .int nb, .int rk, .int pr, .int bk, .ref a1, .ref a2, .ref a3, .ref a4, .ref a5, .ref a6, .ref a7, .int lo, .long bt, .long bb]))]) [0] rfl
  have hDc := hD.sub (ws' := [(a0, .inr (5, [.int th, .int (nI Wd), .int (nI Hh), .int (nI nn), .int na, .int nb, .int rk, .int pr, .int bk, .ref a1, .ref a2, .ref a3, .ref a4, .ref a5, .ref a6, .ref a7, .int lo, .long bt, .long bb]))]) [0] (by decide) rfl
  refine xk_calli (wr := []) (w2 := [(a0, .inr (5, [.int th, .int (nI Wd), .int (nI Hh), .int (nI nn), .int na, .int nb, .int rk, .int pr, .int bk, .ref a1, .ref a2, .ref a3, .ref a4, .ref a5, .ref a6, .ref a7, .int lo, .long bt, .long bb]))]) (va_runV (As := []) (rest := [.int (nI j1), .int 2]) hC0 (ct_X5_m l D cyI cyZ a0 a1 a2 a3 a4 a5 a6 a7 _ th Wd Hh nn na nb rk pr bk lo bt bb ) (cwV 0 hts gX5_far_X5_m rfl rfl rfl (by decide +kernel) ⟨Nat.le_of_ble_eq_true rfl, Nat.le_of_ble_eq_true rfl⟩) ⟨xk_blind, va_recv hK hPc (ci := 5) (q0 := 0) rfl rfl, xk_pre hK hN hPc hDc⟩ rfl rfl hl.1 rfl (lv_room (Nat.le_of_ble_eq_true rfl)) dX5_far_19 ⟨Nat.le_of_ble_eq_true rfl, Nat.le_of_ble_eq_true rfl⟩) hP hD hS hA [0] [] [0] rfl rfl (by decide) (by decide) rfl (by decide) (fun H locs hP hD hS => ?_)
  refine xk_topi (y := nI mm) (hmq) ?_
  refine lv_irem hx hb dX5_far_22 (nI_ne0 hm1 (by omega)) ?_
  refine xk_topi (y := nI (j1 % mm)) (pk_rem hj1 hm1 (by omega)) ?_
  refine lv_imul hx hb dX5_far_23 ?_
  refine lv_iconst (v := 1) hx hb dX5_far_24 (by decide) ?_
  refine lv_iadd hx hb dX5_far_25 ?_
  refine lv_aload_n hx hb dX5_far_26 rfl (lv_at hl 1 rfl) ?_
  have hPc := hP.sub (ws' := [(a0, .inr (5, [.int th, .int (nI Wd), .int (nI Hh), .int (nI nn), .int na, .int nb, .int rk, .int pr, .int bk, .ref a1, .ref a2, .ref a3, .ref a4, .ref a5, .ref a6, .ref a7, .int lo, .long bt, .long bb]))]) [0] rfl
  have hDc := hD.sub (ws' := [(a0, .inr (5, [.int th, .int (nI Wd), .int (nI Hh), .int (nI nn), .int na, .int nb, .int rk, .int pr, .int bk, .ref a1, .ref a2, .ref a3, .ref a4, .ref a5, .ref a6, .ref a7, .int lo, .long bt, .long bb]))]) [0] (by decide) rfl
  refine xk_calli (wr := []) (w2 := [(a0, .inr (5, [.int th, .int (nI Wd), .int (nI Hh), .int (nI nn), .int na, .int nb, .int rk, .int pr, .int bk, .ref a1, .ref a2, .ref a3, .ref a4, .ref a5, .ref a6, .ref a7, .int lo, .long bt, .long bb]))]) (va_runV (As := []) (rest := [.int ((2 * nI (j1 % mm)) + 1)]) hC0 (ct_X5_m l D cyI cyZ a0 a1 a2 a3 a4 a5 a6 a7 _ th Wd Hh nn na nb rk pr bk lo bt bb ) (cwV 0 hts gX5_far_X5_m rfl rfl rfl (by decide +kernel) ⟨Nat.le_of_ble_eq_true rfl, Nat.le_of_ble_eq_true rfl⟩) ⟨xk_blind, va_recv hK hPc (ci := 5) (q0 := 0) rfl rfl, xk_pre hK hN hPc hDc⟩ rfl rfl hl.1 rfl (lv_room (Nat.le_of_ble_eq_true rfl)) dX5_far_27 ⟨Nat.le_of_ble_eq_true rfl, Nat.le_of_ble_eq_true rfl⟩) hP hD hS hA [0] [] [0] rfl rfl (by decide) (by decide) rfl (by decide) (fun H locs hP hD hS => ?_)
  refine xk_topi (y := nI mm) (hmq) ?_
  refine lv_isub hx hb dX5_far_30 ?_
  refine lv_istore_n (lv' := [(3, .int (((2 * nI (j1 % mm)) + 1) - nI mm)), (2, .int (((2 * nI (j1 / mm)) + 1) - nI mm)), (0, .ref a0), (1, .int (nI j1))]) hx hb dX5_far_31 rfl hl (by decide) rfl (fun ls hl => ?_)
  refine lv_iload_n hx hb dX5_far_32 rfl (lv_at hl 1 rfl) ?_
  refine lv_iload_n hx hb dX5_far_33 rfl (lv_at hl 1 rfl) ?_
  refine lv_imul hx hb dX5_far_34 ?_
  refine lv_iload_n hx hb dX5_far_35 rfl (lv_at hl 0 rfl) ?_
  refine lv_iload_n hx hb dX5_far_36 rfl (lv_at hl 0 rfl) ?_
  refine lv_imul hx hb dX5_far_37 ?_
  refine lv_iadd hx hb dX5_far_38 ?_
  exact xk_iret hx hb hr hlocks hP hD hS (rfl) (rfl) dX5_far_39

abbrev rm_X5_rankAll_do : Room := { frames := 2, cells := 0, slots := 0, locals := 44 }
theorem in_X5_rankAll_do_X5 : ∀ w ∈ u_ws RX5 TX5 19, w ∈ wsX5_rankAll := by decide +kernel
set_option maxHeartbeats 4000000 in
set_option maxRecDepth 100000 in
theorem ct_X5_rankAll_do (l : Launch) (D : va_G) (cyI cyZ : ClassId) (a0 a1 a2 a3 a4 a5 a6 a7 : Nat) (sz : Nat) (th : Int32) (Wd Hh nn : Nat) (na nb rk pr bk lo : Int32) (bt bb : Int64) (tr rn : Nat → Int32) (mm : Nat) (hmq : na * na + nb * nb = nI mm) (hm1 : 1 ≤ mm) (hm2 : mm ≤ 128) (hrk : ¬ rk = 20 * na + nb + 1000) : Met l yX5_rankAll wsX5_rankAll rm_X5_rankAll_do (xk_Pc D cyI cyZ [.ref a0] [(a0, .inr (5, [.int th, .int (nI Wd), .int (nI Hh), .int (nI nn), .int na, .int nb, .int rk, .int pr, .int bk, .ref a1, .ref a2, .ref a3, .ref a4, .ref a5, .ref a6, .ref a7, .int lo, .long bt, .long bb])), (a6, .inl (cyZ, 16384, .inl tr)), (a7, .inl (cyI, 16384, .inl rn))] sz) (xk_Qv D (va_A [(a0, .inr (5, [.int th, .int (nI Wd), .int (nI Hh), .int (nI nn), .int na, .int nb, .int rk, .int pr, .int bk, .ref a1, .ref a2, .ref a3, .ref a4, .ref a5, .ref a6, .ref a7, .int lo, .long bt, .long bb])), (a6, .inl (cyZ, 16384, .inl tr)), (a7, .inl (cyI, 16384, .inl rn))] sz) [(a0, .inr (5, [.int th, .int (nI Wd), .int (nI Hh), .int (nI nn), .int na, .int nb, .int (20 * na + nb + 1000), .int (cL (thF na nb mm tr) (mm * mm)), .int bk, .ref a1, .ref a2, .ref a3, .ref a4, .ref a5, .ref a6, .ref a7, .int lo, .long bt, .long bb])), (a6, .inl (cyZ, 16384, .inl (thF na nb mm tr))), (a7, .inl (cyI, 16384, .inl (rnO mm (thF na nb mm tr) rn (mm * mm))))]) 0 0 (va_A [(a0, .inr (5, [.int th, .int (nI Wd), .int (nI Hh), .int (nI nn), .int na, .int nb, .int rk, .int pr, .int bk, .ref a1, .ref a2, .ref a3, .ref a4, .ref a5, .ref a6, .ref a7, .int lo, .long bt, .long bb])), (a6, .inl (cyZ, 16384, .inl tr)), (a7, .inl (cyI, 16384, .inl rn))] sz) := by
  refine xk_of (own := RX5) (cc := cX5_rankAll) (maxL := 5) (ret := none) (Qc := fun A => xk_Qv D A [(a0, .inr (5, [.int th, .int (nI Wd), .int (nI Hh), .int (nI nn), .int na, .int nb, .int (20 * na + nb + 1000), .int (cL (thF na nb mm tr) (mm * mm)), .int bk, .ref a1, .ref a2, .ref a3, .ref a4, .ref a5, .ref a6, .ref a7, .int lo, .long bt, .long bb])), (a6, .inl (cyZ, 16384, .inl (thF na nb mm tr))), (a7, .inl (cyI, 16384, .inl (rnO mm (thF na nb mm tr) rn (mm * mm))))]) (by decide) rfl rfl (Nat.le_of_ble_eq_true rfl) ?_
  intro p e s m below meth c A ls hx hb hr hml hown hlocks hin hts hA hP hK hN hD hS hl
  have hC0 := xk_fix hx hb hml hown hts
  have hl : lv_has ls 5 [(0, .ref a0)] := hl
  have hf19 := hts (.fieldLink RX5 19 "DotPressModel" "a" "I") (by decide +kernel)
  have hf22 := hts (.fieldLink RX5 22 "DotPressModel" "b" "I") (by decide +kernel)
  have hf25 := hts (.fieldLink RX5 25 "DotPressModel" "ranked" "I") (by decide +kernel)
  have hf45 := hts (.fieldLink RX5 45 "DotPressModel" "there" "[Z") (by decide +kernel)
  have hf48 := hts (.fieldLink RX5 48 "DotPressModel" "ranks" "[I") (by decide +kernel)
  have hf114 := hts (.fieldLink RX5 114 "DotPressModel" "pairs" "I") (by decide +kernel)
  have hq := mm_sq hm2
  refine lv_aload_n hx hb dX5_rankAll_0 rfl (lv_at hl 0 rfl) ?_
  refine va_get (D := D) (ci := 5) (v := .int rk) (C := RX5) (T := TX5) (N := 19) hx hb hts in_X5_rankAll_do_X5 hown hK hP 0 rfl rfl 6 (by decide) hf25 (fun _ h9 => h9) rfl dX5_rankAll_1 ?_
  refine lv_bipush (v := 20) hx hb dX5_rankAll_4 (by decide) ?_
  refine lv_aload_n hx hb dX5_rankAll_6 rfl (lv_at hl 0 rfl) ?_
  refine va_get (D := D) (ci := 5) (v := .int na) (C := RX5) (T := TX5) (N := 19) hx hb hts in_X5_rankAll_do_X5 hown hK hP 0 rfl rfl 4 (by decide) hf19 (fun _ h9 => h9) rfl dX5_rankAll_7 ?_
  refine lv_imul hx hb dX5_rankAll_10 ?_
  refine lv_aload_n hx hb dX5_rankAll_11 rfl (lv_at hl 0 rfl) ?_
  refine va_get (D := D) (ci := 5) (v := .int nb) (C := RX5) (T := TX5) (N := 19) hx hb hts in_X5_rankAll_do_X5 hown hK hP 0 rfl rfl 5 (by decide) hf22 (fun _ h9 => h9) rfl dX5_rankAll_12 ?_
  refine lv_iadd hx hb dX5_rankAll_15 ?_
  refine lv_sipush (v := 1000) hx hb dX5_rankAll_16 (by decide) ?_
  refine lv_iadd hx hb dX5_rankAll_19 ?_
  refine lv_icmp_ne (tgt := 24) hx hb dX5_rankAll_20 (by decide) (fun c_20 => ?_) (fun c_20 => xk_ab c_20 (hrk))
  refine lv_aload_n hx hb dX5_rankAll_24 rfl (lv_at hl 0 rfl) ?_
  refine lv_bipush (v := 20) hx hb dX5_rankAll_25 (by decide) ?_
  refine lv_aload_n hx hb dX5_rankAll_27 rfl (lv_at hl 0 rfl) ?_
  refine va_get (D := D) (ci := 5) (v := .int na) (C := RX5) (T := TX5) (N := 19) hx hb hts in_X5_rankAll_do_X5 hown hK hP 0 rfl rfl 4 (by decide) hf19 (fun _ h9 => h9) rfl dX5_rankAll_28 ?_
  refine lv_imul hx hb dX5_rankAll_31 ?_
  refine lv_aload_n hx hb dX5_rankAll_32 rfl (lv_at hl 0 rfl) ?_
  refine va_get (D := D) (ci := 5) (v := .int nb) (C := RX5) (T := TX5) (N := 19) hx hb hts in_X5_rankAll_do_X5 hown hK hP 0 rfl rfl 5 (by decide) hf22 (fun _ h9 => h9) rfl dX5_rankAll_33 ?_
  refine lv_iadd hx hb dX5_rankAll_36 ?_
  refine lv_sipush (v := 1000) hx hb dX5_rankAll_37 (by decide) ?_
  refine lv_iadd hx hb dX5_rankAll_40 ?_
  refine va_put (D := D) (ci := 5) (v := .int (((20 * na) + nb) + 1000)) (ty := .int) (C := RX5) (T := TX5) (N := 19) hx hb hts in_X5_rankAll_do_X5 tyX5 tyX5_ok nmX5 hown hK hP hD hS 0 rfl rfl 6 (by decide) hf25 (fun _ h9 => h9) rfl (by decide +kernel) (rfl) (rfl) (Nat.le_of_ble_eq_true rfl) dX5_rankAll_41 (fun H locs hP hD hS => ?_)
  have hP : va_P D vwCl [(a0, .inr (5, [.int th, .int (nI Wd), .int (nI Hh), .int (nI nn), .int na, .int nb, .int (((20 * na) + nb) + 1000), .int pr, .int bk, .ref a1, .ref a2, .ref a3, .ref a4, .ref a5, .ref a6, .ref a7, .int lo, .long bt, .long bb])), (a6, .inl (cyZ, 16384, .inl tr)), (a7, .inl (cyI, 16384, .inl rn))] H := hP
  have hD : va_D A [(a0, .inr (5, [.int th, .int (nI Wd), .int (nI Hh), .int (nI nn), .int na, .int nb, .int (((20 * na) + nb) + 1000), .int pr, .int bk, .ref a1, .ref a2, .ref a3, .ref a4, .ref a5, .ref a6, .ref a7, .int lo, .long bt, .long bb])), (a6, .inl (cyZ, 16384, .inl tr)), (a7, .inl (cyI, 16384, .inl rn))] := hD
  refine lv_aload_n hx hb dX5_rankAll_44 rfl (lv_at hl 0 rfl) ?_
  have hPc := hP.sub (ws' := [(a0, .inr (5, [.int th, .int (nI Wd), .int (nI Hh), .int (nI nn), .int na, .int nb, .int (((20 * na) + nb) + 1000), .int pr, .int bk, .ref a1, .ref a2, .ref a3, .ref a4, .ref a5, .ref a6, .ref a7, .int lo, .long bt, .long bb]))]) [0] rfl
  have hDc := hD.sub (ws' := [(a0, .inr (5, [.int th, .int (nI Wd), .int (nI Hh), .int (nI nn), .int na, .int nb, .int (((20 * na) + nb) + 1000), .int pr, .int bk, .ref a1, .ref a2, .ref a3, .ref a4, .ref a5, .ref a6, .ref a7, .int lo, .long bt, .long bb]))]) [0] (by decide) rfl
  refine xk_calli (wr := [(a6, .inl (cyZ, 16384, .inl tr)), (a7, .inl (cyI, 16384, .inl rn))]) (w2 := [(a0, .inr (5, [.int th, .int (nI Wd), .int (nI Hh), .int (nI nn), .int na, .int nb, .int (((20 * na) + nb) + 1000), .int pr, .int bk, .ref a1, .ref a2, .ref a3, .ref a4, .ref a5, .ref a6, .ref a7, .int lo, .long bt, .long bb])), (a6, .inl (cyZ, 16384, .inl tr)), (a7, .inl (cyI, 16384, .inl rn))]) (va_runV (As := []) (rest := []) hC0 (ct_X5_m l D cyI cyZ a0 a1 a2 a3 a4 a5 a6 a7 _ th Wd Hh nn na nb (((20 * na) + nb) + 1000) pr bk lo bt bb ) (cwV 0 hts gX5_rankAll_X5_m rfl rfl rfl (by decide +kernel) ⟨Nat.le_of_ble_eq_true rfl, Nat.le_of_ble_eq_true rfl⟩) ⟨xk_blind, va_recv hK hPc (ci := 5) (q0 := 0) rfl rfl, xk_pre hK hN hPc hDc⟩ rfl rfl hl.1 rfl (lv_room (Nat.le_of_ble_eq_true rfl)) dX5_rankAll_45 ⟨Nat.le_of_ble_eq_true rfl, Nat.le_of_ble_eq_true rfl⟩) hP hD hS hA [0] [1, 2] [2, 0, 1] rfl rfl (by decide) (by decide) rfl (by decide) (fun H locs hP hD hS => ?_)
  refine xk_topi (y := nI mm) (hmq) ?_
  refine lv_istore_n (lv' := [(1, .int (nI mm)), (0, .ref a0)]) hx hb dX5_rankAll_48 rfl hl (by decide) rfl (fun ls hl => ?_)
  refine lv_iconst (v := 0) hx hb dX5_rankAll_49 (by decide) ?_
  refine lv_istore_n (lv' := [(2, .int 0), (1, .int (nI mm)), (0, .ref a0)]) hx hb dX5_rankAll_50 rfl hl (by decide) rfl (fun ls hl => ?_)
  have L51 : ∀ (n k : Nat), k + n = (mm * mm) → ∀ (H : Heap) (locs : List Loc) (ls : Array Slot), va_P D vwCl [(a0, .inr (5, [.int th, .int (nI Wd), .int (nI Hh), .int (nI nn), .int na, .int nb, .int (((20 * na) + nb) + 1000), .int pr, .int bk, .ref a1, .ref a2, .ref a3, .ref a4, .ref a5, .ref a6, .ref a7, .int lo, .long bt, .long bb])), (a6, .inl (cyZ, 16384, .inl (zr k tr))), (a7, .inl (cyI, 16384, .inl rn))] H → va_D A [(a0, .inr (5, [.int th, .int (nI Wd), .int (nI Hh), .int (nI nn), .int na, .int nb, .int (((20 * na) + nb) + 1000), .int pr, .int bk, .ref a1, .ref a2, .ref a3, .ref a4, .ref a5, .ref a6, .ref a7, .int lo, .long bt, .long bb])), (a6, .inl (cyZ, 16384, .inl (zr k tr))), (a7, .inl (cyI, 16384, .inl rn))] → va_S A s.heap H locs → lv_has ls 5 [(0, .ref a0), (1, .int (nI mm)), (2, .int (nI k))] → W p l e rm_X5_rankAll_do s m ([.ref a0] : List Value).toArray below meth c H locs 0 0 (MQ below (xk_Qv D A [(a0, .inr (5, [.int th, .int (nI Wd), .int (nI Hh), .int (nI nn), .int na, .int nb, .int (20 * na + nb + 1000), .int (cL (thF na nb mm tr) (mm * mm)), .int bk, .ref a1, .ref a2, .ref a3, .ref a4, .ref a5, .ref a6, .ref a7, .int lo, .long bt, .long bb])), (a6, .inl (cyZ, 16384, .inl (thF na nb mm tr))), (a7, .inl (cyI, 16384, .inl (rnO mm (thF na nb mm tr) rn (mm * mm))))]) ([.ref a0] : List Value).toArray s 0 0 A) (F0 m 51 ls []) := by
    intro n
    induction n with
    | zero =>
      intro k hk_51  H locs ls hP hD hS hl
      have hz_51 : mm * mm = k := hk_51.symm
      subst hz_51
      refine lv_iload_n hx hb dX5_rankAll_51 rfl (lv_at hl 2 rfl) ?_
      refine lv_iload_n hx hb dX5_rankAll_52 rfl (lv_at hl 1 rfl) ?_
      refine lv_iload_n hx hb dX5_rankAll_53 rfl (lv_at hl 1 rfl) ?_
      refine lv_imul hx hb dX5_rankAll_54 ?_
      refine xk_topi (y := nI (mm * mm)) (pk_mul _ _) ?_
      refine lv_icmp_ge (tgt := 71) hx hb dX5_rankAll_55 (by decide) (fun c_55 => ?_) (fun c_55 => xk_ba c_55 (nI_le (Nat.le_refl _) (by omega)))
      refine lv_iconst (v := 0) hx hb dX5_rankAll_71 (by decide) ?_
      refine lv_istore_n (lv' := [(2, .int 0), (0, .ref a0), (1, .int (nI mm))]) hx hb dX5_rankAll_72 rfl hl (by decide) rfl (fun ls hl => ?_)
      have L73 : ∀ (n i : Nat), i + n = mm → ∀ (H : Heap) (locs : List Loc) (ls : Array Slot), va_P D vwCl [(a0, .inr (5, [.int th, .int (nI Wd), .int (nI Hh), .int (nI nn), .int na, .int nb, .int (((20 * na) + nb) + 1000), .int pr, .int bk, .ref a1, .ref a2, .ref a3, .ref a4, .ref a5, .ref a6, .ref a7, .int lo, .long bt, .long bb])), (a6, .inl (cyZ, 16384, .inl (tsO na nb mm (zr (mm * mm) tr) i))), (a7, .inl (cyI, 16384, .inl rn))] H → va_D A [(a0, .inr (5, [.int th, .int (nI Wd), .int (nI Hh), .int (nI nn), .int na, .int nb, .int (((20 * na) + nb) + 1000), .int pr, .int bk, .ref a1, .ref a2, .ref a3, .ref a4, .ref a5, .ref a6, .ref a7, .int lo, .long bt, .long bb])), (a6, .inl (cyZ, 16384, .inl (tsO na nb mm (zr (mm * mm) tr) i))), (a7, .inl (cyI, 16384, .inl rn))] → va_S A s.heap H locs → lv_has ls 5 [(0, .ref a0), (1, .int (nI mm)), (2, .int (nI i))] → W p l e rm_X5_rankAll_do s m ([.ref a0] : List Value).toArray below meth c H locs 0 0 (MQ below (xk_Qv D A [(a0, .inr (5, [.int th, .int (nI Wd), .int (nI Hh), .int (nI nn), .int na, .int nb, .int (20 * na + nb + 1000), .int (cL (thF na nb mm tr) (mm * mm)), .int bk, .ref a1, .ref a2, .ref a3, .ref a4, .ref a5, .ref a6, .ref a7, .int lo, .long bt, .long bb])), (a6, .inl (cyZ, 16384, .inl (thF na nb mm tr))), (a7, .inl (cyI, 16384, .inl (rnO mm (thF na nb mm tr) rn (mm * mm))))]) ([.ref a0] : List Value).toArray s 0 0 A) (F0 m 73 ls []) := by
        intro n
        induction n with
        | zero =>
          intro i hk_73  H locs ls hP hD hS hl
          have hz_73 : mm = i := hk_73.symm
          subst hz_73
          refine lv_iload_n hx hb dX5_rankAll_73 rfl (lv_at hl 2 rfl) ?_
          refine lv_iload_n hx hb dX5_rankAll_74 rfl (lv_at hl 1 rfl) ?_
          refine lv_icmp_ge (tgt := 109) hx hb dX5_rankAll_75 (by decide) (fun c_75 => ?_) (fun c_75 => xk_ba c_75 (nI_le (Nat.le_refl _) (by omega)))
          refine lv_aload_n hx hb dX5_rankAll_109 rfl (lv_at hl 0 rfl) ?_
          refine lv_iconst (v := 0) hx hb dX5_rankAll_110 (by decide) ?_
          refine va_put (D := D) (ci := 5) (v := .int 0) (ty := .int) (C := RX5) (T := TX5) (N := 19) hx hb hts in_X5_rankAll_do_X5 tyX5 tyX5_ok nmX5 hown hK hP hD hS 0 rfl rfl 7 (by decide) hf114 (fun _ h9 => h9) rfl (by decide +kernel) (rfl) (rfl) (Nat.le_of_ble_eq_true rfl) dX5_rankAll_111 (fun H locs hP hD hS => ?_)
          have hP : va_P D vwCl [(a0, .inr (5, [.int th, .int (nI Wd), .int (nI Hh), .int (nI nn), .int na, .int nb, .int (((20 * na) + nb) + 1000), .int 0, .int bk, .ref a1, .ref a2, .ref a3, .ref a4, .ref a5, .ref a6, .ref a7, .int lo, .long bt, .long bb])), (a6, .inl (cyZ, 16384, .inl (tsO na nb mm (zr (mm * mm) tr) mm))), (a7, .inl (cyI, 16384, .inl rn))] H := hP
          have hD : va_D A [(a0, .inr (5, [.int th, .int (nI Wd), .int (nI Hh), .int (nI nn), .int na, .int nb, .int (((20 * na) + nb) + 1000), .int 0, .int bk, .ref a1, .ref a2, .ref a3, .ref a4, .ref a5, .ref a6, .ref a7, .int lo, .long bt, .long bb])), (a6, .inl (cyZ, 16384, .inl (tsO na nb mm (zr (mm * mm) tr) mm))), (a7, .inl (cyI, 16384, .inl rn))] := hD
          refine lv_iconst (v := 0) hx hb dX5_rankAll_114 (by decide) ?_
          refine lv_istore_n (lv' := [(2, .int 0), (0, .ref a0), (1, .int (nI mm))]) hx hb dX5_rankAll_115 rfl hl (by decide) rfl (fun ls hl => ?_)
          have L116 : ∀ (n k : Nat), k + n = (mm * mm) → ∀ (H : Heap) (locs : List Loc) (ls : Array Slot), va_P D vwCl [(a0, .inr (5, [.int th, .int (nI Wd), .int (nI Hh), .int (nI nn), .int na, .int nb, .int (((20 * na) + nb) + 1000), .int (cL (thF na nb mm tr) k), .int bk, .ref a1, .ref a2, .ref a3, .ref a4, .ref a5, .ref a6, .ref a7, .int lo, .long bt, .long bb])), (a6, .inl (cyZ, 16384, .inl (tsO na nb mm (zr (mm * mm) tr) mm))), (a7, .inl (cyI, 16384, .inl rn))] H → va_D A [(a0, .inr (5, [.int th, .int (nI Wd), .int (nI Hh), .int (nI nn), .int na, .int nb, .int (((20 * na) + nb) + 1000), .int (cL (thF na nb mm tr) k), .int bk, .ref a1, .ref a2, .ref a3, .ref a4, .ref a5, .ref a6, .ref a7, .int lo, .long bt, .long bb])), (a6, .inl (cyZ, 16384, .inl (tsO na nb mm (zr (mm * mm) tr) mm))), (a7, .inl (cyI, 16384, .inl rn))] → va_S A s.heap H locs → lv_has ls 5 [(0, .ref a0), (1, .int (nI mm)), (2, .int (nI k))] → W p l e rm_X5_rankAll_do s m ([.ref a0] : List Value).toArray below meth c H locs 0 0 (MQ below (xk_Qv D A [(a0, .inr (5, [.int th, .int (nI Wd), .int (nI Hh), .int (nI nn), .int na, .int nb, .int (20 * na + nb + 1000), .int (cL (thF na nb mm tr) (mm * mm)), .int bk, .ref a1, .ref a2, .ref a3, .ref a4, .ref a5, .ref a6, .ref a7, .int lo, .long bt, .long bb])), (a6, .inl (cyZ, 16384, .inl (thF na nb mm tr))), (a7, .inl (cyI, 16384, .inl (rnO mm (thF na nb mm tr) rn (mm * mm))))]) ([.ref a0] : List Value).toArray s 0 0 A) (F0 m 116 ls []) := by
            intro n
            induction n with
            | zero =>
              intro k hk_116  H locs ls hP hD hS hl
              have hz_116 : mm * mm = k := hk_116.symm
              subst hz_116
              refine lv_iload_n hx hb dX5_rankAll_116 rfl (lv_at hl 2 rfl) ?_
              refine lv_iload_n hx hb dX5_rankAll_117 rfl (lv_at hl 1 rfl) ?_
              refine lv_iload_n hx hb dX5_rankAll_118 rfl (lv_at hl 1 rfl) ?_
              refine lv_imul hx hb dX5_rankAll_119 ?_
              refine xk_topi (y := nI (mm * mm)) (pk_mul _ _) ?_
              refine lv_icmp_ge (tgt := 152) hx hb dX5_rankAll_120 (by decide) (fun c_120 => ?_) (fun c_120 => xk_ba c_120 (nI_le (Nat.le_refl _) (by omega)))
              refine lv_iconst (v := 0) hx hb dX5_rankAll_152 (by decide) ?_
              refine lv_istore_n (lv' := [(2, .int 0), (0, .ref a0), (1, .int (nI mm))]) hx hb dX5_rankAll_153 rfl hl (by decide) rfl (fun ls hl => ?_)
              have L154 : ∀ (n k : Nat), k + n = (mm * mm) → ∀ (H : Heap) (locs : List Loc) (ls : Array Slot), va_P D vwCl [(a0, .inr (5, [.int th, .int (nI Wd), .int (nI Hh), .int (nI nn), .int na, .int nb, .int (((20 * na) + nb) + 1000), .int (cL (thF na nb mm tr) (mm * mm)), .int bk, .ref a1, .ref a2, .ref a3, .ref a4, .ref a5, .ref a6, .ref a7, .int lo, .long bt, .long bb])), (a6, .inl (cyZ, 16384, .inl (tsO na nb mm (zr (mm * mm) tr) mm))), (a7, .inl (cyI, 16384, .inl (rnO mm (thF na nb mm tr) rn k)))] H → va_D A [(a0, .inr (5, [.int th, .int (nI Wd), .int (nI Hh), .int (nI nn), .int na, .int nb, .int (((20 * na) + nb) + 1000), .int (cL (thF na nb mm tr) (mm * mm)), .int bk, .ref a1, .ref a2, .ref a3, .ref a4, .ref a5, .ref a6, .ref a7, .int lo, .long bt, .long bb])), (a6, .inl (cyZ, 16384, .inl (tsO na nb mm (zr (mm * mm) tr) mm))), (a7, .inl (cyI, 16384, .inl (rnO mm (thF na nb mm tr) rn k)))] → va_S A s.heap H locs → lv_has ls 5 [(0, .ref a0), (1, .int (nI mm)), (2, .int (nI k))] → W p l e rm_X5_rankAll_do s m ([.ref a0] : List Value).toArray below meth c H locs 0 0 (MQ below (xk_Qv D A [(a0, .inr (5, [.int th, .int (nI Wd), .int (nI Hh), .int (nI nn), .int na, .int nb, .int (20 * na + nb + 1000), .int (cL (thF na nb mm tr) (mm * mm)), .int bk, .ref a1, .ref a2, .ref a3, .ref a4, .ref a5, .ref a6, .ref a7, .int lo, .long bt, .long bb])), (a6, .inl (cyZ, 16384, .inl (thF na nb mm tr))), (a7, .inl (cyI, 16384, .inl (rnO mm (thF na nb mm tr) rn (mm * mm))))]) ([.ref a0] : List Value).toArray s 0 0 A) (F0 m 154 ls []) := by
                intro n
                induction n with
                | zero =>
                  intro k hk_154  H locs ls hP hD hS hl
                  have hz_154 : mm * mm = k := hk_154.symm
                  subst hz_154
                  refine lv_iload_n hx hb dX5_rankAll_154 rfl (lv_at hl 2 rfl) ?_
                  refine lv_iload_n hx hb dX5_rankAll_155 rfl (lv_at hl 1 rfl) ?_
                  refine lv_iload_n hx hb dX5_rankAll_156 rfl (lv_at hl 1 rfl) ?_
                  refine lv_imul hx hb dX5_rankAll_157 ?_
                  refine xk_topi (y := nI (mm * mm)) (pk_mul _ _) ?_
                  refine lv_icmp_ge (tgt := 252) hx hb dX5_rankAll_158 (by decide) (fun c_158 => ?_) (fun c_158 => xk_ba c_158 (nI_le (Nat.le_refl _) (by omega)))
                  exact xk_vret hx hb hr hlocks hP hD hS (rfl) dX5_rankAll_252
                | succ n ih_154 =>
                  intro k hk_154  H locs ls hP hD hS hl
                  refine lv_iload_n hx hb dX5_rankAll_154 rfl (lv_at hl 2 rfl) ?_
                  refine lv_iload_n hx hb dX5_rankAll_155 rfl (lv_at hl 1 rfl) ?_
                  refine lv_iload_n hx hb dX5_rankAll_156 rfl (lv_at hl 1 rfl) ?_
                  refine lv_imul hx hb dX5_rankAll_157 ?_
                  refine xk_topi (y := nI (mm * mm)) (pk_mul _ _) ?_
                  refine lv_icmp_ge (tgt := 252) hx hb dX5_rankAll_158 (by decide) (fun c_158 => xk_ab c_158 (nI_ge (by omega) (by omega))) (fun c_158 => ?_)
                  refine lv_aload_n hx hb dX5_rankAll_161 rfl (lv_at hl 0 rfl) ?_
                  refine va_get (D := D) (ci := 5) (v := .ref a6) (C := RX5) (T := TX5) (N := 19) hx hb hts in_X5_rankAll_do_X5 hown hK hP 0 rfl rfl 14 (by decide) hf45 (fun _ h9 => h9) rfl dX5_rankAll_162 ?_
                  refine lv_iload_n hx hb dX5_rankAll_165 rfl (lv_at hl 2 rfl) ?_
                  refine xk_zald hx hb hK hP 1 rfl k (rfl) (by omega) (by decide) dX5_rankAll_166 ?_
                  refine lv_if_ne (tgt := 173) hx hb dX5_rankAll_167 (by decide) (fun c_167 => ?_) (fun c_167 => ?_)
                  · refine lv_iconst (v := 0) hx hb dX5_rankAll_173 (by decide) ?_
                    refine lv_istore_n (lv' := [(3, .int 0), (0, .ref a0), (1, .int (nI mm)), (2, .int (nI k))]) hx hb dX5_rankAll_174 rfl hl (by decide) rfl (fun ls hl => ?_)
                    refine lv_iconst (v := 0) hx hb dX5_rankAll_175 (by decide) ?_
                    refine lv_istore (lv' := [(4, .int 0), (3, .int 0), (0, .ref a0), (1, .int (nI mm)), (2, .int (nI k))]) hx hb dX5_rankAll_176 hl (by decide) rfl (fun ls hl => ?_)
                    have L178 : ∀ (n j : Nat), j + n = (mm * mm) → ∀ (H : Heap) (locs : List Loc) (ls : Array Slot), va_P D vwCl [(a0, .inr (5, [.int th, .int (nI Wd), .int (nI Hh), .int (nI nn), .int na, .int nb, .int (((20 * na) + nb) + 1000), .int (cL (thF na nb mm tr) (mm * mm)), .int bk, .ref a1, .ref a2, .ref a3, .ref a4, .ref a5, .ref a6, .ref a7, .int lo, .long bt, .long bb])), (a6, .inl (cyZ, 16384, .inl (tsO na nb mm (zr (mm * mm) tr) mm))), (a7, .inl (cyI, 16384, .inl (rnO mm (thF na nb mm tr) rn k)))] H → va_D A [(a0, .inr (5, [.int th, .int (nI Wd), .int (nI Hh), .int (nI nn), .int na, .int nb, .int (((20 * na) + nb) + 1000), .int (cL (thF na nb mm tr) (mm * mm)), .int bk, .ref a1, .ref a2, .ref a3, .ref a4, .ref a5, .ref a6, .ref a7, .int lo, .long bt, .long bb])), (a6, .inl (cyZ, 16384, .inl (tsO na nb mm (zr (mm * mm) tr) mm))), (a7, .inl (cyI, 16384, .inl (rnO mm (thF na nb mm tr) rn k)))] → va_S A s.heap H locs → lv_has ls 5 [(0, .ref a0), (1, .int (nI mm)), (2, .int (nI k)), (3, .int (ahI mm (thF na nb mm tr) k j)), (4, .int (nI j))] → W p l e rm_X5_rankAll_do s m ([.ref a0] : List Value).toArray below meth c H locs 0 0 (MQ below (xk_Qv D A [(a0, .inr (5, [.int th, .int (nI Wd), .int (nI Hh), .int (nI nn), .int na, .int nb, .int (20 * na + nb + 1000), .int (cL (thF na nb mm tr) (mm * mm)), .int bk, .ref a1, .ref a2, .ref a3, .ref a4, .ref a5, .ref a6, .ref a7, .int lo, .long bt, .long bb])), (a6, .inl (cyZ, 16384, .inl (thF na nb mm tr))), (a7, .inl (cyI, 16384, .inl (rnO mm (thF na nb mm tr) rn (mm * mm))))]) ([.ref a0] : List Value).toArray s 0 0 A) (F0 m 178 ls []) := by
                      intro n
                      induction n with
                      | zero =>
                        intro j hk_178  H locs ls hP hD hS hl
                        have hz_178 : mm * mm = j := hk_178.symm
                        subst hz_178
                        refine lv_iload hx hb dX5_rankAll_178 (lv_at hl 4 rfl) ?_
                        refine lv_iload_n hx hb dX5_rankAll_180 rfl (lv_at hl 1 rfl) ?_
                        refine lv_iload_n hx hb dX5_rankAll_181 rfl (lv_at hl 1 rfl) ?_
                        refine lv_imul hx hb dX5_rankAll_182 ?_
                        refine xk_topi (y := nI (mm * mm)) (pk_mul _ _) ?_
                        refine lv_icmp_ge (tgt := 239) hx hb dX5_rankAll_183 (by decide) (fun c_183 => ?_) (fun c_183 => xk_ba c_183 (nI_le (Nat.le_refl _) (by omega)))
                        refine lv_aload_n hx hb dX5_rankAll_239 rfl (lv_at hl 0 rfl) ?_
                        refine va_get (D := D) (ci := 5) (v := .ref a7) (C := RX5) (T := TX5) (N := 19) hx hb hts in_X5_rankAll_do_X5 hown hK hP 0 rfl rfl 15 (by decide) hf48 (fun _ h9 => h9) rfl dX5_rankAll_240 ?_
                        refine lv_iload_n hx hb dX5_rankAll_243 rfl (lv_at hl 2 rfl) ?_
                        refine lv_iload_n hx hb dX5_rankAll_244 rfl (lv_at hl 3 rfl) ?_
                        refine xk_iast (w2 := [(a0, .inr (5, [.int th, .int (nI Wd), .int (nI Hh), .int (nI nn), .int na, .int nb, .int (((20 * na) + nb) + 1000), .int (cL (thF na nb mm tr) (mm * mm)), .int bk, .ref a1, .ref a2, .ref a3, .ref a4, .ref a5, .ref a6, .ref a7, .int lo, .long bt, .long bb])), (a6, .inl (cyZ, 16384, .inl (tsO na nb mm (zr (mm * mm) tr) mm))), (a7, .inl (cyI, 16384, .inl (upd (rnO mm (thF na nb mm tr) rn k) k (ahI mm (thF na nb mm tr) k (mm * mm)))))]) hx hb hK hP hD hS 2 rfl k (rfl) (by omega) (by decide) rfl dX5_rankAll_245 (fun H locs hP hD hS => ?_)
                        refine lv_iinc (v := nI (k + 1)) (lv' := [(2, .int (nI (k + 1))), (0, .ref a0), (1, .int (nI mm)), (3, .int (ahI mm (thF na nb mm tr) k (mm * mm))), (4, .int (nI (mm * mm)))]) hx hb dX5_rankAll_246 hl (k := 2) rfl (nI_1 _) (by decide) rfl (fun ls hl => ?_)
                        refine lv_goto (tgt := 154) hx hb dX5_rankAll_249 (by decide) ?_
                        have eq_131 : (upd (rnO mm (thF na nb mm tr) rn k) k (ahI mm (thF na nb mm tr) k (mm * mm)) : Nat → Int32) = rnO mm (thF na nb mm tr) rn (k + 1) := rnO_b c_167
                        have eW : ([(a0, .inr (5, [.int th, .int (nI Wd), .int (nI Hh), .int (nI nn), .int na, .int nb, .int (((20 * na) + nb) + 1000), .int (cL (thF na nb mm tr) (mm * mm)), .int bk, .ref a1, .ref a2, .ref a3, .ref a4, .ref a5, .ref a6, .ref a7, .int lo, .long bt, .long bb])), (a6, .inl (cyZ, 16384, .inl (tsO na nb mm (zr (mm * mm) tr) mm))), (a7, .inl (cyI, 16384, .inl (upd (rnO mm (thF na nb mm tr) rn k) k (ahI mm (thF na nb mm tr) k (mm * mm)))))] : va_W) = [(a0, .inr (5, [.int th, .int (nI Wd), .int (nI Hh), .int (nI nn), .int na, .int nb, .int (((20 * na) + nb) + 1000), .int (cL (thF na nb mm tr) (mm * mm)), .int bk, .ref a1, .ref a2, .ref a3, .ref a4, .ref a5, .ref a6, .ref a7, .int lo, .long bt, .long bb])), (a6, .inl (cyZ, 16384, .inl (tsO na nb mm (zr (mm * mm) tr) mm))), (a7, .inl (cyI, 16384, .inl (rnO mm (thF na nb mm tr) rn (k + 1))))] := (congrArg (List.cons _) (congrArg (List.cons _) (congr (congrArg List.cons (congrArg (fun z => ((a7, (Sum.inl (cyI, 16384, Sum.inl z) : va_E)) : Nat × va_E)) eq_131)) rfl)))
                        rw [eW] at hP hD
                        have hl := lv_sub (l' := [(0, .ref a0), (1, .int (nI mm)), (2, .int (nI (k + 1)))]) hl [1, 2, 0] rfl
                        exact ih_154 (k + 1) (by omega)  _ _ _ hP hD hS hl
                      | succ n ih_178 =>
                        intro j hk_178  H locs ls hP hD hS hl
                        refine lv_iload hx hb dX5_rankAll_178 (lv_at hl 4 rfl) ?_
                        refine lv_iload_n hx hb dX5_rankAll_180 rfl (lv_at hl 1 rfl) ?_
                        refine lv_iload_n hx hb dX5_rankAll_181 rfl (lv_at hl 1 rfl) ?_
                        refine lv_imul hx hb dX5_rankAll_182 ?_
                        refine xk_topi (y := nI (mm * mm)) (pk_mul _ _) ?_
                        refine lv_icmp_ge (tgt := 239) hx hb dX5_rankAll_183 (by decide) (fun c_183 => xk_ab c_183 (nI_ge (by omega) (by omega))) (fun c_183 => ?_)
                        refine lv_aload_n hx hb dX5_rankAll_186 rfl (lv_at hl 0 rfl) ?_
                        refine va_get (D := D) (ci := 5) (v := .ref a6) (C := RX5) (T := TX5) (N := 19) hx hb hts in_X5_rankAll_do_X5 hown hK hP 0 rfl rfl 14 (by decide) hf45 (fun _ h9 => h9) rfl dX5_rankAll_187 ?_
                        refine lv_iload hx hb dX5_rankAll_190 (lv_at hl 4 rfl) ?_
                        refine xk_zald hx hb hK hP 1 rfl j (rfl) (by omega) (by decide) dX5_rankAll_192 ?_
                        refine lv_if_eq (tgt := 233) hx hb dX5_rankAll_193 (by decide) (fun c_193 => ?_) (fun c_193 => ?_)
                        · refine lv_iinc (v := nI (j + 1)) (lv' := [(4, .int (nI (j + 1))), (0, .ref a0), (1, .int (nI mm)), (2, .int (nI k)), (3, .int (ahI mm (thF na nb mm tr) k j))]) hx hb dX5_rankAll_233 hl (k := 4) rfl (nI_1 _) (by decide) rfl (fun ls hl => ?_)
                          refine lv_goto (tgt := 178) hx hb dX5_rankAll_236 (by decide) ?_
                          have eq_151 : (ahI mm (thF na nb mm tr) k j : Int32) = ahI mm (thF na nb mm tr) k (j + 1) := ahI_f (fun h => h.1 c_193)
                          have hl := lv_sub (l' := [(0, .ref a0), (1, .int (nI mm)), (2, .int (nI k)), (3, .int (ahI mm (thF na nb mm tr) k j)), (4, .int (nI (j + 1)))]) hl [1, 2, 3, 4, 0] rfl
                          have eL : ([(0, .ref a0), (1, .int (nI mm)), (2, .int (nI k)), (3, .int (ahI mm (thF na nb mm tr) k j)), (4, .int (nI (j + 1)))] : List (Nat × Value)) = [(0, .ref a0), (1, .int (nI mm)), (2, .int (nI k)), (3, .int (ahI mm (thF na nb mm tr) k (j + 1))), (4, .int (nI (j + 1)))] := (congrArg (List.cons _) (congrArg (List.cons _) (congrArg (List.cons _) (congr (congrArg List.cons (congrArg (fun z => (((3 : Nat), Value.int z) : Nat × Value)) eq_151)) (congrArg (List.cons _) rfl)))))
                          rw [eL] at hl
                          exact ih_178 (j + 1) (by omega)  _ _ _ hP hD hS hl
                        · refine lv_aload_n hx hb dX5_rankAll_196 rfl (lv_at hl 0 rfl) ?_
                          refine lv_iload hx hb dX5_rankAll_197 (lv_at hl 4 rfl) ?_
                          have hPc := hP.sub (ws' := [(a0, .inr (5, [.int th, .int (nI Wd), .int (nI Hh), .int (nI nn), .int na, .int nb, .int (((20 * na) + nb) + 1000), .int (cL (thF na nb mm tr) (mm * mm)), .int bk, .ref a1, .ref a2, .ref a3, .ref a4, .ref a5, .ref a6, .ref a7, .int lo, .long bt, .long bb]))]) [0] rfl
                          have hDc := hD.sub (ws' := [(a0, .inr (5, [.int th, .int (nI Wd), .int (nI Hh), .int (nI nn), .int na, .int nb, .int (((20 * na) + nb) + 1000), .int (cL (thF na nb mm tr) (mm * mm)), .int bk, .ref a1, .ref a2, .ref a3, .ref a4, .ref a5, .ref a6, .ref a7, .int lo, .long bt, .long bb]))]) [0] (by decide) rfl
                          refine xk_calli (wr := [(a6, .inl (cyZ, 16384, .inl (tsO na nb mm (zr (mm * mm) tr) mm))), (a7, .inl (cyI, 16384, .inl (rnO mm (thF na nb mm tr) rn k)))]) (w2 := [(a0, .inr (5, [.int th, .int (nI Wd), .int (nI Hh), .int (nI nn), .int na, .int nb, .int (((20 * na) + nb) + 1000), .int (cL (thF na nb mm tr) (mm * mm)), .int bk, .ref a1, .ref a2, .ref a3, .ref a4, .ref a5, .ref a6, .ref a7, .int lo, .long bt, .long bb])), (a6, .inl (cyZ, 16384, .inl (tsO na nb mm (zr (mm * mm) tr) mm))), (a7, .inl (cyI, 16384, .inl (rnO mm (thF na nb mm tr) rn k)))]) (va_runV (As := [.int (nI j)]) (rest := []) hC0 (ct_X5_far l D cyI cyZ a0 a1 a2 a3 a4 a5 a6 a7 _ th Wd Hh nn na nb (((20 * na) + nb) + 1000) (cL (thF na nb mm tr) (mm * mm)) bk lo bt bb mm j (by first | assumption | omega) (by first | assumption | omega) (by first | assumption | omega) (by omega)) (cwV 1 hts gX5_rankAll_X5_far rfl rfl rfl (by decide +kernel) ⟨Nat.le_of_ble_eq_true rfl, Nat.le_of_ble_eq_true rfl⟩) ⟨xk_blind, va_recv hK hPc (ci := 5) (q0 := 0) rfl rfl, xk_pre hK hN hPc hDc⟩ rfl rfl hl.1 rfl (lv_room (Nat.le_of_ble_eq_true rfl)) dX5_rankAll_199 ⟨Nat.le_of_ble_eq_true rfl, Nat.le_of_ble_eq_true rfl⟩) hP hD hS hA [0] [1, 2] [2, 0, 1] rfl rfl (by decide) (by decide) rfl (by decide) (fun H locs hP hD hS => ?_)
                          refine lv_aload_n hx hb dX5_rankAll_202 rfl (lv_at hl 0 rfl) ?_
                          refine lv_iload_n hx hb dX5_rankAll_203 rfl (lv_at hl 2 rfl) ?_
                          have hPc := hP.sub (ws' := [(a0, .inr (5, [.int th, .int (nI Wd), .int (nI Hh), .int (nI nn), .int na, .int nb, .int (((20 * na) + nb) + 1000), .int (cL (thF na nb mm tr) (mm * mm)), .int bk, .ref a1, .ref a2, .ref a3, .ref a4, .ref a5, .ref a6, .ref a7, .int lo, .long bt, .long bb]))]) [0] rfl
                          have hDc := hD.sub (ws' := [(a0, .inr (5, [.int th, .int (nI Wd), .int (nI Hh), .int (nI nn), .int na, .int nb, .int (((20 * na) + nb) + 1000), .int (cL (thF na nb mm tr) (mm * mm)), .int bk, .ref a1, .ref a2, .ref a3, .ref a4, .ref a5, .ref a6, .ref a7, .int lo, .long bt, .long bb]))]) [0] (by decide) rfl
                          refine xk_calli (wr := [(a6, .inl (cyZ, 16384, .inl (tsO na nb mm (zr (mm * mm) tr) mm))), (a7, .inl (cyI, 16384, .inl (rnO mm (thF na nb mm tr) rn k)))]) (w2 := [(a0, .inr (5, [.int th, .int (nI Wd), .int (nI Hh), .int (nI nn), .int na, .int nb, .int (((20 * na) + nb) + 1000), .int (cL (thF na nb mm tr) (mm * mm)), .int bk, .ref a1, .ref a2, .ref a3, .ref a4, .ref a5, .ref a6, .ref a7, .int lo, .long bt, .long bb])), (a6, .inl (cyZ, 16384, .inl (tsO na nb mm (zr (mm * mm) tr) mm))), (a7, .inl (cyI, 16384, .inl (rnO mm (thF na nb mm tr) rn k)))]) (va_runV (As := [.int (nI k)]) (rest := [.int (frI mm j)]) hC0 (ct_X5_far l D cyI cyZ a0 a1 a2 a3 a4 a5 a6 a7 _ th Wd Hh nn na nb (((20 * na) + nb) + 1000) (cL (thF na nb mm tr) (mm * mm)) bk lo bt bb mm k (by first | assumption | omega) (by first | assumption | omega) (by first | assumption | omega) (by omega)) (cwV 1 hts gX5_rankAll_X5_far rfl rfl rfl (by decide +kernel) ⟨Nat.le_of_ble_eq_true rfl, Nat.le_of_ble_eq_true rfl⟩) ⟨xk_blind, va_recv hK hPc (ci := 5) (q0 := 0) rfl rfl, xk_pre hK hN hPc hDc⟩ rfl rfl hl.1 rfl (lv_room (Nat.le_of_ble_eq_true rfl)) dX5_rankAll_204 ⟨Nat.le_of_ble_eq_true rfl, Nat.le_of_ble_eq_true rfl⟩) hP hD hS hA [0] [1, 2] [2, 0, 1] rfl rfl (by decide) (by decide) rfl (by decide) (fun H locs hP hD hS => ?_)
                          refine lv_icmp_lt (tgt := 230) hx hb dX5_rankAll_207 (by decide) (fun c_207 => ?_) (fun c_207 => ?_)
                          · refine lv_iinc (v := (ahI mm (thF na nb mm tr) k j + 1)) (lv' := [(3, .int (ahI mm (thF na nb mm tr) k j + 1)), (0, .ref a0), (1, .int (nI mm)), (2, .int (nI k)), (4, .int (nI j))]) hx hb dX5_rankAll_230 hl (k := 3) rfl (rfl) (by decide) rfl (fun ls hl => ?_)
                            refine lv_iinc (v := nI (j + 1)) (lv' := [(4, .int (nI (j + 1))), (3, .int (ahI mm (thF na nb mm tr) k j + 1)), (0, .ref a0), (1, .int (nI mm)), (2, .int (nI k))]) hx hb dX5_rankAll_233 hl (k := 4) rfl (nI_1 _) (by decide) rfl (fun ls hl => ?_)
                            refine lv_goto (tgt := 178) hx hb dX5_rankAll_236 (by decide) ?_
                            have eq_170 : (ahI mm (thF na nb mm tr) k j + 1 : Int32) = ahI mm (thF na nb mm tr) k (j + 1) := ahI_t ⟨c_193, Or.inl c_207⟩
                            have hl := lv_sub (l' := [(0, .ref a0), (1, .int (nI mm)), (2, .int (nI k)), (3, .int (ahI mm (thF na nb mm tr) k j + 1)), (4, .int (nI (j + 1)))]) hl [2, 3, 4, 1, 0] rfl
                            have eL : ([(0, .ref a0), (1, .int (nI mm)), (2, .int (nI k)), (3, .int (ahI mm (thF na nb mm tr) k j + 1)), (4, .int (nI (j + 1)))] : List (Nat × Value)) = [(0, .ref a0), (1, .int (nI mm)), (2, .int (nI k)), (3, .int (ahI mm (thF na nb mm tr) k (j + 1))), (4, .int (nI (j + 1)))] := (congrArg (List.cons _) (congrArg (List.cons _) (congrArg (List.cons _) (congr (congrArg List.cons (congrArg (fun z => (((3 : Nat), Value.int z) : Nat × Value)) eq_170)) (congrArg (List.cons _) rfl)))))
                            rw [eL] at hl
                            exact ih_178 (j + 1) (by omega)  _ _ _ hP hD hS hl
                          · refine lv_aload_n hx hb dX5_rankAll_210 rfl (lv_at hl 0 rfl) ?_
                            refine lv_iload hx hb dX5_rankAll_211 (lv_at hl 4 rfl) ?_
                            have hPc := hP.sub (ws' := [(a0, .inr (5, [.int th, .int (nI Wd), .int (nI Hh), .int (nI nn), .int na, .int nb, .int (((20 * na) + nb) + 1000), .int (cL (thF na nb mm tr) (mm * mm)), .int bk, .ref a1, .ref a2, .ref a3, .ref a4, .ref a5, .ref a6, .ref a7, .int lo, .long bt, .long bb]))]) [0] rfl
                            have hDc := hD.sub (ws' := [(a0, .inr (5, [.int th, .int (nI Wd), .int (nI Hh), .int (nI nn), .int na, .int nb, .int (((20 * na) + nb) + 1000), .int (cL (thF na nb mm tr) (mm * mm)), .int bk, .ref a1, .ref a2, .ref a3, .ref a4, .ref a5, .ref a6, .ref a7, .int lo, .long bt, .long bb]))]) [0] (by decide) rfl
                            refine xk_calli (wr := [(a6, .inl (cyZ, 16384, .inl (tsO na nb mm (zr (mm * mm) tr) mm))), (a7, .inl (cyI, 16384, .inl (rnO mm (thF na nb mm tr) rn k)))]) (w2 := [(a0, .inr (5, [.int th, .int (nI Wd), .int (nI Hh), .int (nI nn), .int na, .int nb, .int (((20 * na) + nb) + 1000), .int (cL (thF na nb mm tr) (mm * mm)), .int bk, .ref a1, .ref a2, .ref a3, .ref a4, .ref a5, .ref a6, .ref a7, .int lo, .long bt, .long bb])), (a6, .inl (cyZ, 16384, .inl (tsO na nb mm (zr (mm * mm) tr) mm))), (a7, .inl (cyI, 16384, .inl (rnO mm (thF na nb mm tr) rn k)))]) (va_runV (As := [.int (nI j)]) (rest := []) hC0 (ct_X5_far l D cyI cyZ a0 a1 a2 a3 a4 a5 a6 a7 _ th Wd Hh nn na nb (((20 * na) + nb) + 1000) (cL (thF na nb mm tr) (mm * mm)) bk lo bt bb mm j (by first | assumption | omega) (by first | assumption | omega) (by first | assumption | omega) (by omega)) (cwV 1 hts gX5_rankAll_X5_far rfl rfl rfl (by decide +kernel) ⟨Nat.le_of_ble_eq_true rfl, Nat.le_of_ble_eq_true rfl⟩) ⟨xk_blind, va_recv hK hPc (ci := 5) (q0 := 0) rfl rfl, xk_pre hK hN hPc hDc⟩ rfl rfl hl.1 rfl (lv_room (Nat.le_of_ble_eq_true rfl)) dX5_rankAll_213 ⟨Nat.le_of_ble_eq_true rfl, Nat.le_of_ble_eq_true rfl⟩) hP hD hS hA [0] [1, 2] [2, 0, 1] rfl rfl (by decide) (by decide) rfl (by decide) (fun H locs hP hD hS => ?_)
                            refine lv_aload_n hx hb dX5_rankAll_216 rfl (lv_at hl 0 rfl) ?_
                            refine lv_iload_n hx hb dX5_rankAll_217 rfl (lv_at hl 2 rfl) ?_
                            have hPc := hP.sub (ws' := [(a0, .inr (5, [.int th, .int (nI Wd), .int (nI Hh), .int (nI nn), .int na, .int nb, .int (((20 * na) + nb) + 1000), .int (cL (thF na nb mm tr) (mm * mm)), .int bk, .ref a1, .ref a2, .ref a3, .ref a4, .ref a5, .ref a6, .ref a7, .int lo, .long bt, .long bb]))]) [0] rfl
                            have hDc := hD.sub (ws' := [(a0, .inr (5, [.int th, .int (nI Wd), .int (nI Hh), .int (nI nn), .int na, .int nb, .int (((20 * na) + nb) + 1000), .int (cL (thF na nb mm tr) (mm * mm)), .int bk, .ref a1, .ref a2, .ref a3, .ref a4, .ref a5, .ref a6, .ref a7, .int lo, .long bt, .long bb]))]) [0] (by decide) rfl
                            refine xk_calli (wr := [(a6, .inl (cyZ, 16384, .inl (tsO na nb mm (zr (mm * mm) tr) mm))), (a7, .inl (cyI, 16384, .inl (rnO mm (thF na nb mm tr) rn k)))]) (w2 := [(a0, .inr (5, [.int th, .int (nI Wd), .int (nI Hh), .int (nI nn), .int na, .int nb, .int (((20 * na) + nb) + 1000), .int (cL (thF na nb mm tr) (mm * mm)), .int bk, .ref a1, .ref a2, .ref a3, .ref a4, .ref a5, .ref a6, .ref a7, .int lo, .long bt, .long bb])), (a6, .inl (cyZ, 16384, .inl (tsO na nb mm (zr (mm * mm) tr) mm))), (a7, .inl (cyI, 16384, .inl (rnO mm (thF na nb mm tr) rn k)))]) (va_runV (As := [.int (nI k)]) (rest := [.int (frI mm j)]) hC0 (ct_X5_far l D cyI cyZ a0 a1 a2 a3 a4 a5 a6 a7 _ th Wd Hh nn na nb (((20 * na) + nb) + 1000) (cL (thF na nb mm tr) (mm * mm)) bk lo bt bb mm k (by first | assumption | omega) (by first | assumption | omega) (by first | assumption | omega) (by omega)) (cwV 1 hts gX5_rankAll_X5_far rfl rfl rfl (by decide +kernel) ⟨Nat.le_of_ble_eq_true rfl, Nat.le_of_ble_eq_true rfl⟩) ⟨xk_blind, va_recv hK hPc (ci := 5) (q0 := 0) rfl rfl, xk_pre hK hN hPc hDc⟩ rfl rfl hl.1 rfl (lv_room (Nat.le_of_ble_eq_true rfl)) dX5_rankAll_218 ⟨Nat.le_of_ble_eq_true rfl, Nat.le_of_ble_eq_true rfl⟩) hP hD hS hA [0] [1, 2] [2, 0, 1] rfl rfl (by decide) (by decide) rfl (by decide) (fun H locs hP hD hS => ?_)
                            refine lv_icmp_ne (tgt := 233) hx hb dX5_rankAll_221 (by decide) (fun c_221 => ?_) (fun c_221 => ?_)
                            · refine lv_iinc (v := nI (j + 1)) (lv' := [(4, .int (nI (j + 1))), (0, .ref a0), (1, .int (nI mm)), (2, .int (nI k)), (3, .int (ahI mm (thF na nb mm tr) k j))]) hx hb dX5_rankAll_233 hl (k := 4) rfl (nI_1 _) (by decide) rfl (fun ls hl => ?_)
                              refine lv_goto (tgt := 178) hx hb dX5_rankAll_236 (by decide) ?_
                              have eq_188 : (ahI mm (thF na nb mm tr) k j : Int32) = ahI mm (thF na nb mm tr) k (j + 1) := ahI_f (fun h => h.2.elim c_207 (fun q => c_221 q.1))
                              have hl := lv_sub (l' := [(0, .ref a0), (1, .int (nI mm)), (2, .int (nI k)), (3, .int (ahI mm (thF na nb mm tr) k j)), (4, .int (nI (j + 1)))]) hl [1, 2, 3, 4, 0] rfl
                              have eL : ([(0, .ref a0), (1, .int (nI mm)), (2, .int (nI k)), (3, .int (ahI mm (thF na nb mm tr) k j)), (4, .int (nI (j + 1)))] : List (Nat × Value)) = [(0, .ref a0), (1, .int (nI mm)), (2, .int (nI k)), (3, .int (ahI mm (thF na nb mm tr) k (j + 1))), (4, .int (nI (j + 1)))] := (congrArg (List.cons _) (congrArg (List.cons _) (congrArg (List.cons _) (congr (congrArg List.cons (congrArg (fun z => (((3 : Nat), Value.int z) : Nat × Value)) eq_188)) (congrArg (List.cons _) rfl)))))
                              rw [eL] at hl
                              exact ih_178 (j + 1) (by omega)  _ _ _ hP hD hS hl
                            · refine lv_iload hx hb dX5_rankAll_224 (lv_at hl 4 rfl) ?_
                              refine lv_iload_n hx hb dX5_rankAll_226 rfl (lv_at hl 2 rfl) ?_
                              refine lv_icmp_ge (tgt := 233) hx hb dX5_rankAll_227 (by decide) (fun c_227 => ?_) (fun c_227 => ?_)
                              · refine lv_iinc (v := nI (j + 1)) (lv' := [(4, .int (nI (j + 1))), (0, .ref a0), (1, .int (nI mm)), (2, .int (nI k)), (3, .int (ahI mm (thF na nb mm tr) k j))]) hx hb dX5_rankAll_233 hl (k := 4) rfl (nI_1 _) (by decide) rfl (fun ls hl => ?_)
                                refine lv_goto (tgt := 178) hx hb dX5_rankAll_236 (by decide) ?_
                                have eq_198 : (ahI mm (thF na nb mm tr) k j : Int32) = ahI mm (thF na nb mm tr) k (j + 1) := ahI_f (fun h => h.2.elim c_207 (fun q => absurd q.2 (Nat.not_lt.mpr ((nI_leI (by omega) (by omega)).mp c_227))))
                                have hl := lv_sub (l' := [(0, .ref a0), (1, .int (nI mm)), (2, .int (nI k)), (3, .int (ahI mm (thF na nb mm tr) k j)), (4, .int (nI (j + 1)))]) hl [1, 2, 3, 4, 0] rfl
                                have eL : ([(0, .ref a0), (1, .int (nI mm)), (2, .int (nI k)), (3, .int (ahI mm (thF na nb mm tr) k j)), (4, .int (nI (j + 1)))] : List (Nat × Value)) = [(0, .ref a0), (1, .int (nI mm)), (2, .int (nI k)), (3, .int (ahI mm (thF na nb mm tr) k (j + 1))), (4, .int (nI (j + 1)))] := (congrArg (List.cons _) (congrArg (List.cons _) (congrArg (List.cons _) (congr (congrArg List.cons (congrArg (fun z => (((3 : Nat), Value.int z) : Nat × Value)) eq_198)) (congrArg (List.cons _) rfl)))))
                                rw [eL] at hl
                                exact ih_178 (j + 1) (by omega)  _ _ _ hP hD hS hl
                              · refine lv_iinc (v := (ahI mm (thF na nb mm tr) k j + 1)) (lv' := [(3, .int (ahI mm (thF na nb mm tr) k j + 1)), (0, .ref a0), (1, .int (nI mm)), (2, .int (nI k)), (4, .int (nI j))]) hx hb dX5_rankAll_230 hl (k := 3) rfl (rfl) (by decide) rfl (fun ls hl => ?_)
                                refine lv_iinc (v := nI (j + 1)) (lv' := [(4, .int (nI (j + 1))), (3, .int (ahI mm (thF na nb mm tr) k j + 1)), (0, .ref a0), (1, .int (nI mm)), (2, .int (nI k))]) hx hb dX5_rankAll_233 hl (k := 4) rfl (nI_1 _) (by decide) rfl (fun ls hl => ?_)
                                refine lv_goto (tgt := 178) hx hb dX5_rankAll_236 (by decide) ?_
                                have eq_206 : (ahI mm (thF na nb mm tr) k j + 1 : Int32) = ahI mm (thF na nb mm tr) k (j + 1) := ahI_t ⟨c_193, Or.inr ⟨c_221, Nat.lt_of_not_le (fun q => c_227 (nI_le q (by omega)))⟩⟩
                                have hl := lv_sub (l' := [(0, .ref a0), (1, .int (nI mm)), (2, .int (nI k)), (3, .int (ahI mm (thF na nb mm tr) k j + 1)), (4, .int (nI (j + 1)))]) hl [2, 3, 4, 1, 0] rfl
                                have eL : ([(0, .ref a0), (1, .int (nI mm)), (2, .int (nI k)), (3, .int (ahI mm (thF na nb mm tr) k j + 1)), (4, .int (nI (j + 1)))] : List (Nat × Value)) = [(0, .ref a0), (1, .int (nI mm)), (2, .int (nI k)), (3, .int (ahI mm (thF na nb mm tr) k (j + 1))), (4, .int (nI (j + 1)))] := (congrArg (List.cons _) (congrArg (List.cons _) (congrArg (List.cons _) (congr (congrArg List.cons (congrArg (fun z => (((3 : Nat), Value.int z) : Nat × Value)) eq_206)) (congrArg (List.cons _) rfl)))))
                                rw [eL] at hl
                                exact ih_178 (j + 1) (by omega)  _ _ _ hP hD hS hl
                    have eq_211 : (0 : Int32) = ahI mm (thF na nb mm tr) k 0 := rfl
                    have eq_212 : (0 : Int32) = nI 0 := rfl
                    have hl := lv_sub (l' := [(0, .ref a0), (1, .int (nI mm)), (2, .int (nI k)), (3, .int 0), (4, .int 0)]) hl [2, 3, 4, 1, 0] rfl
                    have eL : ([(0, .ref a0), (1, .int (nI mm)), (2, .int (nI k)), (3, .int 0), (4, .int 0)] : List (Nat × Value)) = [(0, .ref a0), (1, .int (nI mm)), (2, .int (nI k)), (3, .int (ahI mm (thF na nb mm tr) k 0)), (4, .int (nI 0))] := (congrArg (List.cons _) (congrArg (List.cons _) (congrArg (List.cons _) (congr (congrArg List.cons (congrArg (fun z => (((3 : Nat), Value.int z) : Nat × Value)) eq_211)) (congr (congrArg List.cons (congrArg (fun z => (((4 : Nat), Value.int z) : Nat × Value)) eq_212)) rfl)))))
                    rw [eL] at hl
                    exact L178 _ 0 (Nat.zero_add _)  _ _ _ hP hD hS hl
                  · refine lv_goto (tgt := 246) hx hb dX5_rankAll_170 (by decide) ?_
                    refine lv_iinc (v := nI (k + 1)) (lv' := [(2, .int (nI (k + 1))), (0, .ref a0), (1, .int (nI mm))]) hx hb dX5_rankAll_246 hl (k := 2) rfl (nI_1 _) (by decide) rfl (fun ls hl => ?_)
                    refine lv_goto (tgt := 154) hx hb dX5_rankAll_249 (by decide) ?_
                    have eq_220 : (rnO mm (thF na nb mm tr) rn k : Nat → Int32) = rnO mm (thF na nb mm tr) rn (k + 1) := rnO_a c_167
                    have eW : ([(a0, .inr (5, [.int th, .int (nI Wd), .int (nI Hh), .int (nI nn), .int na, .int nb, .int (((20 * na) + nb) + 1000), .int (cL (thF na nb mm tr) (mm * mm)), .int bk, .ref a1, .ref a2, .ref a3, .ref a4, .ref a5, .ref a6, .ref a7, .int lo, .long bt, .long bb])), (a6, .inl (cyZ, 16384, .inl (tsO na nb mm (zr (mm * mm) tr) mm))), (a7, .inl (cyI, 16384, .inl (rnO mm (thF na nb mm tr) rn k)))] : va_W) = [(a0, .inr (5, [.int th, .int (nI Wd), .int (nI Hh), .int (nI nn), .int na, .int nb, .int (((20 * na) + nb) + 1000), .int (cL (thF na nb mm tr) (mm * mm)), .int bk, .ref a1, .ref a2, .ref a3, .ref a4, .ref a5, .ref a6, .ref a7, .int lo, .long bt, .long bb])), (a6, .inl (cyZ, 16384, .inl (tsO na nb mm (zr (mm * mm) tr) mm))), (a7, .inl (cyI, 16384, .inl (rnO mm (thF na nb mm tr) rn (k + 1))))] := (congrArg (List.cons _) (congrArg (List.cons _) (congr (congrArg List.cons (congrArg (fun z => ((a7, (Sum.inl (cyI, 16384, Sum.inl z) : va_E)) : Nat × va_E)) eq_220)) rfl)))
                    rw [eW] at hP hD
                    have hl := lv_sub (l' := [(0, .ref a0), (1, .int (nI mm)), (2, .int (nI (k + 1)))]) hl [1, 2, 0] rfl
                    exact ih_154 (k + 1) (by omega)  _ _ _ hP hD hS hl
              have eq_225 : (0 : Int32) = nI 0 := rfl
              have eq_226 : (rn : Nat → Int32) = rnO mm (thF na nb mm tr) rn 0 := rfl
              have eW : ([(a0, .inr (5, [.int th, .int (nI Wd), .int (nI Hh), .int (nI nn), .int na, .int nb, .int (((20 * na) + nb) + 1000), .int (cL (thF na nb mm tr) (mm * mm)), .int bk, .ref a1, .ref a2, .ref a3, .ref a4, .ref a5, .ref a6, .ref a7, .int lo, .long bt, .long bb])), (a6, .inl (cyZ, 16384, .inl (tsO na nb mm (zr (mm * mm) tr) mm))), (a7, .inl (cyI, 16384, .inl rn))] : va_W) = [(a0, .inr (5, [.int th, .int (nI Wd), .int (nI Hh), .int (nI nn), .int na, .int nb, .int (((20 * na) + nb) + 1000), .int (cL (thF na nb mm tr) (mm * mm)), .int bk, .ref a1, .ref a2, .ref a3, .ref a4, .ref a5, .ref a6, .ref a7, .int lo, .long bt, .long bb])), (a6, .inl (cyZ, 16384, .inl (tsO na nb mm (zr (mm * mm) tr) mm))), (a7, .inl (cyI, 16384, .inl (rnO mm (thF na nb mm tr) rn 0)))] := (congrArg (List.cons _) (congrArg (List.cons _) (congr (congrArg List.cons (congrArg (fun z => ((a7, (Sum.inl (cyI, 16384, Sum.inl z) : va_E)) : Nat × va_E)) eq_226)) rfl)))
              rw [eW] at hP hD
              have hl := lv_sub (l' := [(0, .ref a0), (1, .int (nI mm)), (2, .int 0)]) hl [1, 2, 0] rfl
              have eL : ([(0, .ref a0), (1, .int (nI mm)), (2, .int 0)] : List (Nat × Value)) = [(0, .ref a0), (1, .int (nI mm)), (2, .int (nI 0))] := (congrArg (List.cons _) (congrArg (List.cons _) (congr (congrArg List.cons (congrArg (fun z => (((2 : Nat), Value.int z) : Nat × Value)) eq_225)) rfl)))
              rw [eL] at hl
              exact L154 _ 0 (Nat.zero_add _)  _ _ _ hP hD hS hl
            | succ n ih_116 =>
              intro k hk_116  H locs ls hP hD hS hl
              refine lv_iload_n hx hb dX5_rankAll_116 rfl (lv_at hl 2 rfl) ?_
              refine lv_iload_n hx hb dX5_rankAll_117 rfl (lv_at hl 1 rfl) ?_
              refine lv_iload_n hx hb dX5_rankAll_118 rfl (lv_at hl 1 rfl) ?_
              refine lv_imul hx hb dX5_rankAll_119 ?_
              refine xk_topi (y := nI (mm * mm)) (pk_mul _ _) ?_
              refine lv_icmp_ge (tgt := 152) hx hb dX5_rankAll_120 (by decide) (fun c_120 => xk_ab c_120 (nI_ge (by omega) (by omega))) (fun c_120 => ?_)
              refine lv_aload_n hx hb dX5_rankAll_123 rfl (lv_at hl 0 rfl) ?_
              refine lv_dup hx hb dX5_rankAll_124 rfl ?_
              refine va_get (D := D) (ci := 5) (v := .int (cL (thF na nb mm tr) k)) (C := RX5) (T := TX5) (N := 19) hx hb hts in_X5_rankAll_do_X5 hown hK hP 0 rfl rfl 7 (by decide) hf114 (fun _ h9 => h9) rfl dX5_rankAll_125 ?_
              refine lv_aload_n hx hb dX5_rankAll_128 rfl (lv_at hl 0 rfl) ?_
              refine va_get (D := D) (ci := 5) (v := .ref a6) (C := RX5) (T := TX5) (N := 19) hx hb hts in_X5_rankAll_do_X5 hown hK hP 0 rfl rfl 14 (by decide) hf45 (fun _ h9 => h9) rfl dX5_rankAll_129 ?_
              refine lv_iload_n hx hb dX5_rankAll_132 rfl (lv_at hl 2 rfl) ?_
              refine xk_zald hx hb hK hP 1 rfl k (rfl) (by omega) (by decide) dX5_rankAll_133 ?_
              refine lv_if_eq (tgt := 141) hx hb dX5_rankAll_134 (by decide) (fun c_134 => ?_) (fun c_134 => ?_)
              · refine lv_iconst (v := 0) hx hb dX5_rankAll_141 (by decide) ?_
                refine lv_iadd hx hb dX5_rankAll_142 ?_
                refine va_put (D := D) (ci := 5) (v := .int (cL (thF na nb mm tr) k + 0)) (ty := .int) (C := RX5) (T := TX5) (N := 19) hx hb hts in_X5_rankAll_do_X5 tyX5 tyX5_ok nmX5 hown hK hP hD hS 0 rfl rfl 7 (by decide) hf114 (fun _ h9 => h9) rfl (by decide +kernel) (rfl) (rfl) (Nat.le_of_ble_eq_true rfl) dX5_rankAll_143 (fun H locs hP hD hS => ?_)
                have hP : va_P D vwCl [(a0, .inr (5, [.int th, .int (nI Wd), .int (nI Hh), .int (nI nn), .int na, .int nb, .int (((20 * na) + nb) + 1000), .int (cL (thF na nb mm tr) k + 0), .int bk, .ref a1, .ref a2, .ref a3, .ref a4, .ref a5, .ref a6, .ref a7, .int lo, .long bt, .long bb])), (a6, .inl (cyZ, 16384, .inl (tsO na nb mm (zr (mm * mm) tr) mm))), (a7, .inl (cyI, 16384, .inl rn))] H := hP
                have hD : va_D A [(a0, .inr (5, [.int th, .int (nI Wd), .int (nI Hh), .int (nI nn), .int na, .int nb, .int (((20 * na) + nb) + 1000), .int (cL (thF na nb mm tr) k + 0), .int bk, .ref a1, .ref a2, .ref a3, .ref a4, .ref a5, .ref a6, .ref a7, .int lo, .long bt, .long bb])), (a6, .inl (cyZ, 16384, .inl (tsO na nb mm (zr (mm * mm) tr) mm))), (a7, .inl (cyI, 16384, .inl rn))] := hD
                refine lv_iinc (v := nI (k + 1)) (lv' := [(2, .int (nI (k + 1))), (0, .ref a0), (1, .int (nI mm))]) hx hb dX5_rankAll_146 hl (k := 2) rfl (nI_1 _) (by decide) rfl (fun ls hl => ?_)
                refine lv_goto (tgt := 116) hx hb dX5_rankAll_149 (by decide) ?_
                have eq_256 : (cL (thF na nb mm tr) k + 0 : Int32) = cL (thF na nb mm tr) (k + 1) := cL_a c_134
                have eW : ([(a0, .inr (5, [.int th, .int (nI Wd), .int (nI Hh), .int (nI nn), .int na, .int nb, .int (((20 * na) + nb) + 1000), .int (cL (thF na nb mm tr) k + 0), .int bk, .ref a1, .ref a2, .ref a3, .ref a4, .ref a5, .ref a6, .ref a7, .int lo, .long bt, .long bb])), (a6, .inl (cyZ, 16384, .inl (tsO na nb mm (zr (mm * mm) tr) mm))), (a7, .inl (cyI, 16384, .inl rn))] : va_W) = [(a0, .inr (5, [.int th, .int (nI Wd), .int (nI Hh), .int (nI nn), .int na, .int nb, .int (((20 * na) + nb) + 1000), .int (cL (thF na nb mm tr) (k + 1)), .int bk, .ref a1, .ref a2, .ref a3, .ref a4, .ref a5, .ref a6, .ref a7, .int lo, .long bt, .long bb])), (a6, .inl (cyZ, 16384, .inl (tsO na nb mm (zr (mm * mm) tr) mm))), (a7, .inl (cyI, 16384, .inl rn))] := (congr (congrArg List.cons (congrArg (fun z => ((a0, (Sum.inr (5, z) : va_E)) : Nat × va_E)) (congrArg (List.cons _) (congrArg (List.cons _) (congrArg (List.cons _) (congrArg (List.cons _) (congrArg (List.cons _) (congrArg (List.cons _) (congrArg (List.cons _) (congr (congrArg List.cons (congrArg Value.int eq_256)) (congrArg (List.cons _) (congrArg (List.cons _) (congrArg (List.cons _) (congrArg (List.cons _) (congrArg (List.cons _) (congrArg (List.cons _) (congrArg (List.cons _) (congrArg (List.cons _) (congrArg (List.cons _) (congrArg (List.cons _) (congrArg (List.cons _) rfl))))))))))))))))))))) (congrArg (List.cons _) (congrArg (List.cons _) rfl)))
                rw [eW] at hP hD
                have hl := lv_sub (l' := [(0, .ref a0), (1, .int (nI mm)), (2, .int (nI (k + 1)))]) hl [1, 2, 0] rfl
                exact ih_116 (k + 1) (by omega)  _ _ _ hP hD hS hl
              · refine lv_iconst (v := 1) hx hb dX5_rankAll_137 (by decide) ?_
                refine lv_goto (tgt := 142) hx hb dX5_rankAll_138 (by decide) ?_
                refine lv_iadd hx hb dX5_rankAll_142 ?_
                refine va_put (D := D) (ci := 5) (v := .int (cL (thF na nb mm tr) k + 1)) (ty := .int) (C := RX5) (T := TX5) (N := 19) hx hb hts in_X5_rankAll_do_X5 tyX5 tyX5_ok nmX5 hown hK hP hD hS 0 rfl rfl 7 (by decide) hf114 (fun _ h9 => h9) rfl (by decide +kernel) (rfl) (rfl) (Nat.le_of_ble_eq_true rfl) dX5_rankAll_143 (fun H locs hP hD hS => ?_)
                have hP : va_P D vwCl [(a0, .inr (5, [.int th, .int (nI Wd), .int (nI Hh), .int (nI nn), .int na, .int nb, .int (((20 * na) + nb) + 1000), .int (cL (thF na nb mm tr) k + 1), .int bk, .ref a1, .ref a2, .ref a3, .ref a4, .ref a5, .ref a6, .ref a7, .int lo, .long bt, .long bb])), (a6, .inl (cyZ, 16384, .inl (tsO na nb mm (zr (mm * mm) tr) mm))), (a7, .inl (cyI, 16384, .inl rn))] H := hP
                have hD : va_D A [(a0, .inr (5, [.int th, .int (nI Wd), .int (nI Hh), .int (nI nn), .int na, .int nb, .int (((20 * na) + nb) + 1000), .int (cL (thF na nb mm tr) k + 1), .int bk, .ref a1, .ref a2, .ref a3, .ref a4, .ref a5, .ref a6, .ref a7, .int lo, .long bt, .long bb])), (a6, .inl (cyZ, 16384, .inl (tsO na nb mm (zr (mm * mm) tr) mm))), (a7, .inl (cyI, 16384, .inl rn))] := hD
                refine lv_iinc (v := nI (k + 1)) (lv' := [(2, .int (nI (k + 1))), (0, .ref a0), (1, .int (nI mm))]) hx hb dX5_rankAll_146 hl (k := 2) rfl (nI_1 _) (by decide) rfl (fun ls hl => ?_)
                refine lv_goto (tgt := 116) hx hb dX5_rankAll_149 (by decide) ?_
                have eq_269 : (cL (thF na nb mm tr) k + 1 : Int32) = cL (thF na nb mm tr) (k + 1) := cL_b c_134
                have eW : ([(a0, .inr (5, [.int th, .int (nI Wd), .int (nI Hh), .int (nI nn), .int na, .int nb, .int (((20 * na) + nb) + 1000), .int (cL (thF na nb mm tr) k + 1), .int bk, .ref a1, .ref a2, .ref a3, .ref a4, .ref a5, .ref a6, .ref a7, .int lo, .long bt, .long bb])), (a6, .inl (cyZ, 16384, .inl (tsO na nb mm (zr (mm * mm) tr) mm))), (a7, .inl (cyI, 16384, .inl rn))] : va_W) = [(a0, .inr (5, [.int th, .int (nI Wd), .int (nI Hh), .int (nI nn), .int na, .int nb, .int (((20 * na) + nb) + 1000), .int (cL (thF na nb mm tr) (k + 1)), .int bk, .ref a1, .ref a2, .ref a3, .ref a4, .ref a5, .ref a6, .ref a7, .int lo, .long bt, .long bb])), (a6, .inl (cyZ, 16384, .inl (tsO na nb mm (zr (mm * mm) tr) mm))), (a7, .inl (cyI, 16384, .inl rn))] := (congr (congrArg List.cons (congrArg (fun z => ((a0, (Sum.inr (5, z) : va_E)) : Nat × va_E)) (congrArg (List.cons _) (congrArg (List.cons _) (congrArg (List.cons _) (congrArg (List.cons _) (congrArg (List.cons _) (congrArg (List.cons _) (congrArg (List.cons _) (congr (congrArg List.cons (congrArg Value.int eq_269)) (congrArg (List.cons _) (congrArg (List.cons _) (congrArg (List.cons _) (congrArg (List.cons _) (congrArg (List.cons _) (congrArg (List.cons _) (congrArg (List.cons _) (congrArg (List.cons _) (congrArg (List.cons _) (congrArg (List.cons _) (congrArg (List.cons _) rfl))))))))))))))))))))) (congrArg (List.cons _) (congrArg (List.cons _) rfl)))
                rw [eW] at hP hD
                have hl := lv_sub (l' := [(0, .ref a0), (1, .int (nI mm)), (2, .int (nI (k + 1)))]) hl [1, 2, 0] rfl
                exact ih_116 (k + 1) (by omega)  _ _ _ hP hD hS hl
          have eq_274 : (0 : Int32) = nI 0 := rfl
          have eq_275 : (0 : Int32) = cL (thF na nb mm tr) 0 := rfl
          have eW : ([(a0, .inr (5, [.int th, .int (nI Wd), .int (nI Hh), .int (nI nn), .int na, .int nb, .int (((20 * na) + nb) + 1000), .int 0, .int bk, .ref a1, .ref a2, .ref a3, .ref a4, .ref a5, .ref a6, .ref a7, .int lo, .long bt, .long bb])), (a6, .inl (cyZ, 16384, .inl (tsO na nb mm (zr (mm * mm) tr) mm))), (a7, .inl (cyI, 16384, .inl rn))] : va_W) = [(a0, .inr (5, [.int th, .int (nI Wd), .int (nI Hh), .int (nI nn), .int na, .int nb, .int (((20 * na) + nb) + 1000), .int (cL (thF na nb mm tr) 0), .int bk, .ref a1, .ref a2, .ref a3, .ref a4, .ref a5, .ref a6, .ref a7, .int lo, .long bt, .long bb])), (a6, .inl (cyZ, 16384, .inl (tsO na nb mm (zr (mm * mm) tr) mm))), (a7, .inl (cyI, 16384, .inl rn))] := (congr (congrArg List.cons (congrArg (fun z => ((a0, (Sum.inr (5, z) : va_E)) : Nat × va_E)) (congrArg (List.cons _) (congrArg (List.cons _) (congrArg (List.cons _) (congrArg (List.cons _) (congrArg (List.cons _) (congrArg (List.cons _) (congrArg (List.cons _) (congr (congrArg List.cons (congrArg Value.int eq_275)) (congrArg (List.cons _) (congrArg (List.cons _) (congrArg (List.cons _) (congrArg (List.cons _) (congrArg (List.cons _) (congrArg (List.cons _) (congrArg (List.cons _) (congrArg (List.cons _) (congrArg (List.cons _) (congrArg (List.cons _) (congrArg (List.cons _) rfl))))))))))))))))))))) (congrArg (List.cons _) (congrArg (List.cons _) rfl)))
          rw [eW] at hP hD
          have hl := lv_sub (l' := [(0, .ref a0), (1, .int (nI mm)), (2, .int 0)]) hl [1, 2, 0] rfl
          have eL : ([(0, .ref a0), (1, .int (nI mm)), (2, .int 0)] : List (Nat × Value)) = [(0, .ref a0), (1, .int (nI mm)), (2, .int (nI 0))] := (congrArg (List.cons _) (congrArg (List.cons _) (congr (congrArg List.cons (congrArg (fun z => (((2 : Nat), Value.int z) : Nat × Value)) eq_274)) rfl)))
          rw [eL] at hl
          exact L116 _ 0 (Nat.zero_add _)  _ _ _ hP hD hS hl
        | succ n ih_73 =>
          intro i hk_73  H locs ls hP hD hS hl
          refine lv_iload_n hx hb dX5_rankAll_73 rfl (lv_at hl 2 rfl) ?_
          refine lv_iload_n hx hb dX5_rankAll_74 rfl (lv_at hl 1 rfl) ?_
          refine lv_icmp_ge (tgt := 109) hx hb dX5_rankAll_75 (by decide) (fun c_75 => xk_ab c_75 (nI_ge (by omega) (by omega))) (fun c_75 => ?_)
          refine lv_iconst (v := 0) hx hb dX5_rankAll_78 (by decide) ?_
          refine lv_istore_n (lv' := [(3, .int 0), (0, .ref a0), (1, .int (nI mm)), (2, .int (nI i))]) hx hb dX5_rankAll_79 rfl hl (by decide) rfl (fun ls hl => ?_)
          have L80 : ∀ (n j : Nat), j + n = mm → ∀ (H : Heap) (locs : List Loc) (ls : Array Slot), va_P D vwCl [(a0, .inr (5, [.int th, .int (nI Wd), .int (nI Hh), .int (nI nn), .int na, .int nb, .int (((20 * na) + nb) + 1000), .int pr, .int bk, .ref a1, .ref a2, .ref a3, .ref a4, .ref a5, .ref a6, .ref a7, .int lo, .long bt, .long bb])), (a6, .inl (cyZ, 16384, .inl (tsI na nb mm i (tsO na nb mm (zr (mm * mm) tr) i) j))), (a7, .inl (cyI, 16384, .inl rn))] H → va_D A [(a0, .inr (5, [.int th, .int (nI Wd), .int (nI Hh), .int (nI nn), .int na, .int nb, .int (((20 * na) + nb) + 1000), .int pr, .int bk, .ref a1, .ref a2, .ref a3, .ref a4, .ref a5, .ref a6, .ref a7, .int lo, .long bt, .long bb])), (a6, .inl (cyZ, 16384, .inl (tsI na nb mm i (tsO na nb mm (zr (mm * mm) tr) i) j))), (a7, .inl (cyI, 16384, .inl rn))] → va_S A s.heap H locs → lv_has ls 5 [(0, .ref a0), (1, .int (nI mm)), (2, .int (nI i)), (3, .int (nI j))] → W p l e rm_X5_rankAll_do s m ([.ref a0] : List Value).toArray below meth c H locs 0 0 (MQ below (xk_Qv D A [(a0, .inr (5, [.int th, .int (nI Wd), .int (nI Hh), .int (nI nn), .int na, .int nb, .int (20 * na + nb + 1000), .int (cL (thF na nb mm tr) (mm * mm)), .int bk, .ref a1, .ref a2, .ref a3, .ref a4, .ref a5, .ref a6, .ref a7, .int lo, .long bt, .long bb])), (a6, .inl (cyZ, 16384, .inl (thF na nb mm tr))), (a7, .inl (cyI, 16384, .inl (rnO mm (thF na nb mm tr) rn (mm * mm))))]) ([.ref a0] : List Value).toArray s 0 0 A) (F0 m 80 ls []) := by
            intro n
            induction n with
            | zero =>
              intro j hk_80  H locs ls hP hD hS hl
              have hz_80 : mm = j := hk_80.symm
              subst hz_80
              refine lv_iload_n hx hb dX5_rankAll_80 rfl (lv_at hl 3 rfl) ?_
              refine lv_iload_n hx hb dX5_rankAll_81 rfl (lv_at hl 1 rfl) ?_
              refine lv_icmp_ge (tgt := 103) hx hb dX5_rankAll_82 (by decide) (fun c_82 => ?_) (fun c_82 => xk_ba c_82 (nI_le (Nat.le_refl _) (by omega)))
              refine lv_iinc (v := nI (i + 1)) (lv' := [(2, .int (nI (i + 1))), (0, .ref a0), (1, .int (nI mm)), (3, .int (nI mm))]) hx hb dX5_rankAll_103 hl (k := 2) rfl (nI_1 _) (by decide) rfl (fun ls hl => ?_)
              refine lv_goto (tgt := 73) hx hb dX5_rankAll_106 (by decide) ?_
              have eq_301 : (tsI na nb mm i (tsO na nb mm (zr (mm * mm) tr) i) mm : Nat → Int32) = tsO na nb mm (zr (mm * mm) tr) (i + 1) := rfl
              have eW : ([(a0, .inr (5, [.int th, .int (nI Wd), .int (nI Hh), .int (nI nn), .int na, .int nb, .int (((20 * na) + nb) + 1000), .int pr, .int bk, .ref a1, .ref a2, .ref a3, .ref a4, .ref a5, .ref a6, .ref a7, .int lo, .long bt, .long bb])), (a6, .inl (cyZ, 16384, .inl (tsI na nb mm i (tsO na nb mm (zr (mm * mm) tr) i) mm))), (a7, .inl (cyI, 16384, .inl rn))] : va_W) = [(a0, .inr (5, [.int th, .int (nI Wd), .int (nI Hh), .int (nI nn), .int na, .int nb, .int (((20 * na) + nb) + 1000), .int pr, .int bk, .ref a1, .ref a2, .ref a3, .ref a4, .ref a5, .ref a6, .ref a7, .int lo, .long bt, .long bb])), (a6, .inl (cyZ, 16384, .inl (tsO na nb mm (zr (mm * mm) tr) (i + 1)))), (a7, .inl (cyI, 16384, .inl rn))] := (congrArg (List.cons _) (congr (congrArg List.cons (congrArg (fun z => ((a6, (Sum.inl (cyZ, 16384, Sum.inl z) : va_E)) : Nat × va_E)) eq_301)) (congrArg (List.cons _) rfl)))
              rw [eW] at hP hD
              have hl := lv_sub (l' := [(0, .ref a0), (1, .int (nI mm)), (2, .int (nI (i + 1)))]) hl [1, 2, 0] rfl
              exact ih_73 (i + 1) (by omega)  _ _ _ hP hD hS hl
            | succ n ih_80 =>
              intro j hk_80  H locs ls hP hD hS hl
              refine lv_iload_n hx hb dX5_rankAll_80 rfl (lv_at hl 3 rfl) ?_
              refine lv_iload_n hx hb dX5_rankAll_81 rfl (lv_at hl 1 rfl) ?_
              refine lv_icmp_ge (tgt := 103) hx hb dX5_rankAll_82 (by decide) (fun c_82 => xk_ab c_82 (nI_ge (by omega) (by omega))) (fun c_82 => ?_)
              refine lv_aload_n hx hb dX5_rankAll_85 rfl (lv_at hl 0 rfl) ?_
              refine va_get (D := D) (ci := 5) (v := .ref a6) (C := RX5) (T := TX5) (N := 19) hx hb hts in_X5_rankAll_do_X5 hown hK hP 0 rfl rfl 14 (by decide) hf45 (fun _ h9 => h9) rfl dX5_rankAll_86 ?_
              refine lv_aload_n hx hb dX5_rankAll_89 rfl (lv_at hl 0 rfl) ?_
              refine lv_iload_n hx hb dX5_rankAll_90 rfl (lv_at hl 2 rfl) ?_
              refine lv_iload_n hx hb dX5_rankAll_91 rfl (lv_at hl 3 rfl) ?_
              have hPc := hP.sub (ws' := [(a0, .inr (5, [.int th, .int (nI Wd), .int (nI Hh), .int (nI nn), .int na, .int nb, .int (((20 * na) + nb) + 1000), .int pr, .int bk, .ref a1, .ref a2, .ref a3, .ref a4, .ref a5, .ref a6, .ref a7, .int lo, .long bt, .long bb]))]) [0] rfl
              have hDc := hD.sub (ws' := [(a0, .inr (5, [.int th, .int (nI Wd), .int (nI Hh), .int (nI nn), .int na, .int nb, .int (((20 * na) + nb) + 1000), .int pr, .int bk, .ref a1, .ref a2, .ref a3, .ref a4, .ref a5, .ref a6, .ref a7, .int lo, .long bt, .long bb]))]) [0] (by decide) rfl
              refine xk_calli (wr := [(a6, .inl (cyZ, 16384, .inl (tsI na nb mm i (tsO na nb mm (zr (mm * mm) tr) i) j))), (a7, .inl (cyI, 16384, .inl rn))]) (w2 := [(a0, .inr (5, [.int th, .int (nI Wd), .int (nI Hh), .int (nI nn), .int na, .int nb, .int (((20 * na) + nb) + 1000), .int pr, .int bk, .ref a1, .ref a2, .ref a3, .ref a4, .ref a5, .ref a6, .ref a7, .int lo, .long bt, .long bb])), (a6, .inl (cyZ, 16384, .inl (tsI na nb mm i (tsO na nb mm (zr (mm * mm) tr) i) j))), (a7, .inl (cyI, 16384, .inl rn))]) (va_runV (As := [.int (nI i), .int (nI j)]) (rest := [.ref a6]) hC0 (ct_X5_pairOf l D cyI cyZ a0 a1 a2 a3 a4 a5 a6 a7 _ th Wd Hh nn na nb (((20 * na) + nb) + 1000) pr bk lo bt bb mm (nI i) (nI j) (by first | assumption | omega) (by first | assumption | omega) (by first | assumption | omega)) (cwV 2 hts gX5_rankAll_X5_pairOf rfl rfl rfl (by decide +kernel) ⟨Nat.le_of_ble_eq_true rfl, Nat.le_of_ble_eq_true rfl⟩) ⟨xk_blind, va_recv hK hPc (ci := 5) (q0 := 0) rfl rfl, xk_pre hK hN hPc hDc⟩ rfl rfl hl.1 rfl (lv_room (Nat.le_of_ble_eq_true rfl)) dX5_rankAll_92 ⟨Nat.le_of_ble_eq_true rfl, Nat.le_of_ble_eq_true rfl⟩) hP hD hS hA [0] [1, 2] [2, 0, 1] rfl rfl (by decide) (by decide) rfl (by decide) (fun H locs hP hD hS => ?_)
              refine lv_iconst (v := 1) hx hb dX5_rankAll_95 (by decide) ?_
              refine xk_zast (w2 := [(a0, .inr (5, [.int th, .int (nI Wd), .int (nI Hh), .int (nI nn), .int na, .int nb, .int (((20 * na) + nb) + 1000), .int pr, .int bk, .ref a1, .ref a2, .ref a3, .ref a4, .ref a5, .ref a6, .ref a7, .int lo, .long bt, .long bb])), (a6, .inl (cyZ, 16384, .inl (upd (tsI na nb mm i (tsO na nb mm (zr (mm * mm) tr) i) j) (pN na nb mm (nI i) (nI j)) 1))), (a7, .inl (cyI, 16384, .inl rn))]) hx hb hK hP hD hS 1 rfl (pN na nb mm (nI i) (nI j)) (rfl) (Nat.lt_of_lt_of_le (pN_lt hm1) hq) (by decide) (rfl) rfl dX5_rankAll_96 (fun H locs hP hD hS => ?_)
              refine lv_iinc (v := nI (j + 1)) (lv' := [(3, .int (nI (j + 1))), (0, .ref a0), (1, .int (nI mm)), (2, .int (nI i))]) hx hb dX5_rankAll_97 hl (k := 3) rfl (nI_1 _) (by decide) rfl (fun ls hl => ?_)
              refine lv_goto (tgt := 80) hx hb dX5_rankAll_100 (by decide) ?_
              have eq_323 : (upd (tsI na nb mm i (tsO na nb mm (zr (mm * mm) tr) i) j) (pN na nb mm (nI i) (nI j)) 1 : Nat → Int32) = tsI na nb mm i (tsO na nb mm (zr (mm * mm) tr) i) (j + 1) := rfl
              have eW : ([(a0, .inr (5, [.int th, .int (nI Wd), .int (nI Hh), .int (nI nn), .int na, .int nb, .int (((20 * na) + nb) + 1000), .int pr, .int bk, .ref a1, .ref a2, .ref a3, .ref a4, .ref a5, .ref a6, .ref a7, .int lo, .long bt, .long bb])), (a6, .inl (cyZ, 16384, .inl (upd (tsI na nb mm i (tsO na nb mm (zr (mm * mm) tr) i) j) (pN na nb mm (nI i) (nI j)) 1))), (a7, .inl (cyI, 16384, .inl rn))] : va_W) = [(a0, .inr (5, [.int th, .int (nI Wd), .int (nI Hh), .int (nI nn), .int na, .int nb, .int (((20 * na) + nb) + 1000), .int pr, .int bk, .ref a1, .ref a2, .ref a3, .ref a4, .ref a5, .ref a6, .ref a7, .int lo, .long bt, .long bb])), (a6, .inl (cyZ, 16384, .inl (tsI na nb mm i (tsO na nb mm (zr (mm * mm) tr) i) (j + 1)))), (a7, .inl (cyI, 16384, .inl rn))] := (congrArg (List.cons _) (congr (congrArg List.cons (congrArg (fun z => ((a6, (Sum.inl (cyZ, 16384, Sum.inl z) : va_E)) : Nat × va_E)) eq_323)) (congrArg (List.cons _) rfl)))
              rw [eW] at hP hD
              have hl := lv_sub (l' := [(0, .ref a0), (1, .int (nI mm)), (2, .int (nI i)), (3, .int (nI (j + 1)))]) hl [1, 2, 3, 0] rfl
              exact ih_80 (j + 1) (by omega)  _ _ _ hP hD hS hl
          have eq_328 : (0 : Int32) = nI 0 := rfl
          have eq_329 : (tsO na nb mm (zr (mm * mm) tr) i : Nat → Int32) = tsI na nb mm i (tsO na nb mm (zr (mm * mm) tr) i) 0 := rfl
          have eW : ([(a0, .inr (5, [.int th, .int (nI Wd), .int (nI Hh), .int (nI nn), .int na, .int nb, .int (((20 * na) + nb) + 1000), .int pr, .int bk, .ref a1, .ref a2, .ref a3, .ref a4, .ref a5, .ref a6, .ref a7, .int lo, .long bt, .long bb])), (a6, .inl (cyZ, 16384, .inl (tsO na nb mm (zr (mm * mm) tr) i))), (a7, .inl (cyI, 16384, .inl rn))] : va_W) = [(a0, .inr (5, [.int th, .int (nI Wd), .int (nI Hh), .int (nI nn), .int na, .int nb, .int (((20 * na) + nb) + 1000), .int pr, .int bk, .ref a1, .ref a2, .ref a3, .ref a4, .ref a5, .ref a6, .ref a7, .int lo, .long bt, .long bb])), (a6, .inl (cyZ, 16384, .inl (tsI na nb mm i (tsO na nb mm (zr (mm * mm) tr) i) 0))), (a7, .inl (cyI, 16384, .inl rn))] := (congrArg (List.cons _) (congr (congrArg List.cons (congrArg (fun z => ((a6, (Sum.inl (cyZ, 16384, Sum.inl z) : va_E)) : Nat × va_E)) eq_329)) (congrArg (List.cons _) rfl)))
          rw [eW] at hP hD
          have hl := lv_sub (l' := [(0, .ref a0), (1, .int (nI mm)), (2, .int (nI i)), (3, .int 0)]) hl [1, 2, 3, 0] rfl
          have eL : ([(0, .ref a0), (1, .int (nI mm)), (2, .int (nI i)), (3, .int 0)] : List (Nat × Value)) = [(0, .ref a0), (1, .int (nI mm)), (2, .int (nI i)), (3, .int (nI 0))] := (congrArg (List.cons _) (congrArg (List.cons _) (congrArg (List.cons _) (congr (congrArg List.cons (congrArg (fun z => (((3 : Nat), Value.int z) : Nat × Value)) eq_328)) rfl))))
          rw [eL] at hl
          exact L80 _ 0 (Nat.zero_add _)  _ _ _ hP hD hS hl
      have eq_336 : (0 : Int32) = nI 0 := rfl
      have eq_337 : (zr (mm * mm) tr : Nat → Int32) = tsO na nb mm (zr (mm * mm) tr) 0 := rfl
      have eW : ([(a0, .inr (5, [.int th, .int (nI Wd), .int (nI Hh), .int (nI nn), .int na, .int nb, .int (((20 * na) + nb) + 1000), .int pr, .int bk, .ref a1, .ref a2, .ref a3, .ref a4, .ref a5, .ref a6, .ref a7, .int lo, .long bt, .long bb])), (a6, .inl (cyZ, 16384, .inl (zr (mm * mm) tr))), (a7, .inl (cyI, 16384, .inl rn))] : va_W) = [(a0, .inr (5, [.int th, .int (nI Wd), .int (nI Hh), .int (nI nn), .int na, .int nb, .int (((20 * na) + nb) + 1000), .int pr, .int bk, .ref a1, .ref a2, .ref a3, .ref a4, .ref a5, .ref a6, .ref a7, .int lo, .long bt, .long bb])), (a6, .inl (cyZ, 16384, .inl (tsO na nb mm (zr (mm * mm) tr) 0))), (a7, .inl (cyI, 16384, .inl rn))] := (congrArg (List.cons _) (congr (congrArg List.cons (congrArg (fun z => ((a6, (Sum.inl (cyZ, 16384, Sum.inl z) : va_E)) : Nat × va_E)) eq_337)) (congrArg (List.cons _) rfl)))
      rw [eW] at hP hD
      have hl := lv_sub (l' := [(0, .ref a0), (1, .int (nI mm)), (2, .int 0)]) hl [1, 2, 0] rfl
      have eL : ([(0, .ref a0), (1, .int (nI mm)), (2, .int 0)] : List (Nat × Value)) = [(0, .ref a0), (1, .int (nI mm)), (2, .int (nI 0))] := (congrArg (List.cons _) (congrArg (List.cons _) (congr (congrArg List.cons (congrArg (fun z => (((2 : Nat), Value.int z) : Nat × Value)) eq_336)) rfl)))
      rw [eL] at hl
      exact L73 _ 0 (Nat.zero_add _)  _ _ _ hP hD hS hl
    | succ n ih_51 =>
      intro k hk_51  H locs ls hP hD hS hl
      refine lv_iload_n hx hb dX5_rankAll_51 rfl (lv_at hl 2 rfl) ?_
      refine lv_iload_n hx hb dX5_rankAll_52 rfl (lv_at hl 1 rfl) ?_
      refine lv_iload_n hx hb dX5_rankAll_53 rfl (lv_at hl 1 rfl) ?_
      refine lv_imul hx hb dX5_rankAll_54 ?_
      refine xk_topi (y := nI (mm * mm)) (pk_mul _ _) ?_
      refine lv_icmp_ge (tgt := 71) hx hb dX5_rankAll_55 (by decide) (fun c_55 => xk_ab c_55 (nI_ge (by omega) (by omega))) (fun c_55 => ?_)
      refine lv_aload_n hx hb dX5_rankAll_58 rfl (lv_at hl 0 rfl) ?_
      refine va_get (D := D) (ci := 5) (v := .ref a6) (C := RX5) (T := TX5) (N := 19) hx hb hts in_X5_rankAll_do_X5 hown hK hP 0 rfl rfl 14 (by decide) hf45 (fun _ h9 => h9) rfl dX5_rankAll_59 ?_
      refine lv_iload_n hx hb dX5_rankAll_62 rfl (lv_at hl 2 rfl) ?_
      refine lv_iconst (v := 0) hx hb dX5_rankAll_63 (by decide) ?_
      refine xk_zast (w2 := [(a0, .inr (5, [.int th, .int (nI Wd), .int (nI Hh), .int (nI nn), .int na, .int nb, .int (((20 * na) + nb) + 1000), .int pr, .int bk, .ref a1, .ref a2, .ref a3, .ref a4, .ref a5, .ref a6, .ref a7, .int lo, .long bt, .long bb])), (a6, .inl (cyZ, 16384, .inl (upd (zr k tr) k 0))), (a7, .inl (cyI, 16384, .inl rn))]) hx hb hK hP hD hS 1 rfl k (rfl) (by omega) (by decide) (rfl) rfl dX5_rankAll_64 (fun H locs hP hD hS => ?_)
      refine lv_iinc (v := nI (k + 1)) (lv' := [(2, .int (nI (k + 1))), (0, .ref a0), (1, .int (nI mm))]) hx hb dX5_rankAll_65 hl (k := 2) rfl (nI_1 _) (by decide) rfl (fun ls hl => ?_)
      refine lv_goto (tgt := 51) hx hb dX5_rankAll_68 (by decide) ?_
      have eq_359 : (upd (zr k tr) k 0 : Nat → Int32) = zr (k + 1) tr := zr_s k tr
      have eW : ([(a0, .inr (5, [.int th, .int (nI Wd), .int (nI Hh), .int (nI nn), .int na, .int nb, .int (((20 * na) + nb) + 1000), .int pr, .int bk, .ref a1, .ref a2, .ref a3, .ref a4, .ref a5, .ref a6, .ref a7, .int lo, .long bt, .long bb])), (a6, .inl (cyZ, 16384, .inl (upd (zr k tr) k 0))), (a7, .inl (cyI, 16384, .inl rn))] : va_W) = [(a0, .inr (5, [.int th, .int (nI Wd), .int (nI Hh), .int (nI nn), .int na, .int nb, .int (((20 * na) + nb) + 1000), .int pr, .int bk, .ref a1, .ref a2, .ref a3, .ref a4, .ref a5, .ref a6, .ref a7, .int lo, .long bt, .long bb])), (a6, .inl (cyZ, 16384, .inl (zr (k + 1) tr))), (a7, .inl (cyI, 16384, .inl rn))] := (congrArg (List.cons _) (congr (congrArg List.cons (congrArg (fun z => ((a6, (Sum.inl (cyZ, 16384, Sum.inl z) : va_E)) : Nat × va_E)) eq_359)) (congrArg (List.cons _) rfl)))
      rw [eW] at hP hD
      have hl := lv_sub (l' := [(0, .ref a0), (1, .int (nI mm)), (2, .int (nI (k + 1)))]) hl [1, 2, 0] rfl
      exact ih_51 (k + 1) (by omega)  _ _ _ hP hD hS hl
  have eq_364 : (0 : Int32) = nI 0 := rfl
  have eq_365 : (tr : Nat → Int32) = zr 0 tr := (zr_0 tr).symm
  have eW : ([(a0, .inr (5, [.int th, .int (nI Wd), .int (nI Hh), .int (nI nn), .int na, .int nb, .int (((20 * na) + nb) + 1000), .int pr, .int bk, .ref a1, .ref a2, .ref a3, .ref a4, .ref a5, .ref a6, .ref a7, .int lo, .long bt, .long bb])), (a6, .inl (cyZ, 16384, .inl tr)), (a7, .inl (cyI, 16384, .inl rn))] : va_W) = [(a0, .inr (5, [.int th, .int (nI Wd), .int (nI Hh), .int (nI nn), .int na, .int nb, .int (((20 * na) + nb) + 1000), .int pr, .int bk, .ref a1, .ref a2, .ref a3, .ref a4, .ref a5, .ref a6, .ref a7, .int lo, .long bt, .long bb])), (a6, .inl (cyZ, 16384, .inl (zr 0 tr))), (a7, .inl (cyI, 16384, .inl rn))] := (congrArg (List.cons _) (congr (congrArg List.cons (congrArg (fun z => ((a6, (Sum.inl (cyZ, 16384, Sum.inl z) : va_E)) : Nat × va_E)) eq_365)) (congrArg (List.cons _) rfl)))
  rw [eW] at hP hD
  have hl := lv_sub (l' := [(0, .ref a0), (1, .int (nI mm)), (2, .int 0)]) hl [2, 1, 0] rfl
  have eL : ([(0, .ref a0), (1, .int (nI mm)), (2, .int 0)] : List (Nat × Value)) = [(0, .ref a0), (1, .int (nI mm)), (2, .int (nI 0))] := (congrArg (List.cons _) (congrArg (List.cons _) (congr (congrArg List.cons (congrArg (fun z => (((2 : Nat), Value.int z) : Nat × Value)) eq_364)) rfl)))
  rw [eL] at hl
  exact L51 _ 0 (Nat.zero_add _)  _ _ _ hP hD hS hl

abbrev rm_X5_rankAll_so : Room := { frames := 2, cells := 0, slots := 0, locals := 44 }
theorem in_X5_rankAll_so_X5 : ∀ w ∈ u_ws RX5 TX5 19, w ∈ wsX5_rankAll := by decide +kernel
set_option maxHeartbeats 4000000 in
set_option maxRecDepth 100000 in
theorem ct_X5_rankAll_so (l : Launch) (D : va_G) (cyI cyZ : ClassId) (a0 a1 a2 a3 a4 a5 a6 a7 : Nat) (sz : Nat) (th : Int32) (Wd Hh nn : Nat) (na nb rk pr bk lo : Int32) (bt bb : Int64) (tr rn : Nat → Int32) (hrk : rk = 20 * na + nb + 1000) : Met l yX5_rankAll wsX5_rankAll rm_X5_rankAll_so (xk_Pc D cyI cyZ [.ref a0] [(a0, .inr (5, [.int th, .int (nI Wd), .int (nI Hh), .int (nI nn), .int na, .int nb, .int rk, .int pr, .int bk, .ref a1, .ref a2, .ref a3, .ref a4, .ref a5, .ref a6, .ref a7, .int lo, .long bt, .long bb])), (a6, .inl (cyZ, 16384, .inl tr)), (a7, .inl (cyI, 16384, .inl rn))] sz) (xk_Qv D (va_A [(a0, .inr (5, [.int th, .int (nI Wd), .int (nI Hh), .int (nI nn), .int na, .int nb, .int rk, .int pr, .int bk, .ref a1, .ref a2, .ref a3, .ref a4, .ref a5, .ref a6, .ref a7, .int lo, .long bt, .long bb])), (a6, .inl (cyZ, 16384, .inl tr)), (a7, .inl (cyI, 16384, .inl rn))] sz) [(a0, .inr (5, [.int th, .int (nI Wd), .int (nI Hh), .int (nI nn), .int na, .int nb, .int rk, .int pr, .int bk, .ref a1, .ref a2, .ref a3, .ref a4, .ref a5, .ref a6, .ref a7, .int lo, .long bt, .long bb])), (a6, .inl (cyZ, 16384, .inl tr)), (a7, .inl (cyI, 16384, .inl rn))]) 0 0 (va_A [(a0, .inr (5, [.int th, .int (nI Wd), .int (nI Hh), .int (nI nn), .int na, .int nb, .int rk, .int pr, .int bk, .ref a1, .ref a2, .ref a3, .ref a4, .ref a5, .ref a6, .ref a7, .int lo, .long bt, .long bb])), (a6, .inl (cyZ, 16384, .inl tr)), (a7, .inl (cyI, 16384, .inl rn))] sz) := by
  refine xk_of (own := RX5) (cc := cX5_rankAll) (maxL := 5) (ret := none) (Qc := fun A => xk_Qv D A [(a0, .inr (5, [.int th, .int (nI Wd), .int (nI Hh), .int (nI nn), .int na, .int nb, .int rk, .int pr, .int bk, .ref a1, .ref a2, .ref a3, .ref a4, .ref a5, .ref a6, .ref a7, .int lo, .long bt, .long bb])), (a6, .inl (cyZ, 16384, .inl tr)), (a7, .inl (cyI, 16384, .inl rn))]) (by decide) rfl rfl (Nat.le_of_ble_eq_true rfl) ?_
  intro p e s m below meth c A ls hx hb hr hml hown hlocks hin hts hA hP hK hN hD hS hl
  have hC0 := xk_fix hx hb hml hown hts
  have hl : lv_has ls 5 [(0, .ref a0)] := hl
  have hf19 := hts (.fieldLink RX5 19 "DotPressModel" "a" "I") (by decide +kernel)
  have hf22 := hts (.fieldLink RX5 22 "DotPressModel" "b" "I") (by decide +kernel)
  have hf25 := hts (.fieldLink RX5 25 "DotPressModel" "ranked" "I") (by decide +kernel)
  refine lv_aload_n hx hb dX5_rankAll_0 rfl (lv_at hl 0 rfl) ?_
  refine va_get (D := D) (ci := 5) (v := .int rk) (C := RX5) (T := TX5) (N := 19) hx hb hts in_X5_rankAll_so_X5 hown hK hP 0 rfl rfl 6 (by decide) hf25 (fun _ h9 => h9) rfl dX5_rankAll_1 ?_
  refine lv_bipush (v := 20) hx hb dX5_rankAll_4 (by decide) ?_
  refine lv_aload_n hx hb dX5_rankAll_6 rfl (lv_at hl 0 rfl) ?_
  refine va_get (D := D) (ci := 5) (v := .int na) (C := RX5) (T := TX5) (N := 19) hx hb hts in_X5_rankAll_so_X5 hown hK hP 0 rfl rfl 4 (by decide) hf19 (fun _ h9 => h9) rfl dX5_rankAll_7 ?_
  refine lv_imul hx hb dX5_rankAll_10 ?_
  refine lv_aload_n hx hb dX5_rankAll_11 rfl (lv_at hl 0 rfl) ?_
  refine va_get (D := D) (ci := 5) (v := .int nb) (C := RX5) (T := TX5) (N := 19) hx hb hts in_X5_rankAll_so_X5 hown hK hP 0 rfl rfl 5 (by decide) hf22 (fun _ h9 => h9) rfl dX5_rankAll_12 ?_
  refine lv_iadd hx hb dX5_rankAll_15 ?_
  refine lv_sipush (v := 1000) hx hb dX5_rankAll_16 (by decide) ?_
  refine lv_iadd hx hb dX5_rankAll_19 ?_
  refine lv_icmp_ne (tgt := 24) hx hb dX5_rankAll_20 (by decide) (fun c_20 => xk_ba c_20 (hrk)) (fun c_20 => ?_)
  exact xk_vret hx hb hr hlocks hP hD hS (rfl) dX5_rankAll_23

abbrev rm_X5_rank_no : Room := { frames := 1, cells := 0, slots := 0, locals := 22 }
theorem in_X5_rank_no_X5 : ∀ w ∈ u_ws RX5 TX5 19, w ∈ wsX5_rank := by decide +kernel
set_option maxHeartbeats 4000000 in
set_option maxRecDepth 100000 in
theorem ct_X5_rank_no (l : Launch) (D : va_G) (cyI cyZ : ClassId) (a0 a1 a2 a3 a4 a5 a6 a7 : Nat) (sz : Nat) (th : Int32) (Wd Hh nn : Nat) (na nb rk pr bk lo : Int32) (bt bb : Int64) (tr rn : Nat → Int32) (x y : Int32) (hno : ¬ ((¬ x < 0 ∧ ¬ 1000 < x) ∧ ¬ y < 0 ∧ ¬ 1000 < y)) : Met l yX5_rank wsX5_rank rm_X5_rank_no (xk_Pc D cyI cyZ [.ref a0, .int x, .int y] [(a0, .inr (5, [.int th, .int (nI Wd), .int (nI Hh), .int (nI nn), .int na, .int nb, .int rk, .int pr, .int bk, .ref a1, .ref a2, .ref a3, .ref a4, .ref a5, .ref a6, .ref a7, .int lo, .long bt, .long bb])), (a6, .inl (cyZ, 16384, .inl tr)), (a7, .inl (cyI, 16384, .inl rn))] sz) (xk_Qi D (va_A [(a0, .inr (5, [.int th, .int (nI Wd), .int (nI Hh), .int (nI nn), .int na, .int nb, .int rk, .int pr, .int bk, .ref a1, .ref a2, .ref a3, .ref a4, .ref a5, .ref a6, .ref a7, .int lo, .long bt, .long bb])), (a6, .inl (cyZ, 16384, .inl tr)), (a7, .inl (cyI, 16384, .inl rn))] sz) (-1) [(a0, .inr (5, [.int 0, .int (nI Wd), .int (nI Hh), .int (nI nn), .int na, .int nb, .int rk, .int pr, .int bk, .ref a1, .ref a2, .ref a3, .ref a4, .ref a5, .ref a6, .ref a7, .int lo, .long bt, .long bb])), (a6, .inl (cyZ, 16384, .inl tr)), (a7, .inl (cyI, 16384, .inl rn))]) 0 0 (va_A [(a0, .inr (5, [.int th, .int (nI Wd), .int (nI Hh), .int (nI nn), .int na, .int nb, .int rk, .int pr, .int bk, .ref a1, .ref a2, .ref a3, .ref a4, .ref a5, .ref a6, .ref a7, .int lo, .long bt, .long bb])), (a6, .inl (cyZ, 16384, .inl tr)), (a7, .inl (cyI, 16384, .inl rn))] sz) := by
  refine xk_of (own := RX5) (cc := cX5_rank) (maxL := 3) (ret := (some .int)) (Qc := fun A => xk_Qi D A (-1) [(a0, .inr (5, [.int 0, .int (nI Wd), .int (nI Hh), .int (nI nn), .int na, .int nb, .int rk, .int pr, .int bk, .ref a1, .ref a2, .ref a3, .ref a4, .ref a5, .ref a6, .ref a7, .int lo, .long bt, .long bb])), (a6, .inl (cyZ, 16384, .inl tr)), (a7, .inl (cyI, 16384, .inl rn))]) (by decide) rfl rfl (Nat.le_of_ble_eq_true rfl) ?_
  intro p e s m below meth c A ls hx hb hr hml hown hlocks hin hts hA hP hK hN hD hS hl
  have hC0 := xk_fix hx hb hml hown hts
  have hl : lv_has ls 3 [(0, .ref a0), (1, .int x), (2, .int y)] := hl
  have hf51 := hts (.fieldLink RX5 51 "DotPressModel" "thrown" "I") (by decide +kernel)
  refine lv_aload_n hx hb dX5_rank_0 rfl (lv_at hl 0 rfl) ?_
  refine lv_iconst (v := 0) hx hb dX5_rank_1 (by decide) ?_
  refine va_put (D := D) (ci := 5) (v := .int 0) (ty := .int) (C := RX5) (T := TX5) (N := 19) hx hb hts in_X5_rank_no_X5 tyX5 tyX5_ok nmX5 hown hK hP hD hS 0 rfl rfl 0 (by decide) hf51 (fun _ h9 => h9) rfl (by decide +kernel) (rfl) (rfl) (Nat.le_of_ble_eq_true rfl) dX5_rank_2 (fun H locs hP hD hS => ?_)
  have hP : va_P D vwCl [(a0, .inr (5, [.int 0, .int (nI Wd), .int (nI Hh), .int (nI nn), .int na, .int nb, .int rk, .int pr, .int bk, .ref a1, .ref a2, .ref a3, .ref a4, .ref a5, .ref a6, .ref a7, .int lo, .long bt, .long bb])), (a6, .inl (cyZ, 16384, .inl tr)), (a7, .inl (cyI, 16384, .inl rn))] H := hP
  have hD : va_D A [(a0, .inr (5, [.int 0, .int (nI Wd), .int (nI Hh), .int (nI nn), .int na, .int nb, .int rk, .int pr, .int bk, .ref a1, .ref a2, .ref a3, .ref a4, .ref a5, .ref a6, .ref a7, .int lo, .long bt, .long bb])), (a6, .inl (cyZ, 16384, .inl tr)), (a7, .inl (cyI, 16384, .inl rn))] := hD
  refine lv_iload_n hx hb dX5_rank_5 rfl (lv_at hl 1 rfl) ?_
  refine lv_iconst (v := 0) hx hb dX5_rank_6 (by decide) ?_
  refine lv_sipush (v := 1000) hx hb dX5_rank_7 (by decide) ?_
  have hPc := hP.sub (ws' := []) [] rfl
  have hDc := hD.sub (ws' := []) [] (by decide) rfl
  refine xk_calli (wr := [(a0, .inr (5, [.int 0, .int (nI Wd), .int (nI Hh), .int (nI nn), .int na, .int nb, .int rk, .int pr, .int bk, .ref a1, .ref a2, .ref a3, .ref a4, .ref a5, .ref a6, .ref a7, .int lo, .long bt, .long bb])), (a6, .inl (cyZ, 16384, .inl tr)), (a7, .inl (cyI, 16384, .inl rn))]) (w2 := [(a0, .inr (5, [.int 0, .int (nI Wd), .int (nI Hh), .int (nI nn), .int na, .int nb, .int rk, .int pr, .int bk, .ref a1, .ref a2, .ref a3, .ref a4, .ref a5, .ref a6, .ref a7, .int lo, .long bt, .long bb])), (a6, .inl (cyZ, 16384, .inl tr)), (a7, .inl (cyI, 16384, .inl rn))]) (va_runS (As := [.int x, .int 0, .int 1000]) (rest := []) hC0 (ct_X5_isIn l D cyI cyZ  _ x 0 1000 ) (va_cwS 3 hts gX5_rank_X5_isIn rfl rfl rfl (by decide +kernel) ⟨Nat.le_of_ble_eq_true rfl, Nat.le_of_ble_eq_true rfl⟩) ⟨xk_blind, xk_pre hK hN hPc hDc⟩ rfl rfl hl.1 rfl (lv_room (Nat.le_of_ble_eq_true rfl)) dX5_rank_10 ⟨Nat.le_of_ble_eq_true rfl, Nat.le_of_ble_eq_true rfl⟩) hP hD hS hA [] [0, 1, 2] [0, 1, 2] rfl rfl (by decide) (by decide) rfl (by decide) (fun H locs hP hD hS => ?_)
  refine lv_if_eq (tgt := 27) hx hb dX5_rank_13 (by decide) (fun c_13 => ?_) (fun c_13 => ?_)
  · have c_13 := bI_z.mp c_13
    refine lv_iconst (v := (-1)) hx hb dX5_rank_27 (by decide) ?_
    exact xk_iret hx hb hr hlocks hP hD hS (rfl) (rfl) dX5_rank_28
  · have c_13 := bI_nz.mp c_13
    refine lv_iload_n hx hb dX5_rank_16 rfl (lv_at hl 2 rfl) ?_
    refine lv_iconst (v := 0) hx hb dX5_rank_17 (by decide) ?_
    refine lv_sipush (v := 1000) hx hb dX5_rank_18 (by decide) ?_
    have hPc := hP.sub (ws' := []) [] rfl
    have hDc := hD.sub (ws' := []) [] (by decide) rfl
    refine xk_calli (wr := [(a0, .inr (5, [.int 0, .int (nI Wd), .int (nI Hh), .int (nI nn), .int na, .int nb, .int rk, .int pr, .int bk, .ref a1, .ref a2, .ref a3, .ref a4, .ref a5, .ref a6, .ref a7, .int lo, .long bt, .long bb])), (a6, .inl (cyZ, 16384, .inl tr)), (a7, .inl (cyI, 16384, .inl rn))]) (w2 := [(a0, .inr (5, [.int 0, .int (nI Wd), .int (nI Hh), .int (nI nn), .int na, .int nb, .int rk, .int pr, .int bk, .ref a1, .ref a2, .ref a3, .ref a4, .ref a5, .ref a6, .ref a7, .int lo, .long bt, .long bb])), (a6, .inl (cyZ, 16384, .inl tr)), (a7, .inl (cyI, 16384, .inl rn))]) (va_runS (As := [.int y, .int 0, .int 1000]) (rest := []) hC0 (ct_X5_isIn l D cyI cyZ  _ y 0 1000 ) (va_cwS 3 hts gX5_rank_X5_isIn rfl rfl rfl (by decide +kernel) ⟨Nat.le_of_ble_eq_true rfl, Nat.le_of_ble_eq_true rfl⟩) ⟨xk_blind, xk_pre hK hN hPc hDc⟩ rfl rfl hl.1 rfl (lv_room (Nat.le_of_ble_eq_true rfl)) dX5_rank_21 ⟨Nat.le_of_ble_eq_true rfl, Nat.le_of_ble_eq_true rfl⟩) hP hD hS hA [] [0, 1, 2] [0, 1, 2] rfl rfl (by decide) (by decide) rfl (by decide) (fun H locs hP hD hS => ?_)
    refine lv_if_ne (tgt := 29) hx hb dX5_rank_24 (by decide) (fun c_24 => ?_) (fun c_24 => ?_)
    · have c_24 := bI_nz.mp c_24
      exact absurd ⟨c_13, c_24⟩ hno
    · have c_24 := bI_z.mp c_24
      refine lv_iconst (v := (-1)) hx hb dX5_rank_27 (by decide) ?_
      exact xk_iret hx hb hr hlocks hP hD hS (rfl) (rfl) dX5_rank_28

abbrev rm_X5_rank_so : Room := { frames := 3, cells := 0, slots := 0, locals := 68 }
theorem in_X5_rank_so_X5 : ∀ w ∈ u_ws RX5 TX5 19, w ∈ wsX5_rank := by decide +kernel
set_option maxHeartbeats 4000000 in
set_option maxRecDepth 100000 in
theorem ct_X5_rank_so (l : Launch) (D : va_G) (cyI cyZ : ClassId) (a0 a1 a2 a3 a4 a5 a6 a7 : Nat) (sz : Nat) (th : Int32) (Wd Hh nn : Nat) (na nb rk pr bk lo : Int32) (bt bb : Int64) (tr rn : Nat → Int32) (mm : Nat) (x y : Int32) (hmq : na * na + nb * nb = nI mm) (hm1 : 1 ≤ mm) (hm2 : mm ≤ 128) (hok : (¬ x < 0 ∧ ¬ 1000 < x) ∧ ¬ y < 0 ∧ ¬ 1000 < y) (hrk : rk = 20 * na + nb + 1000) : Met l yX5_rank wsX5_rank rm_X5_rank_so (xk_Pc D cyI cyZ [.ref a0, .int x, .int y] [(a0, .inr (5, [.int th, .int (nI Wd), .int (nI Hh), .int (nI nn), .int na, .int nb, .int rk, .int pr, .int bk, .ref a1, .ref a2, .ref a3, .ref a4, .ref a5, .ref a6, .ref a7, .int lo, .long bt, .long bb])), (a6, .inl (cyZ, 16384, .inl tr)), (a7, .inl (cyI, 16384, .inl rn))] sz) (xk_Qi D (va_A [(a0, .inr (5, [.int th, .int (nI Wd), .int (nI Hh), .int (nI nn), .int na, .int nb, .int rk, .int pr, .int bk, .ref a1, .ref a2, .ref a3, .ref a4, .ref a5, .ref a6, .ref a7, .int lo, .long bt, .long bb])), (a6, .inl (cyZ, 16384, .inl tr)), (a7, .inl (cyI, 16384, .inl rn))] sz) (rn (pN na nb mm x y)) [(a0, .inr (5, [.int 0, .int (nI Wd), .int (nI Hh), .int (nI nn), .int na, .int nb, .int rk, .int pr, .int bk, .ref a1, .ref a2, .ref a3, .ref a4, .ref a5, .ref a6, .ref a7, .int lo, .long bt, .long bb])), (a6, .inl (cyZ, 16384, .inl tr)), (a7, .inl (cyI, 16384, .inl rn))]) 0 0 (va_A [(a0, .inr (5, [.int th, .int (nI Wd), .int (nI Hh), .int (nI nn), .int na, .int nb, .int rk, .int pr, .int bk, .ref a1, .ref a2, .ref a3, .ref a4, .ref a5, .ref a6, .ref a7, .int lo, .long bt, .long bb])), (a6, .inl (cyZ, 16384, .inl tr)), (a7, .inl (cyI, 16384, .inl rn))] sz) := by
  refine xk_of (own := RX5) (cc := cX5_rank) (maxL := 3) (ret := (some .int)) (Qc := fun A => xk_Qi D A (rn (pN na nb mm x y)) [(a0, .inr (5, [.int 0, .int (nI Wd), .int (nI Hh), .int (nI nn), .int na, .int nb, .int rk, .int pr, .int bk, .ref a1, .ref a2, .ref a3, .ref a4, .ref a5, .ref a6, .ref a7, .int lo, .long bt, .long bb])), (a6, .inl (cyZ, 16384, .inl tr)), (a7, .inl (cyI, 16384, .inl rn))]) (by decide) rfl rfl (Nat.le_of_ble_eq_true rfl) ?_
  intro p e s m below meth c A ls hx hb hr hml hown hlocks hin hts hA hP hK hN hD hS hl
  have hC0 := xk_fix hx hb hml hown hts
  have hl : lv_has ls 3 [(0, .ref a0), (1, .int x), (2, .int y)] := hl
  have hf48 := hts (.fieldLink RX5 48 "DotPressModel" "ranks" "[I") (by decide +kernel)
  have hf51 := hts (.fieldLink RX5 51 "DotPressModel" "thrown" "I") (by decide +kernel)
  have hq := mm_sq hm2
  refine lv_aload_n hx hb dX5_rank_0 rfl (lv_at hl 0 rfl) ?_
  refine lv_iconst (v := 0) hx hb dX5_rank_1 (by decide) ?_
  refine va_put (D := D) (ci := 5) (v := .int 0) (ty := .int) (C := RX5) (T := TX5) (N := 19) hx hb hts in_X5_rank_so_X5 tyX5 tyX5_ok nmX5 hown hK hP hD hS 0 rfl rfl 0 (by decide) hf51 (fun _ h9 => h9) rfl (by decide +kernel) (rfl) (rfl) (Nat.le_of_ble_eq_true rfl) dX5_rank_2 (fun H locs hP hD hS => ?_)
  have hP : va_P D vwCl [(a0, .inr (5, [.int 0, .int (nI Wd), .int (nI Hh), .int (nI nn), .int na, .int nb, .int rk, .int pr, .int bk, .ref a1, .ref a2, .ref a3, .ref a4, .ref a5, .ref a6, .ref a7, .int lo, .long bt, .long bb])), (a6, .inl (cyZ, 16384, .inl tr)), (a7, .inl (cyI, 16384, .inl rn))] H := hP
  have hD : va_D A [(a0, .inr (5, [.int 0, .int (nI Wd), .int (nI Hh), .int (nI nn), .int na, .int nb, .int rk, .int pr, .int bk, .ref a1, .ref a2, .ref a3, .ref a4, .ref a5, .ref a6, .ref a7, .int lo, .long bt, .long bb])), (a6, .inl (cyZ, 16384, .inl tr)), (a7, .inl (cyI, 16384, .inl rn))] := hD
  refine lv_iload_n hx hb dX5_rank_5 rfl (lv_at hl 1 rfl) ?_
  refine lv_iconst (v := 0) hx hb dX5_rank_6 (by decide) ?_
  refine lv_sipush (v := 1000) hx hb dX5_rank_7 (by decide) ?_
  have hPc := hP.sub (ws' := []) [] rfl
  have hDc := hD.sub (ws' := []) [] (by decide) rfl
  refine xk_calli (wr := [(a0, .inr (5, [.int 0, .int (nI Wd), .int (nI Hh), .int (nI nn), .int na, .int nb, .int rk, .int pr, .int bk, .ref a1, .ref a2, .ref a3, .ref a4, .ref a5, .ref a6, .ref a7, .int lo, .long bt, .long bb])), (a6, .inl (cyZ, 16384, .inl tr)), (a7, .inl (cyI, 16384, .inl rn))]) (w2 := [(a0, .inr (5, [.int 0, .int (nI Wd), .int (nI Hh), .int (nI nn), .int na, .int nb, .int rk, .int pr, .int bk, .ref a1, .ref a2, .ref a3, .ref a4, .ref a5, .ref a6, .ref a7, .int lo, .long bt, .long bb])), (a6, .inl (cyZ, 16384, .inl tr)), (a7, .inl (cyI, 16384, .inl rn))]) (va_runS (As := [.int x, .int 0, .int 1000]) (rest := []) hC0 (ct_X5_isIn l D cyI cyZ  _ x 0 1000 ) (va_cwS 3 hts gX5_rank_X5_isIn rfl rfl rfl (by decide +kernel) ⟨Nat.le_of_ble_eq_true rfl, Nat.le_of_ble_eq_true rfl⟩) ⟨xk_blind, xk_pre hK hN hPc hDc⟩ rfl rfl hl.1 rfl (lv_room (Nat.le_of_ble_eq_true rfl)) dX5_rank_10 ⟨Nat.le_of_ble_eq_true rfl, Nat.le_of_ble_eq_true rfl⟩) hP hD hS hA [] [0, 1, 2] [0, 1, 2] rfl rfl (by decide) (by decide) rfl (by decide) (fun H locs hP hD hS => ?_)
  refine lv_if_eq (tgt := 27) hx hb dX5_rank_13 (by decide) (fun c_13 => xk_ab c_13 (bI_nz.mpr hok.1)) (fun c_13 => ?_)
  have c_13 := bI_nz.mp c_13
  refine lv_iload_n hx hb dX5_rank_16 rfl (lv_at hl 2 rfl) ?_
  refine lv_iconst (v := 0) hx hb dX5_rank_17 (by decide) ?_
  refine lv_sipush (v := 1000) hx hb dX5_rank_18 (by decide) ?_
  have hPc := hP.sub (ws' := []) [] rfl
  have hDc := hD.sub (ws' := []) [] (by decide) rfl
  refine xk_calli (wr := [(a0, .inr (5, [.int 0, .int (nI Wd), .int (nI Hh), .int (nI nn), .int na, .int nb, .int rk, .int pr, .int bk, .ref a1, .ref a2, .ref a3, .ref a4, .ref a5, .ref a6, .ref a7, .int lo, .long bt, .long bb])), (a6, .inl (cyZ, 16384, .inl tr)), (a7, .inl (cyI, 16384, .inl rn))]) (w2 := [(a0, .inr (5, [.int 0, .int (nI Wd), .int (nI Hh), .int (nI nn), .int na, .int nb, .int rk, .int pr, .int bk, .ref a1, .ref a2, .ref a3, .ref a4, .ref a5, .ref a6, .ref a7, .int lo, .long bt, .long bb])), (a6, .inl (cyZ, 16384, .inl tr)), (a7, .inl (cyI, 16384, .inl rn))]) (va_runS (As := [.int y, .int 0, .int 1000]) (rest := []) hC0 (ct_X5_isIn l D cyI cyZ  _ y 0 1000 ) (va_cwS 3 hts gX5_rank_X5_isIn rfl rfl rfl (by decide +kernel) ⟨Nat.le_of_ble_eq_true rfl, Nat.le_of_ble_eq_true rfl⟩) ⟨xk_blind, xk_pre hK hN hPc hDc⟩ rfl rfl hl.1 rfl (lv_room (Nat.le_of_ble_eq_true rfl)) dX5_rank_21 ⟨Nat.le_of_ble_eq_true rfl, Nat.le_of_ble_eq_true rfl⟩) hP hD hS hA [] [0, 1, 2] [0, 1, 2] rfl rfl (by decide) (by decide) rfl (by decide) (fun H locs hP hD hS => ?_)
  refine lv_if_ne (tgt := 29) hx hb dX5_rank_24 (by decide) (fun c_24 => ?_) (fun c_24 => xk_ab c_24 (bI_nz.mpr hok.2))
  have c_24 := bI_nz.mp c_24
  refine lv_aload_n hx hb dX5_rank_29 rfl (lv_at hl 0 rfl) ?_
  have hPc := hP.sub (ws' := [(a0, .inr (5, [.int 0, .int (nI Wd), .int (nI Hh), .int (nI nn), .int na, .int nb, .int rk, .int pr, .int bk, .ref a1, .ref a2, .ref a3, .ref a4, .ref a5, .ref a6, .ref a7, .int lo, .long bt, .long bb])), (a6, .inl (cyZ, 16384, .inl tr)), (a7, .inl (cyI, 16384, .inl rn))]) [0, 1, 2] rfl
  have hDc := hD.sub (ws' := [(a0, .inr (5, [.int 0, .int (nI Wd), .int (nI Hh), .int (nI nn), .int na, .int nb, .int rk, .int pr, .int bk, .ref a1, .ref a2, .ref a3, .ref a4, .ref a5, .ref a6, .ref a7, .int lo, .long bt, .long bb])), (a6, .inl (cyZ, 16384, .inl tr)), (a7, .inl (cyI, 16384, .inl rn))]) [0, 1, 2] (by decide) rfl
  refine xk_callv (wr := []) (w2 := [(a0, .inr (5, [.int 0, .int (nI Wd), .int (nI Hh), .int (nI nn), .int na, .int nb, .int rk, .int pr, .int bk, .ref a1, .ref a2, .ref a3, .ref a4, .ref a5, .ref a6, .ref a7, .int lo, .long bt, .long bb])), (a6, .inl (cyZ, 16384, .inl tr)), (a7, .inl (cyI, 16384, .inl rn))]) (va_runV (As := []) (rest := []) hC0 (ct_X5_rankAll_so l D cyI cyZ a0 a1 a2 a3 a4 a5 a6 a7 _ 0 Wd Hh nn na nb rk pr bk lo bt bb tr rn (by first | assumption | omega)) (cwV 0 hts gX5_rank_X5_rankAll rfl rfl rfl (by decide +kernel) ⟨Nat.le_of_ble_eq_true rfl, Nat.le_of_ble_eq_true rfl⟩) ⟨xk_blind, va_recv hK hPc (ci := 5) (q0 := 0) rfl rfl, xk_pre hK hN hPc hDc⟩ rfl rfl hl.1 rfl (lv_room (Nat.le_of_ble_eq_true rfl)) dX5_rank_30 ⟨Nat.le_of_ble_eq_true rfl, Nat.le_of_ble_eq_true rfl⟩) hP hD hS hA [0, 1, 2] [] [0, 1, 2] rfl rfl (by decide) (by decide) rfl (by decide) (fun H locs hP hD hS => ?_)
  refine lv_aload_n hx hb dX5_rank_33 rfl (lv_at hl 0 rfl) ?_
  refine va_get (D := D) (ci := 5) (v := .ref a7) (C := RX5) (T := TX5) (N := 19) hx hb hts in_X5_rank_so_X5 hown hK hP 0 rfl rfl 15 (by decide) hf48 (fun _ h9 => h9) rfl dX5_rank_34 ?_
  refine lv_aload_n hx hb dX5_rank_37 rfl (lv_at hl 0 rfl) ?_
  refine lv_iload_n hx hb dX5_rank_38 rfl (lv_at hl 1 rfl) ?_
  refine lv_iload_n hx hb dX5_rank_39 rfl (lv_at hl 2 rfl) ?_
  have hPc := hP.sub (ws' := [(a0, .inr (5, [.int 0, .int (nI Wd), .int (nI Hh), .int (nI nn), .int na, .int nb, .int rk, .int pr, .int bk, .ref a1, .ref a2, .ref a3, .ref a4, .ref a5, .ref a6, .ref a7, .int lo, .long bt, .long bb]))]) [0] rfl
  have hDc := hD.sub (ws' := [(a0, .inr (5, [.int 0, .int (nI Wd), .int (nI Hh), .int (nI nn), .int na, .int nb, .int rk, .int pr, .int bk, .ref a1, .ref a2, .ref a3, .ref a4, .ref a5, .ref a6, .ref a7, .int lo, .long bt, .long bb]))]) [0] (by decide) rfl
  refine xk_calli (wr := [(a6, .inl (cyZ, 16384, .inl tr)), (a7, .inl (cyI, 16384, .inl rn))]) (w2 := [(a0, .inr (5, [.int 0, .int (nI Wd), .int (nI Hh), .int (nI nn), .int na, .int nb, .int rk, .int pr, .int bk, .ref a1, .ref a2, .ref a3, .ref a4, .ref a5, .ref a6, .ref a7, .int lo, .long bt, .long bb])), (a6, .inl (cyZ, 16384, .inl tr)), (a7, .inl (cyI, 16384, .inl rn))]) (va_runV (As := [.int x, .int y]) (rest := [.ref a7]) hC0 (ct_X5_pairOf l D cyI cyZ a0 a1 a2 a3 a4 a5 a6 a7 _ 0 Wd Hh nn na nb rk pr bk lo bt bb mm x y (by first | assumption | omega) (by first | assumption | omega) (by first | assumption | omega)) (cwV 2 hts gX5_rank_X5_pairOf rfl rfl rfl (by decide +kernel) ⟨Nat.le_of_ble_eq_true rfl, Nat.le_of_ble_eq_true rfl⟩) ⟨xk_blind, va_recv hK hPc (ci := 5) (q0 := 0) rfl rfl, xk_pre hK hN hPc hDc⟩ rfl rfl hl.1 rfl (lv_room (Nat.le_of_ble_eq_true rfl)) dX5_rank_40 ⟨Nat.le_of_ble_eq_true rfl, Nat.le_of_ble_eq_true rfl⟩) hP hD hS hA [0] [1, 2] [2, 0, 1] rfl rfl (by decide) (by decide) rfl (by decide) (fun H locs hP hD hS => ?_)
  refine xk_iald hx hb hK hP 2 rfl (pN na nb mm x y) (rfl) (Nat.lt_of_lt_of_le (pN_lt hm1) hq) (by decide) dX5_rank_43 ?_
  exact xk_iret hx hb hr hlocks hP hD hS (rfl) (rfl) dX5_rank_44

abbrev rm_X5_rank_do : Room := { frames := 3, cells := 0, slots := 0, locals := 68 }
theorem in_X5_rank_do_X5 : ∀ w ∈ u_ws RX5 TX5 19, w ∈ wsX5_rank := by decide +kernel
set_option maxHeartbeats 4000000 in
set_option maxRecDepth 100000 in
theorem ct_X5_rank_do (l : Launch) (D : va_G) (cyI cyZ : ClassId) (a0 a1 a2 a3 a4 a5 a6 a7 : Nat) (sz : Nat) (th : Int32) (Wd Hh nn : Nat) (na nb rk pr bk lo : Int32) (bt bb : Int64) (tr rn : Nat → Int32) (mm : Nat) (x y : Int32) (hmq : na * na + nb * nb = nI mm) (hm1 : 1 ≤ mm) (hm2 : mm ≤ 128) (hok : (¬ x < 0 ∧ ¬ 1000 < x) ∧ ¬ y < 0 ∧ ¬ 1000 < y) (hrk : ¬ rk = 20 * na + nb + 1000) : Met l yX5_rank wsX5_rank rm_X5_rank_do (xk_Pc D cyI cyZ [.ref a0, .int x, .int y] [(a0, .inr (5, [.int th, .int (nI Wd), .int (nI Hh), .int (nI nn), .int na, .int nb, .int rk, .int pr, .int bk, .ref a1, .ref a2, .ref a3, .ref a4, .ref a5, .ref a6, .ref a7, .int lo, .long bt, .long bb])), (a6, .inl (cyZ, 16384, .inl tr)), (a7, .inl (cyI, 16384, .inl rn))] sz) (xk_Qi D (va_A [(a0, .inr (5, [.int th, .int (nI Wd), .int (nI Hh), .int (nI nn), .int na, .int nb, .int rk, .int pr, .int bk, .ref a1, .ref a2, .ref a3, .ref a4, .ref a5, .ref a6, .ref a7, .int lo, .long bt, .long bb])), (a6, .inl (cyZ, 16384, .inl tr)), (a7, .inl (cyI, 16384, .inl rn))] sz) (rnO mm (thF na nb mm tr) rn (mm * mm) (pN na nb mm x y)) [(a0, .inr (5, [.int 0, .int (nI Wd), .int (nI Hh), .int (nI nn), .int na, .int nb, .int (20 * na + nb + 1000), .int (cL (thF na nb mm tr) (mm * mm)), .int bk, .ref a1, .ref a2, .ref a3, .ref a4, .ref a5, .ref a6, .ref a7, .int lo, .long bt, .long bb])), (a6, .inl (cyZ, 16384, .inl (thF na nb mm tr))), (a7, .inl (cyI, 16384, .inl (rnO mm (thF na nb mm tr) rn (mm * mm))))]) 0 0 (va_A [(a0, .inr (5, [.int th, .int (nI Wd), .int (nI Hh), .int (nI nn), .int na, .int nb, .int rk, .int pr, .int bk, .ref a1, .ref a2, .ref a3, .ref a4, .ref a5, .ref a6, .ref a7, .int lo, .long bt, .long bb])), (a6, .inl (cyZ, 16384, .inl tr)), (a7, .inl (cyI, 16384, .inl rn))] sz) := by
  refine xk_of (own := RX5) (cc := cX5_rank) (maxL := 3) (ret := (some .int)) (Qc := fun A => xk_Qi D A (rnO mm (thF na nb mm tr) rn (mm * mm) (pN na nb mm x y)) [(a0, .inr (5, [.int 0, .int (nI Wd), .int (nI Hh), .int (nI nn), .int na, .int nb, .int (20 * na + nb + 1000), .int (cL (thF na nb mm tr) (mm * mm)), .int bk, .ref a1, .ref a2, .ref a3, .ref a4, .ref a5, .ref a6, .ref a7, .int lo, .long bt, .long bb])), (a6, .inl (cyZ, 16384, .inl (thF na nb mm tr))), (a7, .inl (cyI, 16384, .inl (rnO mm (thF na nb mm tr) rn (mm * mm))))]) (by decide) rfl rfl (Nat.le_of_ble_eq_true rfl) ?_
  intro p e s m below meth c A ls hx hb hr hml hown hlocks hin hts hA hP hK hN hD hS hl
  have hC0 := xk_fix hx hb hml hown hts
  have hl : lv_has ls 3 [(0, .ref a0), (1, .int x), (2, .int y)] := hl
  have hf48 := hts (.fieldLink RX5 48 "DotPressModel" "ranks" "[I") (by decide +kernel)
  have hf51 := hts (.fieldLink RX5 51 "DotPressModel" "thrown" "I") (by decide +kernel)
  have hq := mm_sq hm2
  refine lv_aload_n hx hb dX5_rank_0 rfl (lv_at hl 0 rfl) ?_
  refine lv_iconst (v := 0) hx hb dX5_rank_1 (by decide) ?_
  refine va_put (D := D) (ci := 5) (v := .int 0) (ty := .int) (C := RX5) (T := TX5) (N := 19) hx hb hts in_X5_rank_do_X5 tyX5 tyX5_ok nmX5 hown hK hP hD hS 0 rfl rfl 0 (by decide) hf51 (fun _ h9 => h9) rfl (by decide +kernel) (rfl) (rfl) (Nat.le_of_ble_eq_true rfl) dX5_rank_2 (fun H locs hP hD hS => ?_)
  have hP : va_P D vwCl [(a0, .inr (5, [.int 0, .int (nI Wd), .int (nI Hh), .int (nI nn), .int na, .int nb, .int rk, .int pr, .int bk, .ref a1, .ref a2, .ref a3, .ref a4, .ref a5, .ref a6, .ref a7, .int lo, .long bt, .long bb])), (a6, .inl (cyZ, 16384, .inl tr)), (a7, .inl (cyI, 16384, .inl rn))] H := hP
  have hD : va_D A [(a0, .inr (5, [.int 0, .int (nI Wd), .int (nI Hh), .int (nI nn), .int na, .int nb, .int rk, .int pr, .int bk, .ref a1, .ref a2, .ref a3, .ref a4, .ref a5, .ref a6, .ref a7, .int lo, .long bt, .long bb])), (a6, .inl (cyZ, 16384, .inl tr)), (a7, .inl (cyI, 16384, .inl rn))] := hD
  refine lv_iload_n hx hb dX5_rank_5 rfl (lv_at hl 1 rfl) ?_
  refine lv_iconst (v := 0) hx hb dX5_rank_6 (by decide) ?_
  refine lv_sipush (v := 1000) hx hb dX5_rank_7 (by decide) ?_
  have hPc := hP.sub (ws' := []) [] rfl
  have hDc := hD.sub (ws' := []) [] (by decide) rfl
  refine xk_calli (wr := [(a0, .inr (5, [.int 0, .int (nI Wd), .int (nI Hh), .int (nI nn), .int na, .int nb, .int rk, .int pr, .int bk, .ref a1, .ref a2, .ref a3, .ref a4, .ref a5, .ref a6, .ref a7, .int lo, .long bt, .long bb])), (a6, .inl (cyZ, 16384, .inl tr)), (a7, .inl (cyI, 16384, .inl rn))]) (w2 := [(a0, .inr (5, [.int 0, .int (nI Wd), .int (nI Hh), .int (nI nn), .int na, .int nb, .int rk, .int pr, .int bk, .ref a1, .ref a2, .ref a3, .ref a4, .ref a5, .ref a6, .ref a7, .int lo, .long bt, .long bb])), (a6, .inl (cyZ, 16384, .inl tr)), (a7, .inl (cyI, 16384, .inl rn))]) (va_runS (As := [.int x, .int 0, .int 1000]) (rest := []) hC0 (ct_X5_isIn l D cyI cyZ  _ x 0 1000 ) (va_cwS 3 hts gX5_rank_X5_isIn rfl rfl rfl (by decide +kernel) ⟨Nat.le_of_ble_eq_true rfl, Nat.le_of_ble_eq_true rfl⟩) ⟨xk_blind, xk_pre hK hN hPc hDc⟩ rfl rfl hl.1 rfl (lv_room (Nat.le_of_ble_eq_true rfl)) dX5_rank_10 ⟨Nat.le_of_ble_eq_true rfl, Nat.le_of_ble_eq_true rfl⟩) hP hD hS hA [] [0, 1, 2] [0, 1, 2] rfl rfl (by decide) (by decide) rfl (by decide) (fun H locs hP hD hS => ?_)
  refine lv_if_eq (tgt := 27) hx hb dX5_rank_13 (by decide) (fun c_13 => xk_ab c_13 (bI_nz.mpr hok.1)) (fun c_13 => ?_)
  have c_13 := bI_nz.mp c_13
  refine lv_iload_n hx hb dX5_rank_16 rfl (lv_at hl 2 rfl) ?_
  refine lv_iconst (v := 0) hx hb dX5_rank_17 (by decide) ?_
  refine lv_sipush (v := 1000) hx hb dX5_rank_18 (by decide) ?_
  have hPc := hP.sub (ws' := []) [] rfl
  have hDc := hD.sub (ws' := []) [] (by decide) rfl
  refine xk_calli (wr := [(a0, .inr (5, [.int 0, .int (nI Wd), .int (nI Hh), .int (nI nn), .int na, .int nb, .int rk, .int pr, .int bk, .ref a1, .ref a2, .ref a3, .ref a4, .ref a5, .ref a6, .ref a7, .int lo, .long bt, .long bb])), (a6, .inl (cyZ, 16384, .inl tr)), (a7, .inl (cyI, 16384, .inl rn))]) (w2 := [(a0, .inr (5, [.int 0, .int (nI Wd), .int (nI Hh), .int (nI nn), .int na, .int nb, .int rk, .int pr, .int bk, .ref a1, .ref a2, .ref a3, .ref a4, .ref a5, .ref a6, .ref a7, .int lo, .long bt, .long bb])), (a6, .inl (cyZ, 16384, .inl tr)), (a7, .inl (cyI, 16384, .inl rn))]) (va_runS (As := [.int y, .int 0, .int 1000]) (rest := []) hC0 (ct_X5_isIn l D cyI cyZ  _ y 0 1000 ) (va_cwS 3 hts gX5_rank_X5_isIn rfl rfl rfl (by decide +kernel) ⟨Nat.le_of_ble_eq_true rfl, Nat.le_of_ble_eq_true rfl⟩) ⟨xk_blind, xk_pre hK hN hPc hDc⟩ rfl rfl hl.1 rfl (lv_room (Nat.le_of_ble_eq_true rfl)) dX5_rank_21 ⟨Nat.le_of_ble_eq_true rfl, Nat.le_of_ble_eq_true rfl⟩) hP hD hS hA [] [0, 1, 2] [0, 1, 2] rfl rfl (by decide) (by decide) rfl (by decide) (fun H locs hP hD hS => ?_)
  refine lv_if_ne (tgt := 29) hx hb dX5_rank_24 (by decide) (fun c_24 => ?_) (fun c_24 => xk_ab c_24 (bI_nz.mpr hok.2))
  have c_24 := bI_nz.mp c_24
  refine lv_aload_n hx hb dX5_rank_29 rfl (lv_at hl 0 rfl) ?_
  have hPc := hP.sub (ws' := [(a0, .inr (5, [.int 0, .int (nI Wd), .int (nI Hh), .int (nI nn), .int na, .int nb, .int rk, .int pr, .int bk, .ref a1, .ref a2, .ref a3, .ref a4, .ref a5, .ref a6, .ref a7, .int lo, .long bt, .long bb])), (a6, .inl (cyZ, 16384, .inl tr)), (a7, .inl (cyI, 16384, .inl rn))]) [0, 1, 2] rfl
  have hDc := hD.sub (ws' := [(a0, .inr (5, [.int 0, .int (nI Wd), .int (nI Hh), .int (nI nn), .int na, .int nb, .int rk, .int pr, .int bk, .ref a1, .ref a2, .ref a3, .ref a4, .ref a5, .ref a6, .ref a7, .int lo, .long bt, .long bb])), (a6, .inl (cyZ, 16384, .inl tr)), (a7, .inl (cyI, 16384, .inl rn))]) [0, 1, 2] (by decide) rfl
  refine xk_callv (wr := []) (w2 := [(a0, .inr (5, [.int 0, .int (nI Wd), .int (nI Hh), .int (nI nn), .int na, .int nb, .int (20 * na + nb + 1000), .int (cL (thF na nb mm tr) (mm * mm)), .int bk, .ref a1, .ref a2, .ref a3, .ref a4, .ref a5, .ref a6, .ref a7, .int lo, .long bt, .long bb])), (a6, .inl (cyZ, 16384, .inl (thF na nb mm tr))), (a7, .inl (cyI, 16384, .inl (rnO mm (thF na nb mm tr) rn (mm * mm))))]) (va_runV (As := []) (rest := []) hC0 (ct_X5_rankAll_do l D cyI cyZ a0 a1 a2 a3 a4 a5 a6 a7 _ 0 Wd Hh nn na nb rk pr bk lo bt bb tr rn mm (by first | assumption | omega) (by first | assumption | omega) (by first | assumption | omega) (by first | assumption | omega)) (cwV 0 hts gX5_rank_X5_rankAll rfl rfl rfl (by decide +kernel) ⟨Nat.le_of_ble_eq_true rfl, Nat.le_of_ble_eq_true rfl⟩) ⟨xk_blind, va_recv hK hPc (ci := 5) (q0 := 0) rfl rfl, xk_pre hK hN hPc hDc⟩ rfl rfl hl.1 rfl (lv_room (Nat.le_of_ble_eq_true rfl)) dX5_rank_30 ⟨Nat.le_of_ble_eq_true rfl, Nat.le_of_ble_eq_true rfl⟩) hP hD hS hA [0, 1, 2] [] [0, 1, 2] rfl rfl (by decide) (by decide) rfl (by decide) (fun H locs hP hD hS => ?_)
  refine lv_aload_n hx hb dX5_rank_33 rfl (lv_at hl 0 rfl) ?_
  refine va_get (D := D) (ci := 5) (v := .ref a7) (C := RX5) (T := TX5) (N := 19) hx hb hts in_X5_rank_do_X5 hown hK hP 0 rfl rfl 15 (by decide) hf48 (fun _ h9 => h9) rfl dX5_rank_34 ?_
  refine lv_aload_n hx hb dX5_rank_37 rfl (lv_at hl 0 rfl) ?_
  refine lv_iload_n hx hb dX5_rank_38 rfl (lv_at hl 1 rfl) ?_
  refine lv_iload_n hx hb dX5_rank_39 rfl (lv_at hl 2 rfl) ?_
  have hPc := hP.sub (ws' := [(a0, .inr (5, [.int 0, .int (nI Wd), .int (nI Hh), .int (nI nn), .int na, .int nb, .int (20 * na + nb + 1000), .int (cL (thF na nb mm tr) (mm * mm)), .int bk, .ref a1, .ref a2, .ref a3, .ref a4, .ref a5, .ref a6, .ref a7, .int lo, .long bt, .long bb]))]) [0] rfl
  have hDc := hD.sub (ws' := [(a0, .inr (5, [.int 0, .int (nI Wd), .int (nI Hh), .int (nI nn), .int na, .int nb, .int (20 * na + nb + 1000), .int (cL (thF na nb mm tr) (mm * mm)), .int bk, .ref a1, .ref a2, .ref a3, .ref a4, .ref a5, .ref a6, .ref a7, .int lo, .long bt, .long bb]))]) [0] (by decide) rfl
  refine xk_calli (wr := [(a6, .inl (cyZ, 16384, .inl (thF na nb mm tr))), (a7, .inl (cyI, 16384, .inl (rnO mm (thF na nb mm tr) rn (mm * mm))))]) (w2 := [(a0, .inr (5, [.int 0, .int (nI Wd), .int (nI Hh), .int (nI nn), .int na, .int nb, .int (20 * na + nb + 1000), .int (cL (thF na nb mm tr) (mm * mm)), .int bk, .ref a1, .ref a2, .ref a3, .ref a4, .ref a5, .ref a6, .ref a7, .int lo, .long bt, .long bb])), (a6, .inl (cyZ, 16384, .inl (thF na nb mm tr))), (a7, .inl (cyI, 16384, .inl (rnO mm (thF na nb mm tr) rn (mm * mm))))]) (va_runV (As := [.int x, .int y]) (rest := [.ref a7]) hC0 (ct_X5_pairOf l D cyI cyZ a0 a1 a2 a3 a4 a5 a6 a7 _ 0 Wd Hh nn na nb (20 * na + nb + 1000) (cL (thF na nb mm tr) (mm * mm)) bk lo bt bb mm x y (by first | assumption | omega) (by first | assumption | omega) (by first | assumption | omega)) (cwV 2 hts gX5_rank_X5_pairOf rfl rfl rfl (by decide +kernel) ⟨Nat.le_of_ble_eq_true rfl, Nat.le_of_ble_eq_true rfl⟩) ⟨xk_blind, va_recv hK hPc (ci := 5) (q0 := 0) rfl rfl, xk_pre hK hN hPc hDc⟩ rfl rfl hl.1 rfl (lv_room (Nat.le_of_ble_eq_true rfl)) dX5_rank_40 ⟨Nat.le_of_ble_eq_true rfl, Nat.le_of_ble_eq_true rfl⟩) hP hD hS hA [0] [1, 2] [2, 0, 1] rfl rfl (by decide) (by decide) rfl (by decide) (fun H locs hP hD hS => ?_)
  refine xk_iald hx hb hK hP 2 rfl (pN na nb mm x y) (rfl) (Nat.lt_of_lt_of_le (pN_lt hm1) hq) (by decide) dX5_rank_43 ?_
  exact xk_iret hx hb hr hlocks hP hD hS (rfl) (rfl) dX5_rank_44

abbrev rm_X5_beats : Room := { frames := 1, cells := 0, slots := 0, locals := 20 }
theorem in_X5_beats_X5 : ∀ w ∈ u_ws RX5 TX5 19, w ∈ wsX5_beats := by decide +kernel
set_option maxHeartbeats 4000000 in
set_option maxRecDepth 100000 in
theorem ct_X5_beats (l : Launch) (D : va_G) (cyI cyZ : ClassId) (a0 a1 a2 a3 a4 a5 a6 a7 : Nat) (sz : Nat) (th : Int32) (Wd Hh nn : Nat) (na nb rk pr bk lo : Int32) (bt bb : Int64) (mm kk : Nat) (x y : Int32) (hmq : na * na + nb * nb = nI mm) (hm1 : 1 ≤ mm) (hm2 : mm ≤ 128) (hkq : x * x + y * y = nI kk) (hk2 : kk ≤ 128) : Met l yX5_beats wsX5_beats rm_X5_beats (xk_Pc D cyI cyZ [.ref a0, .int x, .int y] [(a0, .inr (5, [.int th, .int (nI Wd), .int (nI Hh), .int (nI nn), .int na, .int nb, .int rk, .int pr, .int bk, .ref a1, .ref a2, .ref a3, .ref a4, .ref a5, .ref a6, .ref a7, .int lo, .long bt, .long bb]))] sz) (xk_Qv D (va_A [(a0, .inr (5, [.int th, .int (nI Wd), .int (nI Hh), .int (nI nn), .int na, .int nb, .int rk, .int pr, .int bk, .ref a1, .ref a2, .ref a3, .ref a4, .ref a5, .ref a6, .ref a7, .int lo, .long bt, .long bb]))] sz) [(a0, .inr (5, [.int th, .int (nI Wd), .int (nI Hh), .int (nI nn), .int na, .int nb, .int rk, .int pr, .int bk, .ref a1, .ref a2, .ref a3, .ref a4, .ref a5, .ref a6, .ref a7, .int lo, .long (bTp na nb x y mm kk bt 4), .long (lN mm * lN kk * lN mm * lN kk)]))]) 0 0 (va_A [(a0, .inr (5, [.int th, .int (nI Wd), .int (nI Hh), .int (nI nn), .int na, .int nb, .int rk, .int pr, .int bk, .ref a1, .ref a2, .ref a3, .ref a4, .ref a5, .ref a6, .ref a7, .int lo, .long bt, .long bb]))] sz) := by
  refine xk_of (own := RX5) (cc := cX5_beats) (maxL := 20) (ret := none) (Qc := fun A => xk_Qv D A [(a0, .inr (5, [.int th, .int (nI Wd), .int (nI Hh), .int (nI nn), .int na, .int nb, .int rk, .int pr, .int bk, .ref a1, .ref a2, .ref a3, .ref a4, .ref a5, .ref a6, .ref a7, .int lo, .long (bTp na nb x y mm kk bt 4), .long (lN mm * lN kk * lN mm * lN kk)]))]) (by decide) rfl rfl (Nat.le_of_ble_eq_true rfl) ?_
  intro p e s m below meth c A ls hx hb hr hml hown hlocks hin hts hA hP hK hN hD hS hl
  have hC0 := xk_fix hx hb hml hown hts
  have hl : lv_has ls 20 [(0, .ref a0), (1, .int x), (2, .int y)] := hl
  have hf19 := hts (.fieldLink RX5 19 "DotPressModel" "a" "I") (by decide +kernel)
  have hf22 := hts (.fieldLink RX5 22 "DotPressModel" "b" "I") (by decide +kernel)
  have hf148 := hts (.fieldLink RX5 148 "DotPressModel" "beatBelow" "J") (by decide +kernel)
  have hf152 := hts (.fieldLink RX5 152 "DotPressModel" "beatTop" "J") (by decide +kernel)
  refine lv_aload_n hx hb dX5_beats_0 rfl (lv_at hl 0 rfl) ?_
  have hPc := hP.sub (ws' := [(a0, .inr (5, [.int th, .int (nI Wd), .int (nI Hh), .int (nI nn), .int na, .int nb, .int rk, .int pr, .int bk, .ref a1, .ref a2, .ref a3, .ref a4, .ref a5, .ref a6, .ref a7, .int lo, .long bt, .long bb]))]) [0] rfl
  have hDc := hD.sub (ws' := [(a0, .inr (5, [.int th, .int (nI Wd), .int (nI Hh), .int (nI nn), .int na, .int nb, .int rk, .int pr, .int bk, .ref a1, .ref a2, .ref a3, .ref a4, .ref a5, .ref a6, .ref a7, .int lo, .long bt, .long bb]))]) [0] (by decide) rfl
  refine xk_calli (wr := []) (w2 := [(a0, .inr (5, [.int th, .int (nI Wd), .int (nI Hh), .int (nI nn), .int na, .int nb, .int rk, .int pr, .int bk, .ref a1, .ref a2, .ref a3, .ref a4, .ref a5, .ref a6, .ref a7, .int lo, .long bt, .long bb]))]) (va_runV (As := []) (rest := []) hC0 (ct_X5_m l D cyI cyZ a0 a1 a2 a3 a4 a5 a6 a7 _ th Wd Hh nn na nb rk pr bk lo bt bb ) (cwV 0 hts gX5_beats_X5_m rfl rfl rfl (by decide +kernel) ⟨Nat.le_of_ble_eq_true rfl, Nat.le_of_ble_eq_true rfl⟩) ⟨xk_blind, va_recv hK hPc (ci := 5) (q0 := 0) rfl rfl, xk_pre hK hN hPc hDc⟩ rfl rfl hl.1 rfl (lv_room (Nat.le_of_ble_eq_true rfl)) dX5_beats_1 ⟨Nat.le_of_ble_eq_true rfl, Nat.le_of_ble_eq_true rfl⟩) hP hD hS hA [0] [] [0] rfl rfl (by decide) (by decide) rfl (by decide) (fun H locs hP hD hS => ?_)
  refine xk_topi (y := nI mm) (hmq) ?_
  refine lv_i2l hx hb dX5_beats_4 rfl ?_
  refine xk_topl (y := lN mm) (nI_l (by omega)) ?_
  refine lv_lstore_n (lv' := [(3, .long (lN mm)), (0, .ref a0), (1, .int x), (2, .int y)]) hx hb dX5_beats_5 rfl hl (by decide) rfl (fun ls hl => ?_)
  refine lv_iload_n hx hb dX5_beats_6 rfl (lv_at hl 2 rfl) ?_
  refine lv_iload_n hx hb dX5_beats_7 rfl (lv_at hl 2 rfl) ?_
  refine lv_imul hx hb dX5_beats_8 ?_
  refine lv_iload_n hx hb dX5_beats_9 rfl (lv_at hl 3 rfl) ?_
  refine lv_iload_n hx hb dX5_beats_10 rfl (lv_at hl 3 rfl) ?_
  refine lv_imul hx hb dX5_beats_11 ?_
  refine lv_iadd hx hb dX5_beats_12 ?_
  refine xk_topi (y := nI kk) (hkq) ?_
  refine lv_i2l hx hb dX5_beats_13 rfl ?_
  refine xk_topl (y := lN kk) (nI_l (by omega)) ?_
  refine lv_lstore (lv' := [(5, .long (lN kk)), (3, .long (lN mm)), (0, .ref a0), (1, .int x), (2, .int y)]) hx hb dX5_beats_14 hl (by decide) rfl (fun ls hl => ?_)
  refine lv_iload_n hx hb dX5_beats_16 rfl (lv_at hl 3 rfl) ?_
  refine lv_i2l hx hb dX5_beats_17 rfl ?_
  refine lv_lstore (lv' := [(7, .long ((x).toInt64)), (5, .long (lN kk)), (3, .long (lN mm)), (0, .ref a0), (1, .int x), (2, .int y)]) hx hb dX5_beats_18 hl (by decide) rfl (fun ls hl => ?_)
  refine lv_iload_n hx hb dX5_beats_20 rfl (lv_at hl 5 rfl) ?_
  refine lv_i2l hx hb dX5_beats_21 rfl ?_
  refine lv_lstore (lv' := [(9, .long ((y).toInt64)), (7, .long ((x).toInt64)), (5, .long (lN kk)), (3, .long (lN mm)), (0, .ref a0), (1, .int x), (2, .int y)]) hx hb dX5_beats_22 hl (by decide) rfl (fun ls hl => ?_)
  refine lv_aload_n hx hb dX5_beats_24 rfl (lv_at hl 4 rfl) ?_
  refine lv_lload_n hx hb dX5_beats_25 rfl (lv_at hl 3 rfl) ?_
  refine lv_lload hx hb dX5_beats_26 (lv_at hl 2 rfl) ?_
  refine lv_lmul hx hb dX5_beats_28 ?_
  refine lv_lload_n hx hb dX5_beats_29 rfl (lv_at hl 3 rfl) ?_
  refine lv_lmul hx hb dX5_beats_30 ?_
  refine lv_lload hx hb dX5_beats_31 (lv_at hl 2 rfl) ?_
  refine lv_lmul hx hb dX5_beats_33 ?_
  refine va_put (D := D) (ci := 5) (v := .long (((lN mm * lN kk) * lN mm) * lN kk)) (ty := .long) (C := RX5) (T := TX5) (N := 19) hx hb hts in_X5_beats_X5 tyX5 tyX5_ok nmX5 hown hK hP hD hS 0 rfl rfl 18 (by decide) hf148 (fun _ h9 => h9) rfl (by decide +kernel) (rfl) (rfl) (Nat.le_of_ble_eq_true rfl) dX5_beats_34 (fun H locs hP hD hS => ?_)
  have hP : va_P D vwCl [(a0, .inr (5, [.int th, .int (nI Wd), .int (nI Hh), .int (nI nn), .int na, .int nb, .int rk, .int pr, .int bk, .ref a1, .ref a2, .ref a3, .ref a4, .ref a5, .ref a6, .ref a7, .int lo, .long bt, .long (((lN mm * lN kk) * lN mm) * lN kk)]))] H := hP
  have hD : va_D A [(a0, .inr (5, [.int th, .int (nI Wd), .int (nI Hh), .int (nI nn), .int na, .int nb, .int rk, .int pr, .int bk, .ref a1, .ref a2, .ref a3, .ref a4, .ref a5, .ref a6, .ref a7, .int lo, .long bt, .long (((lN mm * lN kk) * lN mm) * lN kk)]))] := hD
  refine lv_iconst (v := 0) hx hb dX5_beats_37 (by decide) ?_
  refine lv_istore (lv' := [(11, .int 0), (9, .long ((y).toInt64)), (7, .long ((x).toInt64)), (5, .long (lN kk)), (3, .long (lN mm)), (0, .ref a0), (1, .int x), (2, .int y)]) hx hb dX5_beats_38 hl (by decide) rfl (fun ls hl => ?_)
  have L40 : ∀ (n k : Nat), k + n = 4 → ∀ (H : Heap) (locs : List Loc) (ls : Array Slot), va_P D vwCl [(a0, .inr (5, [.int th, .int (nI Wd), .int (nI Hh), .int (nI nn), .int na, .int nb, .int rk, .int pr, .int bk, .ref a1, .ref a2, .ref a3, .ref a4, .ref a5, .ref a6, .ref a7, .int lo, .long (bTp na nb x y mm kk bt k), .long (((lN mm * lN kk) * lN mm) * lN kk)]))] H → va_D A [(a0, .inr (5, [.int th, .int (nI Wd), .int (nI Hh), .int (nI nn), .int na, .int nb, .int rk, .int pr, .int bk, .ref a1, .ref a2, .ref a3, .ref a4, .ref a5, .ref a6, .ref a7, .int lo, .long (bTp na nb x y mm kk bt k), .long (((lN mm * lN kk) * lN mm) * lN kk)]))] → va_S A s.heap H locs → lv_has ls 20 [(0, .ref a0), (1, .int x), (2, .int y), (3, .long (lN mm)), (5, .long (lN kk)), (7, .long ((bpq x.toInt64 y.toInt64 k).1)), (9, .long ((bpq x.toInt64 y.toInt64 k).2)), (11, .int (nI k))] → W p l e rm_X5_beats s m ([.ref a0, .int x, .int y] : List Value).toArray below meth c H locs 0 0 (MQ below (xk_Qv D A [(a0, .inr (5, [.int th, .int (nI Wd), .int (nI Hh), .int (nI nn), .int na, .int nb, .int rk, .int pr, .int bk, .ref a1, .ref a2, .ref a3, .ref a4, .ref a5, .ref a6, .ref a7, .int lo, .long (bTp na nb x y mm kk bt 4), .long (lN mm * lN kk * lN mm * lN kk)]))]) ([.ref a0, .int x, .int y] : List Value).toArray s 0 0 A) (F0 m 40 ls []) := by
    intro n
    induction n with
    | zero =>
      intro k hk_40  H locs ls hP hD hS hl
      have hz_40 : 4 = k := hk_40.symm
      subst hz_40
      refine lv_iload hx hb dX5_beats_40 (lv_at hl 7 rfl) ?_
      refine lv_iconst (v := 4) hx hb dX5_beats_42 (by decide) ?_
      refine lv_icmp_ge (tgt := 129) hx hb dX5_beats_43 (by decide) (fun c_43 => ?_) (fun c_43 => xk_ba c_43 (nI_le (a := 4) (Nat.le_refl _) (by decide)))
      exact xk_vret hx hb hr hlocks hP hD hS (rfl) dX5_beats_129
    | succ n ih_40 =>
      intro k hk_40  H locs ls hP hD hS hl
      refine lv_iload hx hb dX5_beats_40 (lv_at hl 7 rfl) ?_
      refine lv_iconst (v := 4) hx hb dX5_beats_42 (by decide) ?_
      refine lv_icmp_ge (tgt := 129) hx hb dX5_beats_43 (by decide) (fun c_43 => xk_ab c_43 (nI_ge (b := 4) (by omega) (by decide))) (fun c_43 => ?_)
      refine lv_aload_n hx hb dX5_beats_46 rfl (lv_at hl 0 rfl) ?_
      refine va_get (D := D) (ci := 5) (v := .int na) (C := RX5) (T := TX5) (N := 19) hx hb hts in_X5_beats_X5 hown hK hP 0 rfl rfl 4 (by decide) hf19 (fun _ h9 => h9) rfl dX5_beats_47 ?_
      refine lv_i2l hx hb dX5_beats_50 rfl ?_
      refine lv_lload hx hb dX5_beats_51 (lv_at hl 4 rfl) ?_
      refine lv_lmul hx hb dX5_beats_53 ?_
      refine lv_lload hx hb dX5_beats_54 (lv_at hl 5 rfl) ?_
      refine lv_lload_n hx hb dX5_beats_56 rfl (lv_at hl 3 rfl) ?_
      refine lv_lmul hx hb dX5_beats_57 ?_
      refine lv_lsub hx hb dX5_beats_58 ?_
      refine lv_lstore (lv' := [(12, .long (((na).toInt64 * lN kk) - ((bpq x.toInt64 y.toInt64 k).1 * lN mm))), (0, .ref a0), (1, .int x), (2, .int y), (3, .long (lN mm)), (5, .long (lN kk)), (7, .long ((bpq x.toInt64 y.toInt64 k).1)), (9, .long ((bpq x.toInt64 y.toInt64 k).2)), (11, .int (nI k))]) hx hb dX5_beats_59 hl (by decide) rfl (fun ls hl => ?_)
      refine lv_aload_n hx hb dX5_beats_61 rfl (lv_at hl 1 rfl) ?_
      refine va_get (D := D) (ci := 5) (v := .int nb) (C := RX5) (T := TX5) (N := 19) hx hb hts in_X5_beats_X5 hown hK hP 0 rfl rfl 5 (by decide) hf22 (fun _ h9 => h9) rfl dX5_beats_62 ?_
      refine lv_i2l hx hb dX5_beats_65 rfl ?_
      refine lv_lload hx hb dX5_beats_66 (lv_at hl 5 rfl) ?_
      refine lv_lmul hx hb dX5_beats_68 ?_
      refine lv_lload hx hb dX5_beats_69 (lv_at hl 7 rfl) ?_
      refine lv_lload_n hx hb dX5_beats_71 rfl (lv_at hl 4 rfl) ?_
      refine lv_lmul hx hb dX5_beats_72 ?_
      refine lv_lsub hx hb dX5_beats_73 ?_
      refine lv_lstore (lv' := [(14, .long (((nb).toInt64 * lN kk) - ((bpq x.toInt64 y.toInt64 k).2 * lN mm))), (12, .long (((na).toInt64 * lN kk) - ((bpq x.toInt64 y.toInt64 k).1 * lN mm))), (0, .ref a0), (1, .int x), (2, .int y), (3, .long (lN mm)), (5, .long (lN kk)), (7, .long ((bpq x.toInt64 y.toInt64 k).1)), (9, .long ((bpq x.toInt64 y.toInt64 k).2)), (11, .int (nI k))]) hx hb dX5_beats_74 hl (by decide) rfl (fun ls hl => ?_)
      refine lv_lload hx hb dX5_beats_76 (lv_at hl 1 rfl) ?_
      refine lv_lload hx hb dX5_beats_78 (lv_at hl 1 rfl) ?_
      refine lv_lmul hx hb dX5_beats_80 ?_
      refine lv_lload hx hb dX5_beats_81 (lv_at hl 0 rfl) ?_
      refine lv_lload hx hb dX5_beats_83 (lv_at hl 0 rfl) ?_
      refine lv_lmul hx hb dX5_beats_85 ?_
      refine lv_ladd hx hb dX5_beats_86 ?_
      refine xk_topl (y := bsq na nb x y mm kk k) (rfl) ?_
      refine lv_lstore (lv' := [(16, .long (bsq na nb x y mm kk k)), (14, .long (((nb).toInt64 * lN kk) - ((bpq x.toInt64 y.toInt64 k).2 * lN mm))), (12, .long (((na).toInt64 * lN kk) - ((bpq x.toInt64 y.toInt64 k).1 * lN mm))), (0, .ref a0), (1, .int x), (2, .int y), (3, .long (lN mm)), (5, .long (lN kk)), (7, .long ((bpq x.toInt64 y.toInt64 k).1)), (9, .long ((bpq x.toInt64 y.toInt64 k).2)), (11, .int (nI k))]) hx hb dX5_beats_87 hl (by decide) rfl (fun ls hl => ?_)
      refine lv_iload hx hb dX5_beats_89 (lv_at hl 10 rfl) ?_
      refine lv_if_eq (tgt := 104) hx hb dX5_beats_91 (by decide) (fun c_91 => ?_) (fun c_91 => ?_)
      · have c_91 : k = 0 := (nI_eq (by omega) (by decide)).mp c_91
        refine lv_aload_n hx hb dX5_beats_104 rfl (lv_at hl 3 rfl) ?_
        refine lv_lload hx hb dX5_beats_105 (lv_at hl 0 rfl) ?_
        refine va_put (D := D) (ci := 5) (v := .long (bsq na nb x y mm kk k)) (ty := .long) (C := RX5) (T := TX5) (N := 19) hx hb hts in_X5_beats_X5 tyX5 tyX5_ok nmX5 hown hK hP hD hS 0 rfl rfl 17 (by decide) hf152 (fun _ h9 => h9) rfl (by decide +kernel) (rfl) (rfl) (Nat.le_of_ble_eq_true rfl) dX5_beats_107 (fun H locs hP hD hS => ?_)
        have hP : va_P D vwCl [(a0, .inr (5, [.int th, .int (nI Wd), .int (nI Hh), .int (nI nn), .int na, .int nb, .int rk, .int pr, .int bk, .ref a1, .ref a2, .ref a3, .ref a4, .ref a5, .ref a6, .ref a7, .int lo, .long (bsq na nb x y mm kk k), .long (((lN mm * lN kk) * lN mm) * lN kk)]))] H := hP
        have hD : va_D A [(a0, .inr (5, [.int th, .int (nI Wd), .int (nI Hh), .int (nI nn), .int na, .int nb, .int rk, .int pr, .int bk, .ref a1, .ref a2, .ref a3, .ref a4, .ref a5, .ref a6, .ref a7, .int lo, .long (bsq na nb x y mm kk k), .long (((lN mm * lN kk) * lN mm) * lN kk)]))] := hD
        refine lv_lload hx hb dX5_beats_110 (lv_at hl 8 rfl) ?_
        refine lv_lstore (lv' := [(18, .long ((bpq x.toInt64 y.toInt64 k).1)), (16, .long (bsq na nb x y mm kk k)), (14, .long (((nb).toInt64 * lN kk) - ((bpq x.toInt64 y.toInt64 k).2 * lN mm))), (12, .long (((na).toInt64 * lN kk) - ((bpq x.toInt64 y.toInt64 k).1 * lN mm))), (0, .ref a0), (1, .int x), (2, .int y), (3, .long (lN mm)), (5, .long (lN kk)), (7, .long ((bpq x.toInt64 y.toInt64 k).1)), (9, .long ((bpq x.toInt64 y.toInt64 k).2)), (11, .int (nI k))]) hx hb dX5_beats_112 hl (by decide) rfl (fun ls hl => ?_)
        refine lv_lload hx hb dX5_beats_114 (lv_at hl 10 rfl) ?_
        refine lv_lneg hx hb dX5_beats_116 ?_
        refine lv_lstore (lv' := [(7, .long (-(bpq x.toInt64 y.toInt64 k).2)), (18, .long ((bpq x.toInt64 y.toInt64 k).1)), (16, .long (bsq na nb x y mm kk k)), (14, .long (((nb).toInt64 * lN kk) - ((bpq x.toInt64 y.toInt64 k).2 * lN mm))), (12, .long (((na).toInt64 * lN kk) - ((bpq x.toInt64 y.toInt64 k).1 * lN mm))), (0, .ref a0), (1, .int x), (2, .int y), (3, .long (lN mm)), (5, .long (lN kk)), (9, .long ((bpq x.toInt64 y.toInt64 k).2)), (11, .int (nI k))]) hx hb dX5_beats_117 hl (by decide) rfl (fun ls hl => ?_)
        refine lv_lload hx hb dX5_beats_119 (lv_at hl 1 rfl) ?_
        refine lv_lstore (lv' := [(9, .long ((bpq x.toInt64 y.toInt64 k).1)), (7, .long (-(bpq x.toInt64 y.toInt64 k).2)), (18, .long ((bpq x.toInt64 y.toInt64 k).1)), (16, .long (bsq na nb x y mm kk k)), (14, .long (((nb).toInt64 * lN kk) - ((bpq x.toInt64 y.toInt64 k).2 * lN mm))), (12, .long (((na).toInt64 * lN kk) - ((bpq x.toInt64 y.toInt64 k).1 * lN mm))), (0, .ref a0), (1, .int x), (2, .int y), (3, .long (lN mm)), (5, .long (lN kk)), (11, .int (nI k))]) hx hb dX5_beats_121 hl (by decide) rfl (fun ls hl => ?_)
        refine lv_iinc (v := nI (k + 1)) (lv' := [(11, .int (nI (k + 1))), (9, .long ((bpq x.toInt64 y.toInt64 k).1)), (7, .long (-(bpq x.toInt64 y.toInt64 k).2)), (18, .long ((bpq x.toInt64 y.toInt64 k).1)), (16, .long (bsq na nb x y mm kk k)), (14, .long (((nb).toInt64 * lN kk) - ((bpq x.toInt64 y.toInt64 k).2 * lN mm))), (12, .long (((na).toInt64 * lN kk) - ((bpq x.toInt64 y.toInt64 k).1 * lN mm))), (0, .ref a0), (1, .int x), (2, .int y), (3, .long (lN mm)), (5, .long (lN kk))]) hx hb dX5_beats_123 hl (k := 11) rfl (nI_1 _) (by decide) rfl (fun ls hl => ?_)
        refine lv_goto (tgt := 40) hx hb dX5_beats_126 (by decide) ?_
        have eq_100 : (-(bpq x.toInt64 y.toInt64 k).2 : Int64) = (bpq x.toInt64 y.toInt64 (k + 1)).1 := rfl
        have eq_101 : ((bpq x.toInt64 y.toInt64 k).1 : Int64) = (bpq x.toInt64 y.toInt64 (k + 1)).2 := rfl
        have eq_102 : (bsq na nb x y mm kk k : Int64) = bTp na nb x y mm kk bt (k + 1) := bTp_a c_91
        have eW : ([(a0, .inr (5, [.int th, .int (nI Wd), .int (nI Hh), .int (nI nn), .int na, .int nb, .int rk, .int pr, .int bk, .ref a1, .ref a2, .ref a3, .ref a4, .ref a5, .ref a6, .ref a7, .int lo, .long (bsq na nb x y mm kk k), .long (((lN mm * lN kk) * lN mm) * lN kk)]))] : va_W) = [(a0, .inr (5, [.int th, .int (nI Wd), .int (nI Hh), .int (nI nn), .int na, .int nb, .int rk, .int pr, .int bk, .ref a1, .ref a2, .ref a3, .ref a4, .ref a5, .ref a6, .ref a7, .int lo, .long (bTp na nb x y mm kk bt (k + 1)), .long (((lN mm * lN kk) * lN mm) * lN kk)]))] := (congr (congrArg List.cons (congrArg (fun z => ((a0, (Sum.inr (5, z) : va_E)) : Nat × va_E)) (congrArg (List.cons _) (congrArg (List.cons _) (congrArg (List.cons _) (congrArg (List.cons _) (congrArg (List.cons _) (congrArg (List.cons _) (congrArg (List.cons _) (congrArg (List.cons _) (congrArg (List.cons _) (congrArg (List.cons _) (congrArg (List.cons _) (congrArg (List.cons _) (congrArg (List.cons _) (congrArg (List.cons _) (congrArg (List.cons _) (congrArg (List.cons _) (congrArg (List.cons _) (congr (congrArg List.cons (congrArg Value.long eq_102)) (congrArg (List.cons _) rfl))))))))))))))))))))) rfl)
        rw [eW] at hP hD
        have hl := lv_sub (l' := [(0, .ref a0), (1, .int x), (2, .int y), (3, .long (lN mm)), (5, .long (lN kk)), (7, .long (-(bpq x.toInt64 y.toInt64 k).2)), (9, .long ((bpq x.toInt64 y.toInt64 k).1)), (11, .int (nI (k + 1)))]) hl [7, 8, 9, 10, 11, 2, 1, 0] rfl
        have eL : ([(0, .ref a0), (1, .int x), (2, .int y), (3, .long (lN mm)), (5, .long (lN kk)), (7, .long (-(bpq x.toInt64 y.toInt64 k).2)), (9, .long ((bpq x.toInt64 y.toInt64 k).1)), (11, .int (nI (k + 1)))] : List (Nat × Value)) = [(0, .ref a0), (1, .int x), (2, .int y), (3, .long (lN mm)), (5, .long (lN kk)), (7, .long ((bpq x.toInt64 y.toInt64 (k + 1)).1)), (9, .long ((bpq x.toInt64 y.toInt64 (k + 1)).2)), (11, .int (nI (k + 1)))] := (congrArg (List.cons _) (congrArg (List.cons _) (congrArg (List.cons _) (congrArg (List.cons _) (congrArg (List.cons _) (congr (congrArg List.cons (congrArg (fun z => (((7 : Nat), Value.long z) : Nat × Value)) eq_100)) (congr (congrArg List.cons (congrArg (fun z => (((9 : Nat), Value.long z) : Nat × Value)) eq_101)) (congrArg (List.cons _) rfl))))))))
        rw [eL] at hl
        exact ih_40 (k + 1) (by omega)  _ _ _ hP hD hS hl
      · have c_91 : ¬ k = 0 := fun h => c_91 (by rw [h]; rfl)
        refine lv_lload hx hb dX5_beats_94 (lv_at hl 0 rfl) ?_
        refine lv_aload_n hx hb dX5_beats_96 rfl (lv_at hl 3 rfl) ?_
        refine va_get (D := D) (ci := 5) (v := .long (bTp na nb x y mm kk bt k)) (C := RX5) (T := TX5) (N := 19) hx hb hts in_X5_beats_X5 hown hK hP 0 rfl rfl 17 (by decide) hf152 (fun _ h9 => h9) rfl dX5_beats_97 ?_
        refine W.lcmp hx hb dX5_beats_100 ?_
        refine lv_if_ge (tgt := 110) hx hb dX5_beats_101 (by decide) (fun c_101 => ?_) (fun c_101 => ?_)
        · have c_101 : bTp na nb x y mm kk bt k ≤ bsq na nb x y mm kk k := (lg_cmp_ge _ _).mp c_101
          refine lv_lload hx hb dX5_beats_110 (lv_at hl 8 rfl) ?_
          refine lv_lstore (lv' := [(18, .long ((bpq x.toInt64 y.toInt64 k).1)), (16, .long (bsq na nb x y mm kk k)), (14, .long (((nb).toInt64 * lN kk) - ((bpq x.toInt64 y.toInt64 k).2 * lN mm))), (12, .long (((na).toInt64 * lN kk) - ((bpq x.toInt64 y.toInt64 k).1 * lN mm))), (0, .ref a0), (1, .int x), (2, .int y), (3, .long (lN mm)), (5, .long (lN kk)), (7, .long ((bpq x.toInt64 y.toInt64 k).1)), (9, .long ((bpq x.toInt64 y.toInt64 k).2)), (11, .int (nI k))]) hx hb dX5_beats_112 hl (by decide) rfl (fun ls hl => ?_)
          refine lv_lload hx hb dX5_beats_114 (lv_at hl 10 rfl) ?_
          refine lv_lneg hx hb dX5_beats_116 ?_
          refine lv_lstore (lv' := [(7, .long (-(bpq x.toInt64 y.toInt64 k).2)), (18, .long ((bpq x.toInt64 y.toInt64 k).1)), (16, .long (bsq na nb x y mm kk k)), (14, .long (((nb).toInt64 * lN kk) - ((bpq x.toInt64 y.toInt64 k).2 * lN mm))), (12, .long (((na).toInt64 * lN kk) - ((bpq x.toInt64 y.toInt64 k).1 * lN mm))), (0, .ref a0), (1, .int x), (2, .int y), (3, .long (lN mm)), (5, .long (lN kk)), (9, .long ((bpq x.toInt64 y.toInt64 k).2)), (11, .int (nI k))]) hx hb dX5_beats_117 hl (by decide) rfl (fun ls hl => ?_)
          refine lv_lload hx hb dX5_beats_119 (lv_at hl 1 rfl) ?_
          refine lv_lstore (lv' := [(9, .long ((bpq x.toInt64 y.toInt64 k).1)), (7, .long (-(bpq x.toInt64 y.toInt64 k).2)), (18, .long ((bpq x.toInt64 y.toInt64 k).1)), (16, .long (bsq na nb x y mm kk k)), (14, .long (((nb).toInt64 * lN kk) - ((bpq x.toInt64 y.toInt64 k).2 * lN mm))), (12, .long (((na).toInt64 * lN kk) - ((bpq x.toInt64 y.toInt64 k).1 * lN mm))), (0, .ref a0), (1, .int x), (2, .int y), (3, .long (lN mm)), (5, .long (lN kk)), (11, .int (nI k))]) hx hb dX5_beats_121 hl (by decide) rfl (fun ls hl => ?_)
          refine lv_iinc (v := nI (k + 1)) (lv' := [(11, .int (nI (k + 1))), (9, .long ((bpq x.toInt64 y.toInt64 k).1)), (7, .long (-(bpq x.toInt64 y.toInt64 k).2)), (18, .long ((bpq x.toInt64 y.toInt64 k).1)), (16, .long (bsq na nb x y mm kk k)), (14, .long (((nb).toInt64 * lN kk) - ((bpq x.toInt64 y.toInt64 k).2 * lN mm))), (12, .long (((na).toInt64 * lN kk) - ((bpq x.toInt64 y.toInt64 k).1 * lN mm))), (0, .ref a0), (1, .int x), (2, .int y), (3, .long (lN mm)), (5, .long (lN kk))]) hx hb dX5_beats_123 hl (k := 11) rfl (nI_1 _) (by decide) rfl (fun ls hl => ?_)
          refine lv_goto (tgt := 40) hx hb dX5_beats_126 (by decide) ?_
          have eq_125 : (-(bpq x.toInt64 y.toInt64 k).2 : Int64) = (bpq x.toInt64 y.toInt64 (k + 1)).1 := rfl
          have eq_126 : ((bpq x.toInt64 y.toInt64 k).1 : Int64) = (bpq x.toInt64 y.toInt64 (k + 1)).2 := rfl
          have eq_127 : (bTp na nb x y mm kk bt k : Int64) = bTp na nb x y mm kk bt (k + 1) := bTp_b c_91 c_101
          have eW : ([(a0, .inr (5, [.int th, .int (nI Wd), .int (nI Hh), .int (nI nn), .int na, .int nb, .int rk, .int pr, .int bk, .ref a1, .ref a2, .ref a3, .ref a4, .ref a5, .ref a6, .ref a7, .int lo, .long (bTp na nb x y mm kk bt k), .long (((lN mm * lN kk) * lN mm) * lN kk)]))] : va_W) = [(a0, .inr (5, [.int th, .int (nI Wd), .int (nI Hh), .int (nI nn), .int na, .int nb, .int rk, .int pr, .int bk, .ref a1, .ref a2, .ref a3, .ref a4, .ref a5, .ref a6, .ref a7, .int lo, .long (bTp na nb x y mm kk bt (k + 1)), .long (((lN mm * lN kk) * lN mm) * lN kk)]))] := (congr (congrArg List.cons (congrArg (fun z => ((a0, (Sum.inr (5, z) : va_E)) : Nat × va_E)) (congrArg (List.cons _) (congrArg (List.cons _) (congrArg (List.cons _) (congrArg (List.cons _) (congrArg (List.cons _) (congrArg (List.cons _) (congrArg (List.cons _) (congrArg (List.cons _) (congrArg (List.cons _) (congrArg (List.cons _) (congrArg (List.cons _) (congrArg (List.cons _) (congrArg (List.cons _) (congrArg (List.cons _) (congrArg (List.cons _) (congrArg (List.cons _) (congrArg (List.cons _) (congr (congrArg List.cons (congrArg Value.long eq_127)) (congrArg (List.cons _) rfl))))))))))))))))))))) rfl)
          rw [eW] at hP hD
          have hl := lv_sub (l' := [(0, .ref a0), (1, .int x), (2, .int y), (3, .long (lN mm)), (5, .long (lN kk)), (7, .long (-(bpq x.toInt64 y.toInt64 k).2)), (9, .long ((bpq x.toInt64 y.toInt64 k).1)), (11, .int (nI (k + 1)))]) hl [7, 8, 9, 10, 11, 2, 1, 0] rfl
          have eL : ([(0, .ref a0), (1, .int x), (2, .int y), (3, .long (lN mm)), (5, .long (lN kk)), (7, .long (-(bpq x.toInt64 y.toInt64 k).2)), (9, .long ((bpq x.toInt64 y.toInt64 k).1)), (11, .int (nI (k + 1)))] : List (Nat × Value)) = [(0, .ref a0), (1, .int x), (2, .int y), (3, .long (lN mm)), (5, .long (lN kk)), (7, .long ((bpq x.toInt64 y.toInt64 (k + 1)).1)), (9, .long ((bpq x.toInt64 y.toInt64 (k + 1)).2)), (11, .int (nI (k + 1)))] := (congrArg (List.cons _) (congrArg (List.cons _) (congrArg (List.cons _) (congrArg (List.cons _) (congrArg (List.cons _) (congr (congrArg List.cons (congrArg (fun z => (((7 : Nat), Value.long z) : Nat × Value)) eq_125)) (congr (congrArg List.cons (congrArg (fun z => (((9 : Nat), Value.long z) : Nat × Value)) eq_126)) (congrArg (List.cons _) rfl))))))))
          rw [eL] at hl
          exact ih_40 (k + 1) (by omega)  _ _ _ hP hD hS hl
        · have c_101 : ¬ bTp na nb x y mm kk bt k ≤ bsq na nb x y mm kk k := fun h => c_101 ((lg_cmp_ge _ _).mpr h)
          refine lv_aload_n hx hb dX5_beats_104 rfl (lv_at hl 3 rfl) ?_
          refine lv_lload hx hb dX5_beats_105 (lv_at hl 0 rfl) ?_
          refine va_put (D := D) (ci := 5) (v := .long (bsq na nb x y mm kk k)) (ty := .long) (C := RX5) (T := TX5) (N := 19) hx hb hts in_X5_beats_X5 tyX5 tyX5_ok nmX5 hown hK hP hD hS 0 rfl rfl 17 (by decide) hf152 (fun _ h9 => h9) rfl (by decide +kernel) (rfl) (rfl) (Nat.le_of_ble_eq_true rfl) dX5_beats_107 (fun H locs hP hD hS => ?_)
          have hP : va_P D vwCl [(a0, .inr (5, [.int th, .int (nI Wd), .int (nI Hh), .int (nI nn), .int na, .int nb, .int rk, .int pr, .int bk, .ref a1, .ref a2, .ref a3, .ref a4, .ref a5, .ref a6, .ref a7, .int lo, .long (bsq na nb x y mm kk k), .long (((lN mm * lN kk) * lN mm) * lN kk)]))] H := hP
          have hD : va_D A [(a0, .inr (5, [.int th, .int (nI Wd), .int (nI Hh), .int (nI nn), .int na, .int nb, .int rk, .int pr, .int bk, .ref a1, .ref a2, .ref a3, .ref a4, .ref a5, .ref a6, .ref a7, .int lo, .long (bsq na nb x y mm kk k), .long (((lN mm * lN kk) * lN mm) * lN kk)]))] := hD
          refine lv_lload hx hb dX5_beats_110 (lv_at hl 8 rfl) ?_
          refine lv_lstore (lv' := [(18, .long ((bpq x.toInt64 y.toInt64 k).1)), (16, .long (bsq na nb x y mm kk k)), (14, .long (((nb).toInt64 * lN kk) - ((bpq x.toInt64 y.toInt64 k).2 * lN mm))), (12, .long (((na).toInt64 * lN kk) - ((bpq x.toInt64 y.toInt64 k).1 * lN mm))), (0, .ref a0), (1, .int x), (2, .int y), (3, .long (lN mm)), (5, .long (lN kk)), (7, .long ((bpq x.toInt64 y.toInt64 k).1)), (9, .long ((bpq x.toInt64 y.toInt64 k).2)), (11, .int (nI k))]) hx hb dX5_beats_112 hl (by decide) rfl (fun ls hl => ?_)
          refine lv_lload hx hb dX5_beats_114 (lv_at hl 10 rfl) ?_
          refine lv_lneg hx hb dX5_beats_116 ?_
          refine lv_lstore (lv' := [(7, .long (-(bpq x.toInt64 y.toInt64 k).2)), (18, .long ((bpq x.toInt64 y.toInt64 k).1)), (16, .long (bsq na nb x y mm kk k)), (14, .long (((nb).toInt64 * lN kk) - ((bpq x.toInt64 y.toInt64 k).2 * lN mm))), (12, .long (((na).toInt64 * lN kk) - ((bpq x.toInt64 y.toInt64 k).1 * lN mm))), (0, .ref a0), (1, .int x), (2, .int y), (3, .long (lN mm)), (5, .long (lN kk)), (9, .long ((bpq x.toInt64 y.toInt64 k).2)), (11, .int (nI k))]) hx hb dX5_beats_117 hl (by decide) rfl (fun ls hl => ?_)
          refine lv_lload hx hb dX5_beats_119 (lv_at hl 1 rfl) ?_
          refine lv_lstore (lv' := [(9, .long ((bpq x.toInt64 y.toInt64 k).1)), (7, .long (-(bpq x.toInt64 y.toInt64 k).2)), (18, .long ((bpq x.toInt64 y.toInt64 k).1)), (16, .long (bsq na nb x y mm kk k)), (14, .long (((nb).toInt64 * lN kk) - ((bpq x.toInt64 y.toInt64 k).2 * lN mm))), (12, .long (((na).toInt64 * lN kk) - ((bpq x.toInt64 y.toInt64 k).1 * lN mm))), (0, .ref a0), (1, .int x), (2, .int y), (3, .long (lN mm)), (5, .long (lN kk)), (11, .int (nI k))]) hx hb dX5_beats_121 hl (by decide) rfl (fun ls hl => ?_)
          refine lv_iinc (v := nI (k + 1)) (lv' := [(11, .int (nI (k + 1))), (9, .long ((bpq x.toInt64 y.toInt64 k).1)), (7, .long (-(bpq x.toInt64 y.toInt64 k).2)), (18, .long ((bpq x.toInt64 y.toInt64 k).1)), (16, .long (bsq na nb x y mm kk k)), (14, .long (((nb).toInt64 * lN kk) - ((bpq x.toInt64 y.toInt64 k).2 * lN mm))), (12, .long (((na).toInt64 * lN kk) - ((bpq x.toInt64 y.toInt64 k).1 * lN mm))), (0, .ref a0), (1, .int x), (2, .int y), (3, .long (lN mm)), (5, .long (lN kk))]) hx hb dX5_beats_123 hl (k := 11) rfl (nI_1 _) (by decide) rfl (fun ls hl => ?_)
          refine lv_goto (tgt := 40) hx hb dX5_beats_126 (by decide) ?_
          have eq_149 : (-(bpq x.toInt64 y.toInt64 k).2 : Int64) = (bpq x.toInt64 y.toInt64 (k + 1)).1 := rfl
          have eq_150 : ((bpq x.toInt64 y.toInt64 k).1 : Int64) = (bpq x.toInt64 y.toInt64 (k + 1)).2 := rfl
          have eq_151 : (bsq na nb x y mm kk k : Int64) = bTp na nb x y mm kk bt (k + 1) := bTp_c c_91 c_101
          have eW : ([(a0, .inr (5, [.int th, .int (nI Wd), .int (nI Hh), .int (nI nn), .int na, .int nb, .int rk, .int pr, .int bk, .ref a1, .ref a2, .ref a3, .ref a4, .ref a5, .ref a6, .ref a7, .int lo, .long (bsq na nb x y mm kk k), .long (((lN mm * lN kk) * lN mm) * lN kk)]))] : va_W) = [(a0, .inr (5, [.int th, .int (nI Wd), .int (nI Hh), .int (nI nn), .int na, .int nb, .int rk, .int pr, .int bk, .ref a1, .ref a2, .ref a3, .ref a4, .ref a5, .ref a6, .ref a7, .int lo, .long (bTp na nb x y mm kk bt (k + 1)), .long (((lN mm * lN kk) * lN mm) * lN kk)]))] := (congr (congrArg List.cons (congrArg (fun z => ((a0, (Sum.inr (5, z) : va_E)) : Nat × va_E)) (congrArg (List.cons _) (congrArg (List.cons _) (congrArg (List.cons _) (congrArg (List.cons _) (congrArg (List.cons _) (congrArg (List.cons _) (congrArg (List.cons _) (congrArg (List.cons _) (congrArg (List.cons _) (congrArg (List.cons _) (congrArg (List.cons _) (congrArg (List.cons _) (congrArg (List.cons _) (congrArg (List.cons _) (congrArg (List.cons _) (congrArg (List.cons _) (congrArg (List.cons _) (congr (congrArg List.cons (congrArg Value.long eq_151)) (congrArg (List.cons _) rfl))))))))))))))))))))) rfl)
          rw [eW] at hP hD
          have hl := lv_sub (l' := [(0, .ref a0), (1, .int x), (2, .int y), (3, .long (lN mm)), (5, .long (lN kk)), (7, .long (-(bpq x.toInt64 y.toInt64 k).2)), (9, .long ((bpq x.toInt64 y.toInt64 k).1)), (11, .int (nI (k + 1)))]) hl [7, 8, 9, 10, 11, 2, 1, 0] rfl
          have eL : ([(0, .ref a0), (1, .int x), (2, .int y), (3, .long (lN mm)), (5, .long (lN kk)), (7, .long (-(bpq x.toInt64 y.toInt64 k).2)), (9, .long ((bpq x.toInt64 y.toInt64 k).1)), (11, .int (nI (k + 1)))] : List (Nat × Value)) = [(0, .ref a0), (1, .int x), (2, .int y), (3, .long (lN mm)), (5, .long (lN kk)), (7, .long ((bpq x.toInt64 y.toInt64 (k + 1)).1)), (9, .long ((bpq x.toInt64 y.toInt64 (k + 1)).2)), (11, .int (nI (k + 1)))] := (congrArg (List.cons _) (congrArg (List.cons _) (congrArg (List.cons _) (congrArg (List.cons _) (congrArg (List.cons _) (congr (congrArg List.cons (congrArg (fun z => (((7 : Nat), Value.long z) : Nat × Value)) eq_149)) (congr (congrArg List.cons (congrArg (fun z => (((9 : Nat), Value.long z) : Nat × Value)) eq_150)) (congrArg (List.cons _) rfl))))))))
          rw [eL] at hl
          exact ih_40 (k + 1) (by omega)  _ _ _ hP hD hS hl
  have eq_158 : ((x).toInt64 : Int64) = (bpq x.toInt64 y.toInt64 0).1 := rfl
  have eq_159 : ((y).toInt64 : Int64) = (bpq x.toInt64 y.toInt64 0).2 := rfl
  have eq_160 : (0 : Int32) = nI 0 := rfl
  have eq_161 : (bt : Int64) = bTp na nb x y mm kk bt 0 := rfl
  have eW : ([(a0, .inr (5, [.int th, .int (nI Wd), .int (nI Hh), .int (nI nn), .int na, .int nb, .int rk, .int pr, .int bk, .ref a1, .ref a2, .ref a3, .ref a4, .ref a5, .ref a6, .ref a7, .int lo, .long bt, .long (((lN mm * lN kk) * lN mm) * lN kk)]))] : va_W) = [(a0, .inr (5, [.int th, .int (nI Wd), .int (nI Hh), .int (nI nn), .int na, .int nb, .int rk, .int pr, .int bk, .ref a1, .ref a2, .ref a3, .ref a4, .ref a5, .ref a6, .ref a7, .int lo, .long (bTp na nb x y mm kk bt 0), .long (((lN mm * lN kk) * lN mm) * lN kk)]))] := (congr (congrArg List.cons (congrArg (fun z => ((a0, (Sum.inr (5, z) : va_E)) : Nat × va_E)) (congrArg (List.cons _) (congrArg (List.cons _) (congrArg (List.cons _) (congrArg (List.cons _) (congrArg (List.cons _) (congrArg (List.cons _) (congrArg (List.cons _) (congrArg (List.cons _) (congrArg (List.cons _) (congrArg (List.cons _) (congrArg (List.cons _) (congrArg (List.cons _) (congrArg (List.cons _) (congrArg (List.cons _) (congrArg (List.cons _) (congrArg (List.cons _) (congrArg (List.cons _) (congr (congrArg List.cons (congrArg Value.long eq_161)) (congrArg (List.cons _) rfl))))))))))))))))))))) rfl)
  rw [eW] at hP hD
  have hl := lv_sub (l' := [(0, .ref a0), (1, .int x), (2, .int y), (3, .long (lN mm)), (5, .long (lN kk)), (7, .long ((x).toInt64)), (9, .long ((y).toInt64)), (11, .int 0)]) hl [5, 6, 7, 4, 3, 2, 1, 0] rfl
  have eL : ([(0, .ref a0), (1, .int x), (2, .int y), (3, .long (lN mm)), (5, .long (lN kk)), (7, .long ((x).toInt64)), (9, .long ((y).toInt64)), (11, .int 0)] : List (Nat × Value)) = [(0, .ref a0), (1, .int x), (2, .int y), (3, .long (lN mm)), (5, .long (lN kk)), (7, .long ((bpq x.toInt64 y.toInt64 0).1)), (9, .long ((bpq x.toInt64 y.toInt64 0).2)), (11, .int (nI 0))] := (congrArg (List.cons _) (congrArg (List.cons _) (congrArg (List.cons _) (congrArg (List.cons _) (congrArg (List.cons _) (congr (congrArg List.cons (congrArg (fun z => (((7 : Nat), Value.long z) : Nat × Value)) eq_158)) (congr (congrArg List.cons (congrArg (fun z => (((9 : Nat), Value.long z) : Nat × Value)) eq_159)) (congr (congrArg List.cons (congrArg (fun z => (((11 : Nat), Value.int z) : Nat × Value)) eq_160)) rfl))))))))
  rw [eL] at hl
  exact L40 _ 0 (Nat.zero_add _)  _ _ _ hP hD hS hl

abbrev rm_X5_beat_no : Room := { frames := 2, cells := 0, slots := 0, locals := 43 }
theorem in_X5_beat_no_X5 : ∀ w ∈ u_ws RX5 TX5 19, w ∈ wsX5_beat := by decide +kernel
set_option maxHeartbeats 4000000 in
set_option maxRecDepth 100000 in
theorem ct_X5_beat_no (l : Launch) (D : va_G) (cyI cyZ : ClassId) (a0 a1 a2 a3 a4 a5 a6 a7 : Nat) (sz : Nat) (th : Int32) (Wd Hh nn : Nat) (na nb rk pr bk lo : Int32) (bt bb : Int64) (x y v : Int32) (hno : ¬ (nt_ok x y ∧ ¬ v < 0 ∧ ¬ 1 < v)) : Met l yX5_beat wsX5_beat rm_X5_beat_no (xk_Pc D cyI cyZ [.ref a0, .int x, .int y, .int v] [(a0, .inr (5, [.int th, .int (nI Wd), .int (nI Hh), .int (nI nn), .int na, .int nb, .int rk, .int pr, .int bk, .ref a1, .ref a2, .ref a3, .ref a4, .ref a5, .ref a6, .ref a7, .int lo, .long bt, .long bb]))] sz) (xk_Ql D (va_A [(a0, .inr (5, [.int th, .int (nI Wd), .int (nI Hh), .int (nI nn), .int na, .int nb, .int rk, .int pr, .int bk, .ref a1, .ref a2, .ref a3, .ref a4, .ref a5, .ref a6, .ref a7, .int lo, .long bt, .long bb]))] sz) (-1) [(a0, .inr (5, [.int 0, .int (nI Wd), .int (nI Hh), .int (nI nn), .int na, .int nb, .int rk, .int pr, .int bk, .ref a1, .ref a2, .ref a3, .ref a4, .ref a5, .ref a6, .ref a7, .int lo, .long bt, .long bb]))]) 0 0 (va_A [(a0, .inr (5, [.int th, .int (nI Wd), .int (nI Hh), .int (nI nn), .int na, .int nb, .int rk, .int pr, .int bk, .ref a1, .ref a2, .ref a3, .ref a4, .ref a5, .ref a6, .ref a7, .int lo, .long bt, .long bb]))] sz) := by
  refine xk_of (own := RX5) (cc := cX5_beat) (maxL := 10) (ret := (some .long)) (Qc := fun A => xk_Ql D A (-1) [(a0, .inr (5, [.int 0, .int (nI Wd), .int (nI Hh), .int (nI nn), .int na, .int nb, .int rk, .int pr, .int bk, .ref a1, .ref a2, .ref a3, .ref a4, .ref a5, .ref a6, .ref a7, .int lo, .long bt, .long bb]))]) (by decide) rfl rfl (Nat.le_of_ble_eq_true rfl) ?_
  intro p e s m below meth c A ls hx hb hr hml hown hlocks hin hts hA hP hK hN hD hS hl
  have hC0 := xk_fix hx hb hml hown hts
  have hl : lv_has ls 10 [(0, .ref a0), (1, .int x), (2, .int y), (3, .int v)] := hl
  have hf51 := hts (.fieldLink RX5 51 "DotPressModel" "thrown" "I") (by decide +kernel)
  refine lv_aload_n hx hb dX5_beat_0 rfl (lv_at hl 0 rfl) ?_
  refine lv_iconst (v := 0) hx hb dX5_beat_1 (by decide) ?_
  refine va_put (D := D) (ci := 5) (v := .int 0) (ty := .int) (C := RX5) (T := TX5) (N := 19) hx hb hts in_X5_beat_no_X5 tyX5 tyX5_ok nmX5 hown hK hP hD hS 0 rfl rfl 0 (by decide) hf51 (fun _ h9 => h9) rfl (by decide +kernel) (rfl) (rfl) (Nat.le_of_ble_eq_true rfl) dX5_beat_2 (fun H locs hP hD hS => ?_)
  have hP : va_P D vwCl [(a0, .inr (5, [.int 0, .int (nI Wd), .int (nI Hh), .int (nI nn), .int na, .int nb, .int rk, .int pr, .int bk, .ref a1, .ref a2, .ref a3, .ref a4, .ref a5, .ref a6, .ref a7, .int lo, .long bt, .long bb]))] H := hP
  have hD : va_D A [(a0, .inr (5, [.int 0, .int (nI Wd), .int (nI Hh), .int (nI nn), .int na, .int nb, .int rk, .int pr, .int bk, .ref a1, .ref a2, .ref a3, .ref a4, .ref a5, .ref a6, .ref a7, .int lo, .long bt, .long bb]))] := hD
  refine lv_iload_n hx hb dX5_beat_5 rfl (lv_at hl 1 rfl) ?_
  refine lv_iload_n hx hb dX5_beat_6 rfl (lv_at hl 2 rfl) ?_
  have hPc := hP.sub (ws' := []) [] rfl
  have hDc := hD.sub (ws' := []) [] (by decide) rfl
  refine xk_calli (wr := [(a0, .inr (5, [.int 0, .int (nI Wd), .int (nI Hh), .int (nI nn), .int na, .int nb, .int rk, .int pr, .int bk, .ref a1, .ref a2, .ref a3, .ref a4, .ref a5, .ref a6, .ref a7, .int lo, .long bt, .long bb]))]) (w2 := [(a0, .inr (5, [.int 0, .int (nI Wd), .int (nI Hh), .int (nI nn), .int na, .int nb, .int rk, .int pr, .int bk, .ref a1, .ref a2, .ref a3, .ref a4, .ref a5, .ref a6, .ref a7, .int lo, .long bt, .long bb]))]) (va_runS (As := [.int x, .int y]) (rest := []) hC0 (ct_X5_isNet l D cyI cyZ  _ x y ) (va_cwS 2 hts gX5_beat_X5_isNet rfl rfl rfl (by decide +kernel) ⟨Nat.le_of_ble_eq_true rfl, Nat.le_of_ble_eq_true rfl⟩) ⟨xk_blind, xk_pre hK hN hPc hDc⟩ rfl rfl hl.1 rfl (lv_room (Nat.le_of_ble_eq_true rfl)) dX5_beat_7 ⟨Nat.le_of_ble_eq_true rfl, Nat.le_of_ble_eq_true rfl⟩) hP hD hS hA [] [0] [0] rfl rfl (by decide) (by decide) rfl (by decide) (fun H locs hP hD hS => ?_)
  refine lv_if_eq (tgt := 22) hx hb dX5_beat_10 (by decide) (fun c_10 => ?_) (fun c_10 => ?_)
  · have c_10 := bI_z.mp c_10
    refine lv_ldc2 (v := (-1)) hx hb hown (hts (.constantLong RX5 155 (-1)) (by decide +kernel)) dX5_beat_22 ?_
    exact xk_lret hx hb hr hlocks hP hD hS (rfl) (rfl) dX5_beat_25
  · have c_10 := bI_nz.mp c_10
    refine lv_iload_n hx hb dX5_beat_13 rfl (lv_at hl 3 rfl) ?_
    refine lv_iconst (v := 0) hx hb dX5_beat_14 (by decide) ?_
    refine lv_iconst (v := 1) hx hb dX5_beat_15 (by decide) ?_
    have hPc := hP.sub (ws' := []) [] rfl
    have hDc := hD.sub (ws' := []) [] (by decide) rfl
    refine xk_calli (wr := [(a0, .inr (5, [.int 0, .int (nI Wd), .int (nI Hh), .int (nI nn), .int na, .int nb, .int rk, .int pr, .int bk, .ref a1, .ref a2, .ref a3, .ref a4, .ref a5, .ref a6, .ref a7, .int lo, .long bt, .long bb]))]) (w2 := [(a0, .inr (5, [.int 0, .int (nI Wd), .int (nI Hh), .int (nI nn), .int na, .int nb, .int rk, .int pr, .int bk, .ref a1, .ref a2, .ref a3, .ref a4, .ref a5, .ref a6, .ref a7, .int lo, .long bt, .long bb]))]) (va_runS (As := [.int v, .int 0, .int 1]) (rest := []) hC0 (ct_X5_isIn l D cyI cyZ  _ v 0 1 ) (va_cwS 3 hts gX5_beat_X5_isIn rfl rfl rfl (by decide +kernel) ⟨Nat.le_of_ble_eq_true rfl, Nat.le_of_ble_eq_true rfl⟩) ⟨xk_blind, xk_pre hK hN hPc hDc⟩ rfl rfl hl.1 rfl (lv_room (Nat.le_of_ble_eq_true rfl)) dX5_beat_16 ⟨Nat.le_of_ble_eq_true rfl, Nat.le_of_ble_eq_true rfl⟩) hP hD hS hA [] [0] [0] rfl rfl (by decide) (by decide) rfl (by decide) (fun H locs hP hD hS => ?_)
    refine lv_if_ne (tgt := 26) hx hb dX5_beat_19 (by decide) (fun c_19 => ?_) (fun c_19 => ?_)
    · have c_19 := bI_nz.mp c_19
      exact absurd ⟨c_10, c_19⟩ hno
    · have c_19 := bI_z.mp c_19
      refine lv_ldc2 (v := (-1)) hx hb hown (hts (.constantLong RX5 155 (-1)) (by decide +kernel)) dX5_beat_22 ?_
      exact xk_lret hx hb hr hlocks hP hD hS (rfl) (rfl) dX5_beat_25

abbrev rm_X5_beat_0 : Room := { frames := 2, cells := 0, slots := 0, locals := 59 }
theorem in_X5_beat_0_X5 : ∀ w ∈ u_ws RX5 TX5 19, w ∈ wsX5_beat := by decide +kernel
set_option maxHeartbeats 4000000 in
set_option maxRecDepth 100000 in
theorem ct_X5_beat_0 (l : Launch) (D : va_G) (cyI cyZ : ClassId) (a0 a1 a2 a3 a4 a5 a6 a7 : Nat) (sz : Nat) (th : Int32) (Wd Hh nn : Nat) (na nb rk pr bk lo : Int32) (bt bb : Int64) (mm kk tp bw : Nat) (x y : Int32) (hmq : na * na + nb * nb = nI mm) (hm1 : 1 ≤ mm) (hm2 : mm ≤ 128) (hkq : x * x + y * y = nI kk) (hk2 : kk ≤ 128) (hok : nt_ok x y) (htp : bTp na nb x y mm kk bt 4 = lN tp) (hbw : lN mm * lN kk * lN mm * lN kk = lN bw) (h62a : tp < 2 ^ 62) (h62b : bw < 2 ^ 62) (hbw1 : 1 ≤ bw) : Met l yX5_beat wsX5_beat rm_X5_beat_0 (xk_Pc D cyI cyZ [.ref a0, .int x, .int y, .int 0] [(a0, .inr (5, [.int th, .int (nI Wd), .int (nI Hh), .int (nI nn), .int na, .int nb, .int rk, .int pr, .int bk, .ref a1, .ref a2, .ref a3, .ref a4, .ref a5, .ref a6, .ref a7, .int lo, .long bt, .long bb]))] sz) (xk_Ql D (va_A [(a0, .inr (5, [.int th, .int (nI Wd), .int (nI Hh), .int (nI nn), .int na, .int nb, .int rk, .int pr, .int bk, .ref a1, .ref a2, .ref a3, .ref a4, .ref a5, .ref a6, .ref a7, .int lo, .long bt, .long bb]))] sz) (lN (tp / Nat.gcd tp bw)) [(a0, .inr (5, [.int 0, .int (nI Wd), .int (nI Hh), .int (nI nn), .int na, .int nb, .int rk, .int pr, .int bk, .ref a1, .ref a2, .ref a3, .ref a4, .ref a5, .ref a6, .ref a7, .int lo, .long (bTp na nb x y mm kk bt 4), .long (lN mm * lN kk * lN mm * lN kk)]))]) 0 0 (va_A [(a0, .inr (5, [.int th, .int (nI Wd), .int (nI Hh), .int (nI nn), .int na, .int nb, .int rk, .int pr, .int bk, .ref a1, .ref a2, .ref a3, .ref a4, .ref a5, .ref a6, .ref a7, .int lo, .long bt, .long bb]))] sz) := by
  refine xk_of (own := RX5) (cc := cX5_beat) (maxL := 10) (ret := (some .long)) (Qc := fun A => xk_Ql D A (lN (tp / Nat.gcd tp bw)) [(a0, .inr (5, [.int 0, .int (nI Wd), .int (nI Hh), .int (nI nn), .int na, .int nb, .int rk, .int pr, .int bk, .ref a1, .ref a2, .ref a3, .ref a4, .ref a5, .ref a6, .ref a7, .int lo, .long (bTp na nb x y mm kk bt 4), .long (lN mm * lN kk * lN mm * lN kk)]))]) (by decide) rfl rfl (Nat.le_of_ble_eq_true rfl) ?_
  intro p e s m below meth c A ls hx hb hr hml hown hlocks hin hts hA hP hK hN hD hS hl
  have hC0 := xk_fix hx hb hml hown hts
  have hl : lv_has ls 10 [(0, .ref a0), (1, .int x), (2, .int y), (3, .int 0)] := hl
  have hf51 := hts (.fieldLink RX5 51 "DotPressModel" "thrown" "I") (by decide +kernel)
  have hf148 := hts (.fieldLink RX5 148 "DotPressModel" "beatBelow" "J") (by decide +kernel)
  have hf152 := hts (.fieldLink RX5 152 "DotPressModel" "beatTop" "J") (by decide +kernel)
  obtain ⟨Nv, hpos, hzero⟩ := eu_stop2 tp bw
  have hlt := eu_lt h62a h62b
  have hg0 : 1 ≤ Nat.gcd tp bw := Nat.gcd_pos_of_pos_right _ hbw1
  have hg1 : Nat.gcd tp bw ≤ bw := Nat.le_of_dvd hbw1 (Nat.gcd_dvd_right _ _)
  have hend : (eu tp bw Nv).1 = Nat.gcd tp bw := by rw [← eu_gcd tp bw Nv, hzero, Nat.gcd_zero_right]
  refine lv_aload_n hx hb dX5_beat_0 rfl (lv_at hl 0 rfl) ?_
  refine lv_iconst (v := 0) hx hb dX5_beat_1 (by decide) ?_
  refine va_put (D := D) (ci := 5) (v := .int 0) (ty := .int) (C := RX5) (T := TX5) (N := 19) hx hb hts in_X5_beat_0_X5 tyX5 tyX5_ok nmX5 hown hK hP hD hS 0 rfl rfl 0 (by decide) hf51 (fun _ h9 => h9) rfl (by decide +kernel) (rfl) (rfl) (Nat.le_of_ble_eq_true rfl) dX5_beat_2 (fun H locs hP hD hS => ?_)
  have hP : va_P D vwCl [(a0, .inr (5, [.int 0, .int (nI Wd), .int (nI Hh), .int (nI nn), .int na, .int nb, .int rk, .int pr, .int bk, .ref a1, .ref a2, .ref a3, .ref a4, .ref a5, .ref a6, .ref a7, .int lo, .long bt, .long bb]))] H := hP
  have hD : va_D A [(a0, .inr (5, [.int 0, .int (nI Wd), .int (nI Hh), .int (nI nn), .int na, .int nb, .int rk, .int pr, .int bk, .ref a1, .ref a2, .ref a3, .ref a4, .ref a5, .ref a6, .ref a7, .int lo, .long bt, .long bb]))] := hD
  refine lv_iload_n hx hb dX5_beat_5 rfl (lv_at hl 1 rfl) ?_
  refine lv_iload_n hx hb dX5_beat_6 rfl (lv_at hl 2 rfl) ?_
  have hPc := hP.sub (ws' := []) [] rfl
  have hDc := hD.sub (ws' := []) [] (by decide) rfl
  refine xk_calli (wr := [(a0, .inr (5, [.int 0, .int (nI Wd), .int (nI Hh), .int (nI nn), .int na, .int nb, .int rk, .int pr, .int bk, .ref a1, .ref a2, .ref a3, .ref a4, .ref a5, .ref a6, .ref a7, .int lo, .long bt, .long bb]))]) (w2 := [(a0, .inr (5, [.int 0, .int (nI Wd), .int (nI Hh), .int (nI nn), .int na, .int nb, .int rk, .int pr, .int bk, .ref a1, .ref a2, .ref a3, .ref a4, .ref a5, .ref a6, .ref a7, .int lo, .long bt, .long bb]))]) (va_runS (As := [.int x, .int y]) (rest := []) hC0 (ct_X5_isNet l D cyI cyZ  _ x y ) (va_cwS 2 hts gX5_beat_X5_isNet rfl rfl rfl (by decide +kernel) ⟨Nat.le_of_ble_eq_true rfl, Nat.le_of_ble_eq_true rfl⟩) ⟨xk_blind, xk_pre hK hN hPc hDc⟩ rfl rfl hl.1 rfl (lv_room (Nat.le_of_ble_eq_true rfl)) dX5_beat_7 ⟨Nat.le_of_ble_eq_true rfl, Nat.le_of_ble_eq_true rfl⟩) hP hD hS hA [] [0] [0] rfl rfl (by decide) (by decide) rfl (by decide) (fun H locs hP hD hS => ?_)
  refine lv_if_eq (tgt := 22) hx hb dX5_beat_10 (by decide) (fun c_10 => xk_ab c_10 (bI_nz.mpr hok)) (fun c_10 => ?_)
  have c_10 := bI_nz.mp c_10
  refine lv_iload_n hx hb dX5_beat_13 rfl (lv_at hl 3 rfl) ?_
  refine lv_iconst (v := 0) hx hb dX5_beat_14 (by decide) ?_
  refine lv_iconst (v := 1) hx hb dX5_beat_15 (by decide) ?_
  have hPc := hP.sub (ws' := []) [] rfl
  have hDc := hD.sub (ws' := []) [] (by decide) rfl
  refine xk_calli (wr := [(a0, .inr (5, [.int 0, .int (nI Wd), .int (nI Hh), .int (nI nn), .int na, .int nb, .int rk, .int pr, .int bk, .ref a1, .ref a2, .ref a3, .ref a4, .ref a5, .ref a6, .ref a7, .int lo, .long bt, .long bb]))]) (w2 := [(a0, .inr (5, [.int 0, .int (nI Wd), .int (nI Hh), .int (nI nn), .int na, .int nb, .int rk, .int pr, .int bk, .ref a1, .ref a2, .ref a3, .ref a4, .ref a5, .ref a6, .ref a7, .int lo, .long bt, .long bb]))]) (va_runS (As := [.int 0, .int 0, .int 1]) (rest := []) hC0 (ct_X5_isIn l D cyI cyZ  _ 0 0 1 ) (va_cwS 3 hts gX5_beat_X5_isIn rfl rfl rfl (by decide +kernel) ⟨Nat.le_of_ble_eq_true rfl, Nat.le_of_ble_eq_true rfl⟩) ⟨xk_blind, xk_pre hK hN hPc hDc⟩ rfl rfl hl.1 rfl (lv_room (Nat.le_of_ble_eq_true rfl)) dX5_beat_16 ⟨Nat.le_of_ble_eq_true rfl, Nat.le_of_ble_eq_true rfl⟩) hP hD hS hA [] [0] [0] rfl rfl (by decide) (by decide) rfl (by decide) (fun H locs hP hD hS => ?_)
  refine lv_if_ne (tgt := 26) hx hb dX5_beat_19 (by decide) (fun c_19 => ?_) (fun c_19 => xk_ab c_19 (bI_nz.mpr ⟨by decide, by decide⟩))
  have c_19 := bI_nz.mp c_19
  refine lv_aload_n hx hb dX5_beat_26 rfl (lv_at hl 0 rfl) ?_
  refine lv_iload_n hx hb dX5_beat_27 rfl (lv_at hl 1 rfl) ?_
  refine lv_iload_n hx hb dX5_beat_28 rfl (lv_at hl 2 rfl) ?_
  have hPc := hP.sub (ws' := [(a0, .inr (5, [.int 0, .int (nI Wd), .int (nI Hh), .int (nI nn), .int na, .int nb, .int rk, .int pr, .int bk, .ref a1, .ref a2, .ref a3, .ref a4, .ref a5, .ref a6, .ref a7, .int lo, .long bt, .long bb]))]) [0] rfl
  have hDc := hD.sub (ws' := [(a0, .inr (5, [.int 0, .int (nI Wd), .int (nI Hh), .int (nI nn), .int na, .int nb, .int rk, .int pr, .int bk, .ref a1, .ref a2, .ref a3, .ref a4, .ref a5, .ref a6, .ref a7, .int lo, .long bt, .long bb]))]) [0] (by decide) rfl
  refine xk_callv (wr := []) (w2 := [(a0, .inr (5, [.int 0, .int (nI Wd), .int (nI Hh), .int (nI nn), .int na, .int nb, .int rk, .int pr, .int bk, .ref a1, .ref a2, .ref a3, .ref a4, .ref a5, .ref a6, .ref a7, .int lo, .long (bTp na nb x y mm kk bt 4), .long (lN mm * lN kk * lN mm * lN kk)]))]) (va_runV (As := [.int x, .int y]) (rest := []) hC0 (ct_X5_beats l D cyI cyZ a0 a1 a2 a3 a4 a5 a6 a7 _ 0 Wd Hh nn na nb rk pr bk lo bt bb mm kk x y (by first | assumption | omega) (by first | assumption | omega) (by first | assumption | omega) (by first | assumption | omega) (by first | assumption | omega)) (cwV 2 hts gX5_beat_X5_beats rfl rfl rfl (by decide +kernel) ⟨Nat.le_of_ble_eq_true rfl, Nat.le_of_ble_eq_true rfl⟩) ⟨xk_blind, va_recv hK hPc (ci := 5) (q0 := 0) rfl rfl, xk_pre hK hN hPc hDc⟩ rfl rfl hl.1 rfl (lv_room (Nat.le_of_ble_eq_true rfl)) dX5_beat_29 ⟨Nat.le_of_ble_eq_true rfl, Nat.le_of_ble_eq_true rfl⟩) hP hD hS hA [0] [] [0] rfl rfl (by decide) (by decide) rfl (by decide) (fun H locs hP hD hS => ?_)
  refine lv_aload_n hx hb dX5_beat_32 rfl (lv_at hl 0 rfl) ?_
  refine va_get (D := D) (ci := 5) (v := .long (bTp na nb x y mm kk bt 4)) (C := RX5) (T := TX5) (N := 19) hx hb hts in_X5_beat_0_X5 hown hK hP 0 rfl rfl 17 (by decide) hf152 (fun _ h9 => h9) rfl dX5_beat_33 ?_
  refine xk_topl (y := lN tp) (htp) ?_
  refine lv_lstore (lv' := [(4, .long (lN tp)), (0, .ref a0), (1, .int x), (2, .int y), (3, .int 0)]) hx hb dX5_beat_36 hl (by decide) rfl (fun ls hl => ?_)
  refine lv_aload_n hx hb dX5_beat_38 rfl (lv_at hl 1 rfl) ?_
  refine va_get (D := D) (ci := 5) (v := .long (lN mm * lN kk * lN mm * lN kk)) (C := RX5) (T := TX5) (N := 19) hx hb hts in_X5_beat_0_X5 hown hK hP 0 rfl rfl 18 (by decide) hf148 (fun _ h9 => h9) rfl dX5_beat_39 ?_
  refine xk_topl (y := lN bw) (hbw) ?_
  refine lv_lstore (lv' := [(6, .long (lN bw)), (4, .long (lN tp)), (0, .ref a0), (1, .int x), (2, .int y), (3, .int 0)]) hx hb dX5_beat_42 hl (by decide) rfl (fun ls hl => ?_)
  have L44 : ∀ (n k : Nat), k + n = Nv → ∀ (H : Heap) (locs : List Loc) (ls : Array Slot), va_P D vwCl [(a0, .inr (5, [.int 0, .int (nI Wd), .int (nI Hh), .int (nI nn), .int na, .int nb, .int rk, .int pr, .int bk, .ref a1, .ref a2, .ref a3, .ref a4, .ref a5, .ref a6, .ref a7, .int lo, .long (bTp na nb x y mm kk bt 4), .long (lN mm * lN kk * lN mm * lN kk)]))] H → va_D A [(a0, .inr (5, [.int 0, .int (nI Wd), .int (nI Hh), .int (nI nn), .int na, .int nb, .int rk, .int pr, .int bk, .ref a1, .ref a2, .ref a3, .ref a4, .ref a5, .ref a6, .ref a7, .int lo, .long (bTp na nb x y mm kk bt 4), .long (lN mm * lN kk * lN mm * lN kk)]))] → va_S A s.heap H locs → lv_has ls 10 [(0, .ref a0), (1, .int x), (2, .int y), (3, .int 0), (4, .long (lN (eu tp bw k).1)), (6, .long (lN (eu tp bw k).2))] → W p l e rm_X5_beat_0 s m ([.ref a0, .int x, .int y, .int 0] : List Value).toArray below meth c H locs 0 0 (MQ below (xk_Ql D A (lN (tp / Nat.gcd tp bw)) [(a0, .inr (5, [.int 0, .int (nI Wd), .int (nI Hh), .int (nI nn), .int na, .int nb, .int rk, .int pr, .int bk, .ref a1, .ref a2, .ref a3, .ref a4, .ref a5, .ref a6, .ref a7, .int lo, .long (bTp na nb x y mm kk bt 4), .long (lN mm * lN kk * lN mm * lN kk)]))]) ([.ref a0, .int x, .int y, .int 0] : List Value).toArray s 0 0 A) (F0 m 44 ls []) := by
    intro n
    induction n with
    | zero =>
      intro k hk_44  H locs ls hP hD hS hl
      have hz_44 : Nv = k := hk_44.symm
      subst hz_44
      refine lv_lload hx hb dX5_beat_44 (lv_at hl 5 rfl) ?_
      refine lv_lconst (v := 0) hx hb dX5_beat_46 (by decide) ?_
      refine W.lcmp hx hb dX5_beat_47 ?_
      refine lv_if_eq (tgt := 69) hx hb dX5_beat_48 (by decide) (fun c_48 => ?_) (fun c_48 => xk_ba c_48 ((lg_cmp_eq _ _).mpr (by rw [hzero]; rfl)))
      refine lv_iload_n hx hb dX5_beat_69 rfl (lv_at hl 3 rfl) ?_
      refine lv_if_ne (tgt := 83) hx hb dX5_beat_70 (by decide) (fun c_70 => xk_ba c_70 ((rfl : (0 : Int32) = 0))) (fun c_70 => ?_)
      refine lv_aload_n hx hb dX5_beat_73 rfl (lv_at hl 0 rfl) ?_
      refine va_get (D := D) (ci := 5) (v := .long (bTp na nb x y mm kk bt 4)) (C := RX5) (T := TX5) (N := 19) hx hb hts in_X5_beat_0_X5 hown hK hP 0 rfl rfl 17 (by decide) hf152 (fun _ h9 => h9) rfl dX5_beat_74 ?_
      refine xk_topl (y := lN tp) (htp) ?_
      refine lv_lload hx hb dX5_beat_77 (lv_at hl 4 rfl) ?_
      refine xk_topl (y := lN (Nat.gcd tp bw)) (by rw [hend]) ?_
      refine lv_ldiv hx hb dX5_beat_79 (by intro h; have h2 := (pk_lEQ (by omega) (by decide)).mp (show lN (Nat.gcd tp bw) = lN 0 from h); omega) ?_
      refine xk_topl (y := lN (tp / Nat.gcd tp bw)) (pk_lDiv (by omega) hg0 (by omega)) ?_
      refine lv_goto (tgt := 90) hx hb dX5_beat_80 (by decide) ?_
      exact xk_lret hx hb hr hlocks hP hD hS (rfl) (rfl) dX5_beat_90
    | succ n ih_44 =>
      intro k hk_44  H locs ls hP hD hS hl
      refine lv_lload hx hb dX5_beat_44 (lv_at hl 5 rfl) ?_
      refine lv_lconst (v := 0) hx hb dX5_beat_46 (by decide) ?_
      refine W.lcmp hx hb dX5_beat_47 ?_
      refine lv_if_eq (tgt := 69) hx hb dX5_beat_48 (by decide) (fun c_48 => xk_ab c_48 (fun h => absurd ((pk_lEQ (by have := (hlt k).2; omega) (by decide)).mp (show lN (eu tp bw k).2 = lN 0 from (lg_cmp_eq _ _).mp h)) (Nat.ne_of_gt (hpos k (by omega))))) (fun c_48 => ?_)
      refine lv_lload hx hb dX5_beat_51 (lv_at hl 4 rfl) ?_
      refine lv_lload hx hb dX5_beat_53 (lv_at hl 5 rfl) ?_
      refine lv_lrem hx hb dX5_beat_55 (fun h => absurd ((pk_lEQ (by have := (hlt k).2; omega) (by decide)).mp (show lN (eu tp bw k).2 = lN 0 from h)) (Nat.ne_of_gt (hpos k (by omega)))) ?_
      refine xk_topl (y := lN ((eu tp bw k).1 % (eu tp bw k).2)) (pk_lRem (by have := (hlt k).1; omega) (hpos k (by omega)) (by have := (hlt k).2; omega)) ?_
      refine lv_lstore (lv' := [(8, .long (lN ((eu tp bw k).1 % (eu tp bw k).2))), (0, .ref a0), (1, .int x), (2, .int y), (3, .int 0), (4, .long (lN (eu tp bw k).1)), (6, .long (lN (eu tp bw k).2))]) hx hb dX5_beat_56 hl (by decide) rfl (fun ls hl => ?_)
      refine lv_lload hx hb dX5_beat_58 (lv_at hl 6 rfl) ?_
      refine lv_lstore (lv' := [(4, .long (lN (eu tp bw k).2)), (8, .long (lN ((eu tp bw k).1 % (eu tp bw k).2))), (0, .ref a0), (1, .int x), (2, .int y), (3, .int 0), (6, .long (lN (eu tp bw k).2))]) hx hb dX5_beat_60 hl (by decide) rfl (fun ls hl => ?_)
      refine lv_lload hx hb dX5_beat_62 (lv_at hl 1 rfl) ?_
      refine lv_lstore (lv' := [(6, .long (lN ((eu tp bw k).1 % (eu tp bw k).2))), (4, .long (lN (eu tp bw k).2)), (8, .long (lN ((eu tp bw k).1 % (eu tp bw k).2))), (0, .ref a0), (1, .int x), (2, .int y), (3, .int 0)]) hx hb dX5_beat_64 hl (by decide) rfl (fun ls hl => ?_)
      refine lv_goto (tgt := 44) hx hb dX5_beat_66 (by decide) ?_
      have eq_72 : (lN (eu tp bw k).2 : Int64) = lN (eu tp bw (k + 1)).1 := rfl
      have eq_73 : (lN ((eu tp bw k).1 % (eu tp bw k).2) : Int64) = lN (eu tp bw (k + 1)).2 := rfl
      have hl := lv_sub (l' := [(0, .ref a0), (1, .int x), (2, .int y), (3, .int 0), (4, .long (lN (eu tp bw k).2)), (6, .long (lN ((eu tp bw k).1 % (eu tp bw k).2)))]) hl [3, 4, 5, 6, 1, 0] rfl
      have eL : ([(0, .ref a0), (1, .int x), (2, .int y), (3, .int 0), (4, .long (lN (eu tp bw k).2)), (6, .long (lN ((eu tp bw k).1 % (eu tp bw k).2)))] : List (Nat × Value)) = [(0, .ref a0), (1, .int x), (2, .int y), (3, .int 0), (4, .long (lN (eu tp bw (k + 1)).1)), (6, .long (lN (eu tp bw (k + 1)).2))] := (congrArg (List.cons _) (congrArg (List.cons _) (congrArg (List.cons _) (congrArg (List.cons _) (congr (congrArg List.cons (congrArg (fun z => (((4 : Nat), Value.long z) : Nat × Value)) eq_72)) (congr (congrArg List.cons (congrArg (fun z => (((6 : Nat), Value.long z) : Nat × Value)) eq_73)) rfl))))))
      rw [eL] at hl
      exact ih_44 (k + 1) (by omega)  _ _ _ hP hD hS hl
  have eq_78 : (lN tp : Int64) = lN (eu tp bw 0).1 := rfl
  have eq_79 : (lN bw : Int64) = lN (eu tp bw 0).2 := rfl
  have hl := lv_sub (l' := [(0, .ref a0), (1, .int x), (2, .int y), (3, .int 0), (4, .long (lN tp)), (6, .long (lN bw))]) hl [2, 3, 4, 5, 1, 0] rfl
  have eL : ([(0, .ref a0), (1, .int x), (2, .int y), (3, .int 0), (4, .long (lN tp)), (6, .long (lN bw))] : List (Nat × Value)) = [(0, .ref a0), (1, .int x), (2, .int y), (3, .int 0), (4, .long (lN (eu tp bw 0).1)), (6, .long (lN (eu tp bw 0).2))] := (congrArg (List.cons _) (congrArg (List.cons _) (congrArg (List.cons _) (congrArg (List.cons _) (congr (congrArg List.cons (congrArg (fun z => (((4 : Nat), Value.long z) : Nat × Value)) eq_78)) (congr (congrArg List.cons (congrArg (fun z => (((6 : Nat), Value.long z) : Nat × Value)) eq_79)) rfl))))))
  rw [eL] at hl
  exact L44 _ 0 (Nat.zero_add _)  _ _ _ hP hD hS hl

abbrev rm_X5_beat_1 : Room := { frames := 2, cells := 0, slots := 0, locals := 59 }
theorem in_X5_beat_1_X5 : ∀ w ∈ u_ws RX5 TX5 19, w ∈ wsX5_beat := by decide +kernel
set_option maxHeartbeats 4000000 in
set_option maxRecDepth 100000 in
theorem ct_X5_beat_1 (l : Launch) (D : va_G) (cyI cyZ : ClassId) (a0 a1 a2 a3 a4 a5 a6 a7 : Nat) (sz : Nat) (th : Int32) (Wd Hh nn : Nat) (na nb rk pr bk lo : Int32) (bt bb : Int64) (mm kk tp bw : Nat) (x y : Int32) (hmq : na * na + nb * nb = nI mm) (hm1 : 1 ≤ mm) (hm2 : mm ≤ 128) (hkq : x * x + y * y = nI kk) (hk2 : kk ≤ 128) (hok : nt_ok x y) (htp : bTp na nb x y mm kk bt 4 = lN tp) (hbw : lN mm * lN kk * lN mm * lN kk = lN bw) (h62a : tp < 2 ^ 62) (h62b : bw < 2 ^ 62) (hbw1 : 1 ≤ bw) : Met l yX5_beat wsX5_beat rm_X5_beat_1 (xk_Pc D cyI cyZ [.ref a0, .int x, .int y, .int 1] [(a0, .inr (5, [.int th, .int (nI Wd), .int (nI Hh), .int (nI nn), .int na, .int nb, .int rk, .int pr, .int bk, .ref a1, .ref a2, .ref a3, .ref a4, .ref a5, .ref a6, .ref a7, .int lo, .long bt, .long bb]))] sz) (xk_Ql D (va_A [(a0, .inr (5, [.int th, .int (nI Wd), .int (nI Hh), .int (nI nn), .int na, .int nb, .int rk, .int pr, .int bk, .ref a1, .ref a2, .ref a3, .ref a4, .ref a5, .ref a6, .ref a7, .int lo, .long bt, .long bb]))] sz) (lN (bw / Nat.gcd tp bw)) [(a0, .inr (5, [.int 0, .int (nI Wd), .int (nI Hh), .int (nI nn), .int na, .int nb, .int rk, .int pr, .int bk, .ref a1, .ref a2, .ref a3, .ref a4, .ref a5, .ref a6, .ref a7, .int lo, .long (bTp na nb x y mm kk bt 4), .long (lN mm * lN kk * lN mm * lN kk)]))]) 0 0 (va_A [(a0, .inr (5, [.int th, .int (nI Wd), .int (nI Hh), .int (nI nn), .int na, .int nb, .int rk, .int pr, .int bk, .ref a1, .ref a2, .ref a3, .ref a4, .ref a5, .ref a6, .ref a7, .int lo, .long bt, .long bb]))] sz) := by
  refine xk_of (own := RX5) (cc := cX5_beat) (maxL := 10) (ret := (some .long)) (Qc := fun A => xk_Ql D A (lN (bw / Nat.gcd tp bw)) [(a0, .inr (5, [.int 0, .int (nI Wd), .int (nI Hh), .int (nI nn), .int na, .int nb, .int rk, .int pr, .int bk, .ref a1, .ref a2, .ref a3, .ref a4, .ref a5, .ref a6, .ref a7, .int lo, .long (bTp na nb x y mm kk bt 4), .long (lN mm * lN kk * lN mm * lN kk)]))]) (by decide) rfl rfl (Nat.le_of_ble_eq_true rfl) ?_
  intro p e s m below meth c A ls hx hb hr hml hown hlocks hin hts hA hP hK hN hD hS hl
  have hC0 := xk_fix hx hb hml hown hts
  have hl : lv_has ls 10 [(0, .ref a0), (1, .int x), (2, .int y), (3, .int 1)] := hl
  have hf51 := hts (.fieldLink RX5 51 "DotPressModel" "thrown" "I") (by decide +kernel)
  have hf148 := hts (.fieldLink RX5 148 "DotPressModel" "beatBelow" "J") (by decide +kernel)
  have hf152 := hts (.fieldLink RX5 152 "DotPressModel" "beatTop" "J") (by decide +kernel)
  obtain ⟨Nv, hpos, hzero⟩ := eu_stop2 tp bw
  have hlt := eu_lt h62a h62b
  have hg0 : 1 ≤ Nat.gcd tp bw := Nat.gcd_pos_of_pos_right _ hbw1
  have hg1 : Nat.gcd tp bw ≤ bw := Nat.le_of_dvd hbw1 (Nat.gcd_dvd_right _ _)
  have hend : (eu tp bw Nv).1 = Nat.gcd tp bw := by rw [← eu_gcd tp bw Nv, hzero, Nat.gcd_zero_right]
  refine lv_aload_n hx hb dX5_beat_0 rfl (lv_at hl 0 rfl) ?_
  refine lv_iconst (v := 0) hx hb dX5_beat_1 (by decide) ?_
  refine va_put (D := D) (ci := 5) (v := .int 0) (ty := .int) (C := RX5) (T := TX5) (N := 19) hx hb hts in_X5_beat_1_X5 tyX5 tyX5_ok nmX5 hown hK hP hD hS 0 rfl rfl 0 (by decide) hf51 (fun _ h9 => h9) rfl (by decide +kernel) (rfl) (rfl) (Nat.le_of_ble_eq_true rfl) dX5_beat_2 (fun H locs hP hD hS => ?_)
  have hP : va_P D vwCl [(a0, .inr (5, [.int 0, .int (nI Wd), .int (nI Hh), .int (nI nn), .int na, .int nb, .int rk, .int pr, .int bk, .ref a1, .ref a2, .ref a3, .ref a4, .ref a5, .ref a6, .ref a7, .int lo, .long bt, .long bb]))] H := hP
  have hD : va_D A [(a0, .inr (5, [.int 0, .int (nI Wd), .int (nI Hh), .int (nI nn), .int na, .int nb, .int rk, .int pr, .int bk, .ref a1, .ref a2, .ref a3, .ref a4, .ref a5, .ref a6, .ref a7, .int lo, .long bt, .long bb]))] := hD
  refine lv_iload_n hx hb dX5_beat_5 rfl (lv_at hl 1 rfl) ?_
  refine lv_iload_n hx hb dX5_beat_6 rfl (lv_at hl 2 rfl) ?_
  have hPc := hP.sub (ws' := []) [] rfl
  have hDc := hD.sub (ws' := []) [] (by decide) rfl
  refine xk_calli (wr := [(a0, .inr (5, [.int 0, .int (nI Wd), .int (nI Hh), .int (nI nn), .int na, .int nb, .int rk, .int pr, .int bk, .ref a1, .ref a2, .ref a3, .ref a4, .ref a5, .ref a6, .ref a7, .int lo, .long bt, .long bb]))]) (w2 := [(a0, .inr (5, [.int 0, .int (nI Wd), .int (nI Hh), .int (nI nn), .int na, .int nb, .int rk, .int pr, .int bk, .ref a1, .ref a2, .ref a3, .ref a4, .ref a5, .ref a6, .ref a7, .int lo, .long bt, .long bb]))]) (va_runS (As := [.int x, .int y]) (rest := []) hC0 (ct_X5_isNet l D cyI cyZ  _ x y ) (va_cwS 2 hts gX5_beat_X5_isNet rfl rfl rfl (by decide +kernel) ⟨Nat.le_of_ble_eq_true rfl, Nat.le_of_ble_eq_true rfl⟩) ⟨xk_blind, xk_pre hK hN hPc hDc⟩ rfl rfl hl.1 rfl (lv_room (Nat.le_of_ble_eq_true rfl)) dX5_beat_7 ⟨Nat.le_of_ble_eq_true rfl, Nat.le_of_ble_eq_true rfl⟩) hP hD hS hA [] [0] [0] rfl rfl (by decide) (by decide) rfl (by decide) (fun H locs hP hD hS => ?_)
  refine lv_if_eq (tgt := 22) hx hb dX5_beat_10 (by decide) (fun c_10 => xk_ab c_10 (bI_nz.mpr hok)) (fun c_10 => ?_)
  have c_10 := bI_nz.mp c_10
  refine lv_iload_n hx hb dX5_beat_13 rfl (lv_at hl 3 rfl) ?_
  refine lv_iconst (v := 0) hx hb dX5_beat_14 (by decide) ?_
  refine lv_iconst (v := 1) hx hb dX5_beat_15 (by decide) ?_
  have hPc := hP.sub (ws' := []) [] rfl
  have hDc := hD.sub (ws' := []) [] (by decide) rfl
  refine xk_calli (wr := [(a0, .inr (5, [.int 0, .int (nI Wd), .int (nI Hh), .int (nI nn), .int na, .int nb, .int rk, .int pr, .int bk, .ref a1, .ref a2, .ref a3, .ref a4, .ref a5, .ref a6, .ref a7, .int lo, .long bt, .long bb]))]) (w2 := [(a0, .inr (5, [.int 0, .int (nI Wd), .int (nI Hh), .int (nI nn), .int na, .int nb, .int rk, .int pr, .int bk, .ref a1, .ref a2, .ref a3, .ref a4, .ref a5, .ref a6, .ref a7, .int lo, .long bt, .long bb]))]) (va_runS (As := [.int 1, .int 0, .int 1]) (rest := []) hC0 (ct_X5_isIn l D cyI cyZ  _ 1 0 1 ) (va_cwS 3 hts gX5_beat_X5_isIn rfl rfl rfl (by decide +kernel) ⟨Nat.le_of_ble_eq_true rfl, Nat.le_of_ble_eq_true rfl⟩) ⟨xk_blind, xk_pre hK hN hPc hDc⟩ rfl rfl hl.1 rfl (lv_room (Nat.le_of_ble_eq_true rfl)) dX5_beat_16 ⟨Nat.le_of_ble_eq_true rfl, Nat.le_of_ble_eq_true rfl⟩) hP hD hS hA [] [0] [0] rfl rfl (by decide) (by decide) rfl (by decide) (fun H locs hP hD hS => ?_)
  refine lv_if_ne (tgt := 26) hx hb dX5_beat_19 (by decide) (fun c_19 => ?_) (fun c_19 => xk_ab c_19 (bI_nz.mpr ⟨by decide, by decide⟩))
  have c_19 := bI_nz.mp c_19
  refine lv_aload_n hx hb dX5_beat_26 rfl (lv_at hl 0 rfl) ?_
  refine lv_iload_n hx hb dX5_beat_27 rfl (lv_at hl 1 rfl) ?_
  refine lv_iload_n hx hb dX5_beat_28 rfl (lv_at hl 2 rfl) ?_
  have hPc := hP.sub (ws' := [(a0, .inr (5, [.int 0, .int (nI Wd), .int (nI Hh), .int (nI nn), .int na, .int nb, .int rk, .int pr, .int bk, .ref a1, .ref a2, .ref a3, .ref a4, .ref a5, .ref a6, .ref a7, .int lo, .long bt, .long bb]))]) [0] rfl
  have hDc := hD.sub (ws' := [(a0, .inr (5, [.int 0, .int (nI Wd), .int (nI Hh), .int (nI nn), .int na, .int nb, .int rk, .int pr, .int bk, .ref a1, .ref a2, .ref a3, .ref a4, .ref a5, .ref a6, .ref a7, .int lo, .long bt, .long bb]))]) [0] (by decide) rfl
  refine xk_callv (wr := []) (w2 := [(a0, .inr (5, [.int 0, .int (nI Wd), .int (nI Hh), .int (nI nn), .int na, .int nb, .int rk, .int pr, .int bk, .ref a1, .ref a2, .ref a3, .ref a4, .ref a5, .ref a6, .ref a7, .int lo, .long (bTp na nb x y mm kk bt 4), .long (lN mm * lN kk * lN mm * lN kk)]))]) (va_runV (As := [.int x, .int y]) (rest := []) hC0 (ct_X5_beats l D cyI cyZ a0 a1 a2 a3 a4 a5 a6 a7 _ 0 Wd Hh nn na nb rk pr bk lo bt bb mm kk x y (by first | assumption | omega) (by first | assumption | omega) (by first | assumption | omega) (by first | assumption | omega) (by first | assumption | omega)) (cwV 2 hts gX5_beat_X5_beats rfl rfl rfl (by decide +kernel) ⟨Nat.le_of_ble_eq_true rfl, Nat.le_of_ble_eq_true rfl⟩) ⟨xk_blind, va_recv hK hPc (ci := 5) (q0 := 0) rfl rfl, xk_pre hK hN hPc hDc⟩ rfl rfl hl.1 rfl (lv_room (Nat.le_of_ble_eq_true rfl)) dX5_beat_29 ⟨Nat.le_of_ble_eq_true rfl, Nat.le_of_ble_eq_true rfl⟩) hP hD hS hA [0] [] [0] rfl rfl (by decide) (by decide) rfl (by decide) (fun H locs hP hD hS => ?_)
  refine lv_aload_n hx hb dX5_beat_32 rfl (lv_at hl 0 rfl) ?_
  refine va_get (D := D) (ci := 5) (v := .long (bTp na nb x y mm kk bt 4)) (C := RX5) (T := TX5) (N := 19) hx hb hts in_X5_beat_1_X5 hown hK hP 0 rfl rfl 17 (by decide) hf152 (fun _ h9 => h9) rfl dX5_beat_33 ?_
  refine xk_topl (y := lN tp) (htp) ?_
  refine lv_lstore (lv' := [(4, .long (lN tp)), (0, .ref a0), (1, .int x), (2, .int y), (3, .int 1)]) hx hb dX5_beat_36 hl (by decide) rfl (fun ls hl => ?_)
  refine lv_aload_n hx hb dX5_beat_38 rfl (lv_at hl 1 rfl) ?_
  refine va_get (D := D) (ci := 5) (v := .long (lN mm * lN kk * lN mm * lN kk)) (C := RX5) (T := TX5) (N := 19) hx hb hts in_X5_beat_1_X5 hown hK hP 0 rfl rfl 18 (by decide) hf148 (fun _ h9 => h9) rfl dX5_beat_39 ?_
  refine xk_topl (y := lN bw) (hbw) ?_
  refine lv_lstore (lv' := [(6, .long (lN bw)), (4, .long (lN tp)), (0, .ref a0), (1, .int x), (2, .int y), (3, .int 1)]) hx hb dX5_beat_42 hl (by decide) rfl (fun ls hl => ?_)
  have L44 : ∀ (n k : Nat), k + n = Nv → ∀ (H : Heap) (locs : List Loc) (ls : Array Slot), va_P D vwCl [(a0, .inr (5, [.int 0, .int (nI Wd), .int (nI Hh), .int (nI nn), .int na, .int nb, .int rk, .int pr, .int bk, .ref a1, .ref a2, .ref a3, .ref a4, .ref a5, .ref a6, .ref a7, .int lo, .long (bTp na nb x y mm kk bt 4), .long (lN mm * lN kk * lN mm * lN kk)]))] H → va_D A [(a0, .inr (5, [.int 0, .int (nI Wd), .int (nI Hh), .int (nI nn), .int na, .int nb, .int rk, .int pr, .int bk, .ref a1, .ref a2, .ref a3, .ref a4, .ref a5, .ref a6, .ref a7, .int lo, .long (bTp na nb x y mm kk bt 4), .long (lN mm * lN kk * lN mm * lN kk)]))] → va_S A s.heap H locs → lv_has ls 10 [(0, .ref a0), (1, .int x), (2, .int y), (3, .int 1), (4, .long (lN (eu tp bw k).1)), (6, .long (lN (eu tp bw k).2))] → W p l e rm_X5_beat_1 s m ([.ref a0, .int x, .int y, .int 1] : List Value).toArray below meth c H locs 0 0 (MQ below (xk_Ql D A (lN (bw / Nat.gcd tp bw)) [(a0, .inr (5, [.int 0, .int (nI Wd), .int (nI Hh), .int (nI nn), .int na, .int nb, .int rk, .int pr, .int bk, .ref a1, .ref a2, .ref a3, .ref a4, .ref a5, .ref a6, .ref a7, .int lo, .long (bTp na nb x y mm kk bt 4), .long (lN mm * lN kk * lN mm * lN kk)]))]) ([.ref a0, .int x, .int y, .int 1] : List Value).toArray s 0 0 A) (F0 m 44 ls []) := by
    intro n
    induction n with
    | zero =>
      intro k hk_44  H locs ls hP hD hS hl
      have hz_44 : Nv = k := hk_44.symm
      subst hz_44
      refine lv_lload hx hb dX5_beat_44 (lv_at hl 5 rfl) ?_
      refine lv_lconst (v := 0) hx hb dX5_beat_46 (by decide) ?_
      refine W.lcmp hx hb dX5_beat_47 ?_
      refine lv_if_eq (tgt := 69) hx hb dX5_beat_48 (by decide) (fun c_48 => ?_) (fun c_48 => xk_ba c_48 ((lg_cmp_eq _ _).mpr (by rw [hzero]; rfl)))
      refine lv_iload_n hx hb dX5_beat_69 rfl (lv_at hl 3 rfl) ?_
      refine lv_if_ne (tgt := 83) hx hb dX5_beat_70 (by decide) (fun c_70 => ?_) (fun c_70 => xk_ab c_70 ((by decide : ¬ (1 : Int32) = 0)))
      refine lv_aload_n hx hb dX5_beat_83 rfl (lv_at hl 0 rfl) ?_
      refine va_get (D := D) (ci := 5) (v := .long (lN mm * lN kk * lN mm * lN kk)) (C := RX5) (T := TX5) (N := 19) hx hb hts in_X5_beat_1_X5 hown hK hP 0 rfl rfl 18 (by decide) hf148 (fun _ h9 => h9) rfl dX5_beat_84 ?_
      refine xk_topl (y := lN bw) (hbw) ?_
      refine lv_lload hx hb dX5_beat_87 (lv_at hl 4 rfl) ?_
      refine xk_topl (y := lN (Nat.gcd tp bw)) (by rw [hend]) ?_
      refine lv_ldiv hx hb dX5_beat_89 (by intro h; have h2 := (pk_lEQ (by omega) (by decide)).mp (show lN (Nat.gcd tp bw) = lN 0 from h); omega) ?_
      refine xk_topl (y := lN (bw / Nat.gcd tp bw)) (pk_lDiv (by omega) hg0 (by omega)) ?_
      exact xk_lret hx hb hr hlocks hP hD hS (rfl) (rfl) dX5_beat_90
    | succ n ih_44 =>
      intro k hk_44  H locs ls hP hD hS hl
      refine lv_lload hx hb dX5_beat_44 (lv_at hl 5 rfl) ?_
      refine lv_lconst (v := 0) hx hb dX5_beat_46 (by decide) ?_
      refine W.lcmp hx hb dX5_beat_47 ?_
      refine lv_if_eq (tgt := 69) hx hb dX5_beat_48 (by decide) (fun c_48 => xk_ab c_48 (fun h => absurd ((pk_lEQ (by have := (hlt k).2; omega) (by decide)).mp (show lN (eu tp bw k).2 = lN 0 from (lg_cmp_eq _ _).mp h)) (Nat.ne_of_gt (hpos k (by omega))))) (fun c_48 => ?_)
      refine lv_lload hx hb dX5_beat_51 (lv_at hl 4 rfl) ?_
      refine lv_lload hx hb dX5_beat_53 (lv_at hl 5 rfl) ?_
      refine lv_lrem hx hb dX5_beat_55 (fun h => absurd ((pk_lEQ (by have := (hlt k).2; omega) (by decide)).mp (show lN (eu tp bw k).2 = lN 0 from h)) (Nat.ne_of_gt (hpos k (by omega)))) ?_
      refine xk_topl (y := lN ((eu tp bw k).1 % (eu tp bw k).2)) (pk_lRem (by have := (hlt k).1; omega) (hpos k (by omega)) (by have := (hlt k).2; omega)) ?_
      refine lv_lstore (lv' := [(8, .long (lN ((eu tp bw k).1 % (eu tp bw k).2))), (0, .ref a0), (1, .int x), (2, .int y), (3, .int 1), (4, .long (lN (eu tp bw k).1)), (6, .long (lN (eu tp bw k).2))]) hx hb dX5_beat_56 hl (by decide) rfl (fun ls hl => ?_)
      refine lv_lload hx hb dX5_beat_58 (lv_at hl 6 rfl) ?_
      refine lv_lstore (lv' := [(4, .long (lN (eu tp bw k).2)), (8, .long (lN ((eu tp bw k).1 % (eu tp bw k).2))), (0, .ref a0), (1, .int x), (2, .int y), (3, .int 1), (6, .long (lN (eu tp bw k).2))]) hx hb dX5_beat_60 hl (by decide) rfl (fun ls hl => ?_)
      refine lv_lload hx hb dX5_beat_62 (lv_at hl 1 rfl) ?_
      refine lv_lstore (lv' := [(6, .long (lN ((eu tp bw k).1 % (eu tp bw k).2))), (4, .long (lN (eu tp bw k).2)), (8, .long (lN ((eu tp bw k).1 % (eu tp bw k).2))), (0, .ref a0), (1, .int x), (2, .int y), (3, .int 1)]) hx hb dX5_beat_64 hl (by decide) rfl (fun ls hl => ?_)
      refine lv_goto (tgt := 44) hx hb dX5_beat_66 (by decide) ?_
      have eq_71 : (lN (eu tp bw k).2 : Int64) = lN (eu tp bw (k + 1)).1 := rfl
      have eq_72 : (lN ((eu tp bw k).1 % (eu tp bw k).2) : Int64) = lN (eu tp bw (k + 1)).2 := rfl
      have hl := lv_sub (l' := [(0, .ref a0), (1, .int x), (2, .int y), (3, .int 1), (4, .long (lN (eu tp bw k).2)), (6, .long (lN ((eu tp bw k).1 % (eu tp bw k).2)))]) hl [3, 4, 5, 6, 1, 0] rfl
      have eL : ([(0, .ref a0), (1, .int x), (2, .int y), (3, .int 1), (4, .long (lN (eu tp bw k).2)), (6, .long (lN ((eu tp bw k).1 % (eu tp bw k).2)))] : List (Nat × Value)) = [(0, .ref a0), (1, .int x), (2, .int y), (3, .int 1), (4, .long (lN (eu tp bw (k + 1)).1)), (6, .long (lN (eu tp bw (k + 1)).2))] := (congrArg (List.cons _) (congrArg (List.cons _) (congrArg (List.cons _) (congrArg (List.cons _) (congr (congrArg List.cons (congrArg (fun z => (((4 : Nat), Value.long z) : Nat × Value)) eq_71)) (congr (congrArg List.cons (congrArg (fun z => (((6 : Nat), Value.long z) : Nat × Value)) eq_72)) rfl))))))
      rw [eL] at hl
      exact ih_44 (k + 1) (by omega)  _ _ _ hP hD hS hl
  have eq_77 : (lN tp : Int64) = lN (eu tp bw 0).1 := rfl
  have eq_78 : (lN bw : Int64) = lN (eu tp bw 0).2 := rfl
  have hl := lv_sub (l' := [(0, .ref a0), (1, .int x), (2, .int y), (3, .int 1), (4, .long (lN tp)), (6, .long (lN bw))]) hl [2, 3, 4, 5, 1, 0] rfl
  have eL : ([(0, .ref a0), (1, .int x), (2, .int y), (3, .int 1), (4, .long (lN tp)), (6, .long (lN bw))] : List (Nat × Value)) = [(0, .ref a0), (1, .int x), (2, .int y), (3, .int 1), (4, .long (lN (eu tp bw 0).1)), (6, .long (lN (eu tp bw 0).2))] := (congrArg (List.cons _) (congrArg (List.cons _) (congrArg (List.cons _) (congrArg (List.cons _) (congr (congrArg List.cons (congrArg (fun z => (((4 : Nat), Value.long z) : Nat × Value)) eq_77)) (congr (congrArg List.cons (congrArg (fun z => (((6 : Nat), Value.long z) : Nat × Value)) eq_78)) rfl))))))
  rw [eL] at hl
  exact L44 _ 0 (Nat.zero_add _)  _ _ _ hP hD hS hl
