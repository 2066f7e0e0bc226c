/-! the reference, its simple methods -/
abbrev rm_X5_isIn : Room := { frames := 0, cells := 0, slots := 0, locals := 0 }
set_option maxHeartbeats 4000000 in
set_option maxRecDepth 100000 in
theorem ct_X5_isIn (l : Launch) (D : va_G) (cyI cyZ : ClassId) (sz : Nat) (v v1 v2 : Int32)  : Met l yX5_isIn wsX5_isIn rm_X5_isIn (xk_Pc D cyI cyZ [.int v, .int v1, .int v2] [] sz) (xk_Qi D (va_A [] sz) (bI (¬ v < v1 ∧ ¬ v2 < v)) []) 0 0 (va_A [] sz) := by
  refine xk_of (own := RX5) (cc := cX5_isIn) (maxL := 3) (ret := (some .boolean)) (Qc := fun A => xk_Qi D A (bI (¬ v < v1 ∧ ¬ v2 < v)) []) (by decide) rfl rfl (Nat.le_of_ble_eq_true rfl) ?_
  intro p e s m below meth c A ls hx hb hr hml hown hlocks hin hts hA hP hK hN hD hS hl
  have hC0 := xk_fix hx hb hml hown hts
  have hl : lv_has ls 3 [(0, .int v), (1, .int v1), (2, .int v2)] := hl
  refine lv_iload_n hx hb dX5_isIn_0 rfl (lv_at hl 0 rfl) ?_
  refine lv_iload_n hx hb dX5_isIn_1 rfl (lv_at hl 1 rfl) ?_
  refine lv_icmp_lt (tgt := 14) hx hb dX5_isIn_2 (by decide) (fun c_2 => ?_) (fun c_2 => ?_)
  · refine lv_iconst (v := 0) hx hb dX5_isIn_14 (by decide) ?_
    exact xk_zret hx hb hr hlocks hP hD hS (bI_0 (fun h => by first | exact absurd c_2 h.1 | exact c_2 h.1)) (rfl) (bI_nar _) dX5_isIn_15
  · refine lv_iload_n hx hb dX5_isIn_5 rfl (lv_at hl 0 rfl) ?_
    refine lv_iload_n hx hb dX5_isIn_6 rfl (lv_at hl 2 rfl) ?_
    refine lv_icmp_gt (tgt := 14) hx hb dX5_isIn_7 (by decide) (fun c_7 => ?_) (fun c_7 => ?_)
    · refine lv_iconst (v := 0) hx hb dX5_isIn_14 (by decide) ?_
      exact xk_zret hx hb hr hlocks hP hD hS (bI_0 (fun h => by first | exact absurd c_7 h.2 | exact c_7 h.2)) (rfl) (bI_nar _) dX5_isIn_15
    · refine lv_iconst (v := 1) hx hb dX5_isIn_10 (by decide) ?_
      refine lv_goto (tgt := 15) hx hb dX5_isIn_11 (by decide) ?_
      exact xk_zret hx hb hr hlocks hP hD hS (bI_1 ⟨c_2, c_7⟩) (rfl) (bI_nar _) dX5_isIn_15

abbrev rm_X5_thrown : Room := { frames := 0, cells := 0, slots := 0, locals := 0 }
theorem in_X5_thrown_X5 : ∀ w ∈ u_ws RX5 TX5 19, w ∈ wsX5_thrown := by decide +kernel
set_option maxHeartbeats 4000000 in
set_option maxRecDepth 100000 in
theorem ct_X5_thrown (l : Launch) (D : va_G) (cyI cyZ : ClassId) (a0 a1 a2 a3 a4 a5 a6 a7 : Nat) (sz : Nat) (th : Int32) (Wd Hh nn : Nat) (na nb rk pr bk lo : Int32) (bt bb : Int64)  : Met l yX5_thrown wsX5_thrown rm_X5_thrown (xk_Pc D cyI cyZ [.ref a0] [(a0, .inr (5, [.int th, .int (nI Wd), .int (nI Hh), .int (nI nn), .int na, .int nb, .int rk, .int pr, .int bk, .ref a1, .ref a2, .ref a3, .ref a4, .ref a5, .ref a6, .ref a7, .int lo, .long bt, .long bb]))] sz) (xk_Qi D (va_A [(a0, .inr (5, [.int th, .int (nI Wd), .int (nI Hh), .int (nI nn), .int na, .int nb, .int rk, .int pr, .int bk, .ref a1, .ref a2, .ref a3, .ref a4, .ref a5, .ref a6, .ref a7, .int lo, .long bt, .long bb]))] sz) th [(a0, .inr (5, [.int th, .int (nI Wd), .int (nI Hh), .int (nI nn), .int na, .int nb, .int rk, .int pr, .int bk, .ref a1, .ref a2, .ref a3, .ref a4, .ref a5, .ref a6, .ref a7, .int lo, .long bt, .long bb]))]) 0 0 (va_A [(a0, .inr (5, [.int th, .int (nI Wd), .int (nI Hh), .int (nI nn), .int na, .int nb, .int rk, .int pr, .int bk, .ref a1, .ref a2, .ref a3, .ref a4, .ref a5, .ref a6, .ref a7, .int lo, .long bt, .long bb]))] sz) := by
  refine xk_of (own := RX5) (cc := cX5_thrown) (maxL := 1) (ret := (some .int)) (Qc := fun A => xk_Qi D A th [(a0, .inr (5, [.int th, .int (nI Wd), .int (nI Hh), .int (nI nn), .int na, .int nb, .int rk, .int pr, .int bk, .ref a1, .ref a2, .ref a3, .ref a4, .ref a5, .ref a6, .ref a7, .int lo, .long bt, .long bb]))]) (by decide) rfl rfl (Nat.le_of_ble_eq_true rfl) ?_
  intro p e s m below meth c A ls hx hb hr hml hown hlocks hin hts hA hP hK hN hD hS hl
  have hC0 := xk_fix hx hb hml hown hts
  have hl : lv_has ls 1 [(0, .ref a0)] := hl
  have hf51 := hts (.fieldLink RX5 51 "DotPressModel" "thrown" "I") (by decide +kernel)
  refine lv_aload_n hx hb dX5_thrown_0 rfl (lv_at hl 0 rfl) ?_
  refine va_get (D := D) (ci := 5) (v := .int th) (C := RX5) (T := TX5) (N := 19) hx hb hts in_X5_thrown_X5 hown hK hP 0 rfl rfl 0 (by decide) hf51 (fun _ h9 => h9) rfl dX5_thrown_1 ?_
  exact xk_iret hx hb hr hlocks hP hD hS (rfl) (rfl) dX5_thrown_4

abbrev rm_X5_isPlace : Room := { frames := 1, cells := 0, slots := 0, locals := 22 }
theorem in_X5_isPlace_X5 : ∀ w ∈ u_ws RX5 TX5 19, w ∈ wsX5_isPlace := by decide +kernel
set_option maxHeartbeats 4000000 in
set_option maxRecDepth 100000 in
theorem ct_X5_isPlace (l : Launch) (D : va_G) (cyI cyZ : ClassId) (a0 a1 a2 a3 a4 a5 a6 a7 : Nat) (sz : Nat) (th : Int32) (Wd Hh nn : Nat) (na nb rk pr bk lo : Int32) (bt bb : Int64) (x y : Int32) (hw1 : 1 ≤ Wd) (hw2 : Wd ≤ 24) (hh1 : 1 ≤ Hh) (hh2 : Hh ≤ 24) : Met l yX5_isPlace wsX5_isPlace rm_X5_isPlace (xk_Pc D cyI cyZ [.ref a0, .int x, .int y] [(a0, .inr (5, [.int th, .int (nI Wd), .int (nI Hh), .int (nI nn), .int na, .int nb, .int rk, .int pr, .int bk, .ref a1, .ref a2, .ref a3, .ref a4, .ref a5, .ref a6, .ref a7, .int lo, .long bt, .long bb]))] sz) (xk_Qi D (va_A [(a0, .inr (5, [.int th, .int (nI Wd), .int (nI Hh), .int (nI nn), .int na, .int nb, .int rk, .int pr, .int bk, .ref a1, .ref a2, .ref a3, .ref a4, .ref a5, .ref a6, .ref a7, .int lo, .long bt, .long bb]))] sz) (bI (sh_has Wd Hh x y)) [(a0, .inr (5, [.int th, .int (nI Wd), .int (nI Hh), .int (nI nn), .int na, .int nb, .int rk, .int pr, .int bk, .ref a1, .ref a2, .ref a3, .ref a4, .ref a5, .ref a6, .ref a7, .int lo, .long bt, .long bb]))]) 0 0 (va_A [(a0, .inr (5, [.int th, .int (nI Wd), .int (nI Hh), .int (nI nn), .int na, .int nb, .int rk, .int pr, .int bk, .ref a1, .ref a2, .ref a3, .ref a4, .ref a5, .ref a6, .ref a7, .int lo, .long bt, .long bb]))] sz) := by
  refine xk_of (own := RX5) (cc := cX5_isPlace) (maxL := 3) (ret := (some .boolean)) (Qc := fun A => xk_Qi D A (bI (sh_has Wd Hh x y)) [(a0, .inr (5, [.int th, .int (nI Wd), .int (nI Hh), .int (nI nn), .int na, .int nb, .int rk, .int pr, .int bk, .ref a1, .ref a2, .ref a3, .ref a4, .ref a5, .ref a6, .ref a7, .int lo, .long bt, .long bb]))]) (by decide) rfl rfl (Nat.le_of_ble_eq_true rfl) ?_
  intro p e s m below meth c A ls hx hb hr hml hown hlocks hin hts hA hP hK hN hD hS hl
  have hC0 := xk_fix hx hb hml hown hts
  have hl : lv_has ls 3 [(0, .ref a0), (1, .int x), (2, .int y)] := hl
  have hf7 := hts (.fieldLink RX5 7 "DotPressModel" "wide" "I") (by decide +kernel)
  have hf13 := hts (.fieldLink RX5 13 "DotPressModel" "high" "I") (by decide +kernel)
  refine lv_iload_n hx hb dX5_isPlace_0 rfl (lv_at hl 1 rfl) ?_
  refine lv_iconst (v := 0) hx hb dX5_isPlace_1 (by decide) ?_
  refine lv_aload_n hx hb dX5_isPlace_2 rfl (lv_at hl 0 rfl) ?_
  refine va_get (D := D) (ci := 5) (v := .int (nI Wd)) (C := RX5) (T := TX5) (N := 19) hx hb hts in_X5_isPlace_X5 hown hK hP 0 rfl rfl 1 (by decide) hf7 (fun _ h9 => h9) rfl dX5_isPlace_3 ?_
  refine lv_iconst (v := 1) hx hb dX5_isPlace_6 (by decide) ?_
  refine lv_isub hx hb dX5_isPlace_7 ?_
  have hPc := hP.sub (ws' := []) [] rfl
  have hDc := hD.sub (ws' := []) [] (by decide) rfl
  refine xk_calli (wr := [(a0, .inr (5, [.int th, .int (nI Wd), .int (nI Hh), .int (nI nn), .int na, .int nb, .int rk, .int pr, .int bk, .ref a1, .ref a2, .ref a3, .ref a4, .ref a5, .ref a6, .ref a7, .int lo, .long bt, .long bb]))]) (w2 := [(a0, .inr (5, [.int th, .int (nI Wd), .int (nI Hh), .int (nI nn), .int na, .int nb, .int rk, .int pr, .int bk, .ref a1, .ref a2, .ref a3, .ref a4, .ref a5, .ref a6, .ref a7, .int lo, .long bt, .long bb]))]) (va_runS (As := [.int x, .int 0, .int (nI Wd - 1)]) (rest := []) hC0 (ct_X5_isIn l D cyI cyZ  _ x 0 (nI Wd - 1) ) (va_cwS 3 hts gX5_isPlace_X5_isIn rfl rfl rfl (by decide +kernel) ⟨Nat.le_of_ble_eq_true rfl, Nat.le_of_ble_eq_true rfl⟩) ⟨xk_blind, xk_pre hK hN hPc hDc⟩ rfl rfl hl.1 rfl (lv_room (Nat.le_of_ble_eq_true rfl)) dX5_isPlace_8 ⟨Nat.le_of_ble_eq_true rfl, Nat.le_of_ble_eq_true rfl⟩) hP hD hS hA [] [0] [0] rfl rfl (by decide) (by decide) rfl (by decide) (fun H locs hP hD hS => ?_)
  refine lv_if_eq (tgt := 32) hx hb dX5_isPlace_11 (by decide) (fun c_11 => ?_) (fun c_11 => ?_)
  · have c_11 := bI_z.mp c_11
    refine lv_iconst (v := 0) hx hb dX5_isPlace_32 (by decide) ?_
    exact xk_zret hx hb hr hlocks hP hD hS (bI_0 (fun h => c_11 ((md_in hw1 (by omega)).mpr ⟨h.1, h.2.1⟩))) (rfl) (bI_nar _) dX5_isPlace_33
  · have c_11 := bI_nz.mp c_11
    refine lv_iload_n hx hb dX5_isPlace_14 rfl (lv_at hl 2 rfl) ?_
    refine lv_iconst (v := 0) hx hb dX5_isPlace_15 (by decide) ?_
    refine lv_aload_n hx hb dX5_isPlace_16 rfl (lv_at hl 0 rfl) ?_
    refine va_get (D := D) (ci := 5) (v := .int (nI Hh)) (C := RX5) (T := TX5) (N := 19) hx hb hts in_X5_isPlace_X5 hown hK hP 0 rfl rfl 2 (by decide) hf13 (fun _ h9 => h9) rfl dX5_isPlace_17 ?_
    refine lv_iconst (v := 1) hx hb dX5_isPlace_20 (by decide) ?_
    refine lv_isub hx hb dX5_isPlace_21 ?_
    have hPc := hP.sub (ws' := []) [] rfl
    have hDc := hD.sub (ws' := []) [] (by decide) rfl
    refine xk_calli (wr := [(a0, .inr (5, [.int th, .int (nI Wd), .int (nI Hh), .int (nI nn), .int na, .int nb, .int rk, .int pr, .int bk, .ref a1, .ref a2, .ref a3, .ref a4, .ref a5, .ref a6, .ref a7, .int lo, .long bt, .long bb]))]) (w2 := [(a0, .inr (5, [.int th, .int (nI Wd), .int (nI Hh), .int (nI nn), .int na, .int nb, .int rk, .int pr, .int bk, .ref a1, .ref a2, .ref a3, .ref a4, .ref a5, .ref a6, .ref a7, .int lo, .long bt, .long bb]))]) (va_runS (As := [.int y, .int 0, .int (nI Hh - 1)]) (rest := []) hC0 (ct_X5_isIn l D cyI cyZ  _ y 0 (nI Hh - 1) ) (va_cwS 3 hts gX5_isPlace_X5_isIn rfl rfl rfl (by decide +kernel) ⟨Nat.le_of_ble_eq_true rfl, Nat.le_of_ble_eq_true rfl⟩) ⟨xk_blind, xk_pre hK hN hPc hDc⟩ rfl rfl hl.1 rfl (lv_room (Nat.le_of_ble_eq_true rfl)) dX5_isPlace_22 ⟨Nat.le_of_ble_eq_true rfl, Nat.le_of_ble_eq_true rfl⟩) hP hD hS hA [] [0] [0] rfl rfl (by decide) (by decide) rfl (by decide) (fun H locs hP hD hS => ?_)
    refine lv_if_eq (tgt := 32) hx hb dX5_isPlace_25 (by decide) (fun c_25 => ?_) (fun c_25 => ?_)
    · have c_25 := bI_z.mp c_25
      refine lv_iconst (v := 0) hx hb dX5_isPlace_32 (by decide) ?_
      exact xk_zret hx hb hr hlocks hP hD hS (bI_0 (fun h => c_25 ((md_in hh1 (by omega)).mpr ⟨h.2.2.1, h.2.2.2⟩))) (rfl) (bI_nar _) dX5_isPlace_33
    · have c_25 := bI_nz.mp c_25
      refine lv_iconst (v := 1) hx hb dX5_isPlace_28 (by decide) ?_
      refine lv_goto (tgt := 33) hx hb dX5_isPlace_29 (by decide) ?_
      exact xk_zret hx hb hr hlocks hP hD hS (bI_1 (md_place hw1 hw2 hh1 hh2 c_11 c_25)) (rfl) (bI_nar _) dX5_isPlace_33

abbrev rm_X5_isBox : Room := { frames := 2, cells := 0, slots := 0, locals := 44 }
theorem in_X5_isBox_X5 : ∀ w ∈ u_ws RX5 TX5 19, w ∈ wsX5_isBox := by decide +kernel
set_option maxHeartbeats 4000000 in
set_option maxRecDepth 100000 in
theorem ct_X5_isBox (l : Launch) (D : va_G) (cyI cyZ : ClassId) (a0 a1 a2 a3 a4 a5 a6 a7 : Nat) (sz : Nat) (th : Int32) (Wd Hh nn : Nat) (na nb rk pr bk lo : Int32) (bt bb : Int64) (x y w h : Int32) (hw1 : 1 ≤ Wd) (hw2 : Wd ≤ 24) (hh1 : 1 ≤ Hh) (hh2 : Hh ≤ 24) : Met l yX5_isBox wsX5_isBox rm_X5_isBox (xk_Pc D cyI cyZ [.ref a0, .int x, .int y, .int w, .int h] [(a0, .inr (5, [.int th, .int (nI Wd), .int (nI Hh), .int (nI nn), .int na, .int nb, .int rk, .int pr, .int bk, .ref a1, .ref a2, .ref a3, .ref a4, .ref a5, .ref a6, .ref a7, .int lo, .long bt, .long bb]))] sz) (xk_Qi D (va_A [(a0, .inr (5, [.int th, .int (nI Wd), .int (nI Hh), .int (nI nn), .int na, .int nb, .int rk, .int pr, .int bk, .ref a1, .ref a2, .ref a3, .ref a4, .ref a5, .ref a6, .ref a7, .int lo, .long bt, .long bb]))] sz) (bI (sh_box Wd Hh x y w h)) [(a0, .inr (5, [.int th, .int (nI Wd), .int (nI Hh), .int (nI nn), .int na, .int nb, .int rk, .int pr, .int bk, .ref a1, .ref a2, .ref a3, .ref a4, .ref a5, .ref a6, .ref a7, .int lo, .long bt, .long bb]))]) 0 0 (va_A [(a0, .inr (5, [.int th, .int (nI Wd), .int (nI Hh), .int (nI nn), .int na, .int nb, .int rk, .int pr, .int bk, .ref a1, .ref a2, .ref a3, .ref a4, .ref a5, .ref a6, .ref a7, .int lo, .long bt, .long bb]))] sz) := by
  refine xk_of (own := RX5) (cc := cX5_isBox) (maxL := 5) (ret := (some .boolean)) (Qc := fun A => xk_Qi D A (bI (sh_box Wd Hh x y w h)) [(a0, .inr (5, [.int th, .int (nI Wd), .int (nI Hh), .int (nI nn), .int na, .int nb, .int rk, .int pr, .int bk, .ref a1, .ref a2, .ref a3, .ref a4, .ref a5, .ref a6, .ref a7, .int lo, .long bt, .long bb]))]) (by decide) rfl rfl (Nat.le_of_ble_eq_true rfl) ?_
  intro p e s m below meth c A ls hx hb hr hml hown hlocks hin hts hA hP hK hN hD hS hl
  have hC0 := xk_fix hx hb hml hown hts
  have hl : lv_has ls 5 [(0, .ref a0), (1, .int x), (2, .int y), (3, .int w), (4, .int h)] := hl
  have hf7 := hts (.fieldLink RX5 7 "DotPressModel" "wide" "I") (by decide +kernel)
  have hf13 := hts (.fieldLink RX5 13 "DotPressModel" "high" "I") (by decide +kernel)
  refine lv_aload_n hx hb dX5_isBox_0 rfl (lv_at hl 0 rfl) ?_
  refine lv_iload_n hx hb dX5_isBox_1 rfl (lv_at hl 1 rfl) ?_
  refine lv_iload_n hx hb dX5_isBox_2 rfl (lv_at hl 2 rfl) ?_
  have hPc := hP.sub (ws' := [(a0, .inr (5, [.int th, .int (nI Wd), .int (nI Hh), .int (nI nn), .int na, .int nb, .int rk, .int pr, .int bk, .ref a1, .ref a2, .ref a3, .ref a4, .ref a5, .ref a6, .ref a7, .int lo, .long bt, .long bb]))]) [0] rfl
  have hDc := hD.sub (ws' := [(a0, .inr (5, [.int th, .int (nI Wd), .int (nI Hh), .int (nI nn), .int na, .int nb, .int rk, .int pr, .int bk, .ref a1, .ref a2, .ref a3, .ref a4, .ref a5, .ref a6, .ref a7, .int lo, .long bt, .long bb]))]) [0] (by decide) rfl
  refine xk_calli (wr := []) (w2 := [(a0, .inr (5, [.int th, .int (nI Wd), .int (nI Hh), .int (nI nn), .int na, .int nb, .int rk, .int pr, .int bk, .ref a1, .ref a2, .ref a3, .ref a4, .ref a5, .ref a6, .ref a7, .int lo, .long bt, .long bb]))]) (va_runV (As := [.int x, .int y]) (rest := []) hC0 (ct_X5_isPlace l D cyI cyZ a0 a1 a2 a3 a4 a5 a6 a7 _ th Wd Hh nn na nb rk pr bk lo bt bb x y (by first | assumption | omega) (by first | assumption | omega) (by first | assumption | omega) (by first | assumption | omega)) (cwV 2 hts gX5_isBox_X5_isPlace rfl rfl rfl (by decide +kernel) ⟨Nat.le_of_ble_eq_true rfl, Nat.le_of_ble_eq_true rfl⟩) ⟨xk_blind, va_recv hK hPc (ci := 5) (q0 := 0) rfl rfl, xk_pre hK hN hPc hDc⟩ rfl rfl hl.1 rfl (lv_room (Nat.le_of_ble_eq_true rfl)) dX5_isBox_3 ⟨Nat.le_of_ble_eq_true rfl, Nat.le_of_ble_eq_true rfl⟩) hP hD hS hA [0] [] [0] rfl rfl (by decide) (by decide) rfl (by decide) (fun H locs hP hD hS => ?_)
  refine lv_if_eq (tgt := 45) hx hb dX5_isBox_6 (by decide) (fun c_6 => ?_) (fun c_6 => ?_)
  · have c_6 := bI_z.mp c_6
    refine lv_iconst (v := 0) hx hb dX5_isBox_45 (by decide) ?_
    exact xk_zret hx hb hr hlocks hP hD hS (bI_0 (fun h => c_6 h.1)) (rfl) (bI_nar _) dX5_isBox_46
  · have c_6 := bI_nz.mp c_6
    refine lv_iload_n hx hb dX5_isBox_9 rfl (lv_at hl 3 rfl) ?_
    refine lv_iconst (v := 1) hx hb dX5_isBox_10 (by decide) ?_
    refine lv_icmp_lt (tgt := 45) hx hb dX5_isBox_11 (by decide) (fun c_11 => ?_) (fun c_11 => ?_)
    · refine lv_iconst (v := 0) hx hb dX5_isBox_45 (by decide) ?_
      exact xk_zret hx hb hr hlocks hP hD hS (bI_0 (fun h => h.2.1 c_11)) (rfl) (bI_nar _) dX5_isBox_46
    · refine lv_iload hx hb dX5_isBox_14 (lv_at hl 4 rfl) ?_
      refine lv_iconst (v := 1) hx hb dX5_isBox_16 (by decide) ?_
      refine lv_icmp_lt (tgt := 45) hx hb dX5_isBox_17 (by decide) (fun c_17 => ?_) (fun c_17 => ?_)
      · refine lv_iconst (v := 0) hx hb dX5_isBox_45 (by decide) ?_
        exact xk_zret hx hb hr hlocks hP hD hS (bI_0 (fun h => h.2.2.2.1 c_17)) (rfl) (bI_nar _) dX5_isBox_46
      · refine lv_iload_n hx hb dX5_isBox_20 rfl (lv_at hl 3 rfl) ?_
        refine lv_aload_n hx hb dX5_isBox_21 rfl (lv_at hl 0 rfl) ?_
        refine va_get (D := D) (ci := 5) (v := .int (nI Wd)) (C := RX5) (T := TX5) (N := 19) hx hb hts in_X5_isBox_X5 hown hK hP 0 rfl rfl 1 (by decide) hf7 (fun _ h9 => h9) rfl dX5_isBox_22 ?_
        refine lv_iload_n hx hb dX5_isBox_25 rfl (lv_at hl 1 rfl) ?_
        refine lv_isub hx hb dX5_isBox_26 ?_
        refine lv_icmp_gt (tgt := 45) hx hb dX5_isBox_27 (by decide) (fun c_27 => ?_) (fun c_27 => ?_)
        · refine lv_iconst (v := 0) hx hb dX5_isBox_45 (by decide) ?_
          exact xk_zret hx hb hr hlocks hP hD hS (bI_0 (fun h => h.2.2.1 c_27)) (rfl) (bI_nar _) dX5_isBox_46
        · refine lv_iload hx hb dX5_isBox_30 (lv_at hl 4 rfl) ?_
          refine lv_aload_n hx hb dX5_isBox_32 rfl (lv_at hl 0 rfl) ?_
          refine va_get (D := D) (ci := 5) (v := .int (nI Hh)) (C := RX5) (T := TX5) (N := 19) hx hb hts in_X5_isBox_X5 hown hK hP 0 rfl rfl 2 (by decide) hf13 (fun _ h9 => h9) rfl dX5_isBox_33 ?_
          refine lv_iload_n hx hb dX5_isBox_36 rfl (lv_at hl 2 rfl) ?_
          refine lv_isub hx hb dX5_isBox_37 ?_
          refine lv_icmp_gt (tgt := 45) hx hb dX5_isBox_38 (by decide) (fun c_38 => ?_) (fun c_38 => ?_)
          · refine lv_iconst (v := 0) hx hb dX5_isBox_45 (by decide) ?_
            exact xk_zret hx hb hr hlocks hP hD hS (bI_0 (fun h => h.2.2.2.2 c_38)) (rfl) (bI_nar _) dX5_isBox_46
          · refine lv_iconst (v := 1) hx hb dX5_isBox_41 (by decide) ?_
            refine lv_goto (tgt := 46) hx hb dX5_isBox_42 (by decide) ?_
            exact xk_zret hx hb hr hlocks hP hD hS (bI_1 ⟨c_6, c_11, c_27, c_17, c_38⟩) (rfl) (bI_nar _) dX5_isBox_46

abbrev rm_X5_isPair : Room := { frames := 1, cells := 0, slots := 0, locals := 22 }
theorem in_X5_isPair_X5 : ∀ w ∈ u_ws RX5 TX5 19, w ∈ wsX5_isPair := by decide +kernel
set_option maxHeartbeats 4000000 in
set_option maxRecDepth 100000 in
theorem ct_X5_isPair (l : Launch) (D : va_G) (cyI cyZ : ClassId) (a0 a1 a2 a3 a4 a5 a6 a7 : Nat) (sz : Nat) (th : Int32) (Wd Hh nn : Nat) (na nb rk pr bk lo : Int32) (bt bb : Int64) (x y : Int32) (hn1 : 1 ≤ nn) (hn2 : nn ≤ 8) : Met l yX5_isPair wsX5_isPair rm_X5_isPair (xk_Pc D cyI cyZ [.ref a0, .int x, .int y] [(a0, .inr (5, [.int th, .int (nI Wd), .int (nI Hh), .int (nI nn), .int na, .int nb, .int rk, .int pr, .int bk, .ref a1, .ref a2, .ref a3, .ref a4, .ref a5, .ref a6, .ref a7, .int lo, .long bt, .long bb]))] sz) (xk_Qi D (va_A [(a0, .inr (5, [.int th, .int (nI Wd), .int (nI Hh), .int (nI nn), .int na, .int nb, .int rk, .int pr, .int bk, .ref a1, .ref a2, .ref a3, .ref a4, .ref a5, .ref a6, .ref a7, .int lo, .long bt, .long bb]))] sz) (bI (st_pair nn x y)) [(a0, .inr (5, [.int th, .int (nI Wd), .int (nI Hh), .int (nI nn), .int na, .int nb, .int rk, .int pr, .int bk, .ref a1, .ref a2, .ref a3, .ref a4, .ref a5, .ref a6, .ref a7, .int lo, .long bt, .long bb]))]) 0 0 (va_A [(a0, .inr (5, [.int th, .int (nI Wd), .int (nI Hh), .int (nI nn), .int na, .int nb, .int rk, .int pr, .int bk, .ref a1, .ref a2, .ref a3, .ref a4, .ref a5, .ref a6, .ref a7, .int lo, .long bt, .long bb]))] sz) := by
  refine xk_of (own := RX5) (cc := cX5_isPair) (maxL := 3) (ret := (some .boolean)) (Qc := fun A => xk_Qi D A (bI (st_pair nn x y)) [(a0, .inr (5, [.int th, .int (nI Wd), .int (nI Hh), .int (nI nn), .int na, .int nb, .int rk, .int pr, .int bk, .ref a1, .ref a2, .ref a3, .ref a4, .ref a5, .ref a6, .ref a7, .int lo, .long bt, .long bb]))]) (by decide) rfl rfl (Nat.le_of_ble_eq_true rfl) ?_
  intro p e s m below meth c A ls hx hb hr hml hown hlocks hin hts hA hP hK hN hD hS hl
  have hC0 := xk_fix hx hb hml hown hts
  have hl : lv_has ls 3 [(0, .ref a0), (1, .int x), (2, .int y)] := hl
  have hf16 := hts (.fieldLink RX5 16 "DotPressModel" "n" "I") (by decide +kernel)
  refine lv_iload_n hx hb dX5_isPair_0 rfl (lv_at hl 1 rfl) ?_
  refine lv_iconst (v := 0) hx hb dX5_isPair_1 (by decide) ?_
  refine lv_aload_n hx hb dX5_isPair_2 rfl (lv_at hl 0 rfl) ?_
  refine va_get (D := D) (ci := 5) (v := .int (nI nn)) (C := RX5) (T := TX5) (N := 19) hx hb hts in_X5_isPair_X5 hown hK hP 0 rfl rfl 3 (by decide) hf16 (fun _ h9 => h9) rfl dX5_isPair_3 ?_
  refine lv_aload_n hx hb dX5_isPair_6 rfl (lv_at hl 0 rfl) ?_
  refine va_get (D := D) (ci := 5) (v := .int (nI nn)) (C := RX5) (T := TX5) (N := 19) hx hb hts in_X5_isPair_X5 hown hK hP 0 rfl rfl 3 (by decide) hf16 (fun _ h9 => h9) rfl dX5_isPair_7 ?_
  refine lv_imul hx hb dX5_isPair_10 ?_
  refine lv_iconst (v := 1) hx hb dX5_isPair_11 (by decide) ?_
  refine lv_isub hx hb dX5_isPair_12 ?_
  have hPc := hP.sub (ws' := []) [] rfl
  have hDc := hD.sub (ws' := []) [] (by decide) rfl
  refine xk_calli (wr := [(a0, .inr (5, [.int th, .int (nI Wd), .int (nI Hh), .int (nI nn), .int na, .int nb, .int rk, .int pr, .int bk, .ref a1, .ref a2, .ref a3, .ref a4, .ref a5, .ref a6, .ref a7, .int lo, .long bt, .long bb]))]) (w2 := [(a0, .inr (5, [.int th, .int (nI Wd), .int (nI Hh), .int (nI nn), .int na, .int nb, .int rk, .int pr, .int bk, .ref a1, .ref a2, .ref a3, .ref a4, .ref a5, .ref a6, .ref a7, .int lo, .long bt, .long bb]))]) (va_runS (As := [.int x, .int 0, .int ((nI nn * nI nn) - 1)]) (rest := []) hC0 (ct_X5_isIn l D cyI cyZ  _ x 0 ((nI nn * nI nn) - 1) ) (va_cwS 3 hts gX5_isPair_X5_isIn rfl rfl rfl (by decide +kernel) ⟨Nat.le_of_ble_eq_true rfl, Nat.le_of_ble_eq_true rfl⟩) ⟨xk_blind, xk_pre hK hN hPc hDc⟩ rfl rfl hl.1 rfl (lv_room (Nat.le_of_ble_eq_true rfl)) dX5_isPair_13 ⟨Nat.le_of_ble_eq_true rfl, Nat.le_of_ble_eq_true rfl⟩) hP hD hS hA [] [0] [0] rfl rfl (by decide) (by decide) rfl (by decide) (fun H locs hP hD hS => ?_)
  refine lv_if_eq (tgt := 47) hx hb dX5_isPair_16 (by decide) (fun c_16 => ?_) (fun c_16 => ?_)
  · have c_16 := bI_z.mp c_16
    refine lv_iconst (v := 0) hx hb dX5_isPair_47 (by decide) ?_
    exact xk_zret hx hb hr hlocks hP hD hS (bI_0 (fun h => c_16 ((md_nn hn1 hn2).mpr h.1))) (rfl) (bI_nar _) dX5_isPair_48
  · have c_16 := bI_nz.mp c_16
    refine lv_iload_n hx hb dX5_isPair_19 rfl (lv_at hl 2 rfl) ?_
    refine lv_iconst (v := 0) hx hb dX5_isPair_20 (by decide) ?_
    refine lv_aload_n hx hb dX5_isPair_21 rfl (lv_at hl 0 rfl) ?_
    refine va_get (D := D) (ci := 5) (v := .int (nI nn)) (C := RX5) (T := TX5) (N := 19) hx hb hts in_X5_isPair_X5 hown hK hP 0 rfl rfl 3 (by decide) hf16 (fun _ h9 => h9) rfl dX5_isPair_22 ?_
    refine lv_aload_n hx hb dX5_isPair_25 rfl (lv_at hl 0 rfl) ?_
    refine va_get (D := D) (ci := 5) (v := .int (nI nn)) (C := RX5) (T := TX5) (N := 19) hx hb hts in_X5_isPair_X5 hown hK hP 0 rfl rfl 3 (by decide) hf16 (fun _ h9 => h9) rfl dX5_isPair_26 ?_
    refine lv_imul hx hb dX5_isPair_29 ?_
    refine lv_iconst (v := 1) hx hb dX5_isPair_30 (by decide) ?_
    refine lv_isub hx hb dX5_isPair_31 ?_
    have hPc := hP.sub (ws' := []) [] rfl
    have hDc := hD.sub (ws' := []) [] (by decide) rfl
    refine xk_calli (wr := [(a0, .inr (5, [.int th, .int (nI Wd), .int (nI Hh), .int (nI nn), .int na, .int nb, .int rk, .int pr, .int bk, .ref a1, .ref a2, .ref a3, .ref a4, .ref a5, .ref a6, .ref a7, .int lo, .long bt, .long bb]))]) (w2 := [(a0, .inr (5, [.int th, .int (nI Wd), .int (nI Hh), .int (nI nn), .int na, .int nb, .int rk, .int pr, .int bk, .ref a1, .ref a2, .ref a3, .ref a4, .ref a5, .ref a6, .ref a7, .int lo, .long bt, .long bb]))]) (va_runS (As := [.int y, .int 0, .int ((nI nn * nI nn) - 1)]) (rest := []) hC0 (ct_X5_isIn l D cyI cyZ  _ y 0 ((nI nn * nI nn) - 1) ) (va_cwS 3 hts gX5_isPair_X5_isIn rfl rfl rfl (by decide +kernel) ⟨Nat.le_of_ble_eq_true rfl, Nat.le_of_ble_eq_true rfl⟩) ⟨xk_blind, xk_pre hK hN hPc hDc⟩ rfl rfl hl.1 rfl (lv_room (Nat.le_of_ble_eq_true rfl)) dX5_isPair_32 ⟨Nat.le_of_ble_eq_true rfl, Nat.le_of_ble_eq_true rfl⟩) hP hD hS hA [] [0] [0] rfl rfl (by decide) (by decide) rfl (by decide) (fun H locs hP hD hS => ?_)
    refine lv_if_eq (tgt := 47) hx hb dX5_isPair_35 (by decide) (fun c_35 => ?_) (fun c_35 => ?_)
    · have c_35 := bI_z.mp c_35
      refine lv_iconst (v := 0) hx hb dX5_isPair_47 (by decide) ?_
      exact xk_zret hx hb hr hlocks hP hD hS (bI_0 (fun h => c_35 ((md_nn hn1 hn2).mpr h.2.1))) (rfl) (bI_nar _) dX5_isPair_48
    · have c_35 := bI_nz.mp c_35
      refine lv_iload_n hx hb dX5_isPair_38 rfl (lv_at hl 1 rfl) ?_
      refine lv_iload_n hx hb dX5_isPair_39 rfl (lv_at hl 2 rfl) ?_
      refine lv_icmp_eq (tgt := 47) hx hb dX5_isPair_40 (by decide) (fun c_40 => ?_) (fun c_40 => ?_)
      · refine lv_iconst (v := 0) hx hb dX5_isPair_47 (by decide) ?_
        exact xk_zret hx hb hr hlocks hP hD hS (bI_0 (fun h => h.2.2 c_40)) (rfl) (bI_nar _) dX5_isPair_48
      · refine lv_iconst (v := 1) hx hb dX5_isPair_43 (by decide) ?_
        refine lv_goto (tgt := 48) hx hb dX5_isPair_44 (by decide) ?_
        exact xk_zret hx hb hr hlocks hP hD hS (bI_1 ⟨(md_nn hn1 hn2).mp c_16, (md_nn hn1 hn2).mp c_35, c_40⟩) (rfl) (bI_nar _) dX5_isPair_48

abbrev rm_X5_change : Room := { frames := 0, cells := 0, slots := 0, locals := 0 }
theorem in_X5_change_X5 : ∀ w ∈ u_ws RX5 TX5 19, w ∈ wsX5_change := by decide +kernel
set_option maxHeartbeats 4000000 in
set_option maxRecDepth 100000 in
theorem ct_X5_change (l : Launch) (D : va_G) (cyI cyZ : ClassId) (a0 a1 a2 a3 a4 a5 a6 a7 : Nat) (sz : Nat) (th : Int32) (Wd Hh nn : Nat) (na nb rk pr bk lo : Int32) (bt bb : Int64) (nu : Nat → Int32) (j1 j2 : Nat) (hj1 : j1 < 64) (hj2 : j2 < 64) : Met l yX5_change wsX5_change rm_X5_change (xk_Pc D cyI cyZ [.ref a0, .int (nI j1), .int (nI j2)] [(a0, .inr (5, [.int th, .int (nI Wd), .int (nI Hh), .int (nI nn), .int na, .int nb, .int rk, .int pr, .int bk, .ref a1, .ref a2, .ref a3, .ref a4, .ref a5, .ref a6, .ref a7, .int lo, .long bt, .long bb])), (a2, .inl (cyI, 64, .inl nu))] sz) (xk_Qv D (va_A [(a0, .inr (5, [.int th, .int (nI Wd), .int (nI Hh), .int (nI nn), .int na, .int nb, .int rk, .int pr, .int bk, .ref a1, .ref a2, .ref a3, .ref a4, .ref a5, .ref a6, .ref a7, .int lo, .long bt, .long bb])), (a2, .inl (cyI, 64, .inl nu))] sz) [(a0, .inr (5, [.int th, .int (nI Wd), .int (nI Hh), .int (nI nn), .int na, .int nb, .int rk, .int pr, .int bk, .ref a1, .ref a2, .ref a3, .ref a4, .ref a5, .ref a6, .ref a7, .int lo, .long bt, .long bb])), (a2, .inl (cyI, 64, .inl (sw nu j1 j2)))]) 0 0 (va_A [(a0, .inr (5, [.int th, .int (nI Wd), .int (nI Hh), .int (nI nn), .int na, .int nb, .int rk, .int pr, .int bk, .ref a1, .ref a2, .ref a3, .ref a4, .ref a5, .ref a6, .ref a7, .int lo, .long bt, .long bb])), (a2, .inl (cyI, 64, .inl nu))] sz) := by
  refine xk_of (own := RX5) (cc := cX5_change) (maxL := 4) (ret := none) (Qc := fun A => xk_Qv D A [(a0, .inr (5, [.int th, .int (nI Wd), .int (nI Hh), .int (nI nn), .int na, .int nb, .int rk, .int pr, .int bk, .ref a1, .ref a2, .ref a3, .ref a4, .ref a5, .ref a6, .ref a7, .int lo, .long bt, .long bb])), (a2, .inl (cyI, 64, .inl (sw nu j1 j2)))]) (by decide) rfl rfl (Nat.le_of_ble_eq_true rfl) ?_
  intro p e s m below meth c A ls hx hb hr hml hown hlocks hin hts hA hP hK hN hD hS hl
  have hC0 := xk_fix hx hb hml hown hts
  have hl : lv_has ls 4 [(0, .ref a0), (1, .int (nI j1)), (2, .int (nI j2))] := hl
  have hf32 := hts (.fieldLink RX5 32 "DotPressModel" "number" "[I") (by decide +kernel)
  refine lv_aload_n hx hb dX5_change_0 rfl (lv_at hl 0 rfl) ?_
  refine va_get (D := D) (ci := 5) (v := .ref a2) (C := RX5) (T := TX5) (N := 19) hx hb hts in_X5_change_X5 hown hK hP 0 rfl rfl 10 (by decide) hf32 (fun _ h9 => h9) rfl dX5_change_1 ?_
  refine lv_iload_n hx hb dX5_change_4 rfl (lv_at hl 1 rfl) ?_
  refine xk_iald hx hb hK hP 1 rfl j1 (rfl) (by omega) (by decide) dX5_change_5 ?_
  refine lv_istore_n (lv' := [(3, .int (nu j1)), (0, .ref a0), (1, .int (nI j1)), (2, .int (nI j2))]) hx hb dX5_change_6 rfl hl (by decide) rfl (fun ls hl => ?_)
  refine lv_aload_n hx hb dX5_change_7 rfl (lv_at hl 1 rfl) ?_
  refine va_get (D := D) (ci := 5) (v := .ref a2) (C := RX5) (T := TX5) (N := 19) hx hb hts in_X5_change_X5 hown hK hP 0 rfl rfl 10 (by decide) hf32 (fun _ h9 => h9) rfl dX5_change_8 ?_
  refine lv_iload_n hx hb dX5_change_11 rfl (lv_at hl 2 rfl) ?_
  refine lv_aload_n hx hb dX5_change_12 rfl (lv_at hl 1 rfl) ?_
  refine va_get (D := D) (ci := 5) (v := .ref a2) (C := RX5) (T := TX5) (N := 19) hx hb hts in_X5_change_X5 hown hK hP 0 rfl rfl 10 (by decide) hf32 (fun _ h9 => h9) rfl dX5_change_13 ?_
  refine lv_iload_n hx hb dX5_change_16 rfl (lv_at hl 3 rfl) ?_
  refine xk_iald hx hb hK hP 1 rfl j2 (rfl) (by omega) (by decide) dX5_change_17 ?_
  refine xk_iast (w2 := [(a0, .inr (5, [.int th, .int (nI Wd), .int (nI Hh), .int (nI nn), .int na, .int nb, .int rk, .int pr, .int bk, .ref a1, .ref a2, .ref a3, .ref a4, .ref a5, .ref a6, .ref a7, .int lo, .long bt, .long bb])), (a2, .inl (cyI, 64, .inl (upd nu j1 (nu j2))))]) hx hb hK hP hD hS 1 rfl j1 (rfl) (by omega) (by decide) rfl dX5_change_18 (fun H locs hP hD hS => ?_)
  refine lv_aload_n hx hb dX5_change_19 rfl (lv_at hl 1 rfl) ?_
  refine va_get (D := D) (ci := 5) (v := .ref a2) (C := RX5) (T := TX5) (N := 19) hx hb hts in_X5_change_X5 hown hK hP 0 rfl rfl 10 (by decide) hf32 (fun _ h9 => h9) rfl dX5_change_20 ?_
  refine lv_iload_n hx hb dX5_change_23 rfl (lv_at hl 3 rfl) ?_
  refine lv_iload_n hx hb dX5_change_24 rfl (lv_at hl 0 rfl) ?_
  refine xk_iast (w2 := [(a0, .inr (5, [.int th, .int (nI Wd), .int (nI Hh), .int (nI nn), .int na, .int nb, .int rk, .int pr, .int bk, .ref a1, .ref a2, .ref a3, .ref a4, .ref a5, .ref a6, .ref a7, .int lo, .long bt, .long bb])), (a2, .inl (cyI, 64, .inl (upd (upd nu j1 (nu j2)) j2 (nu j1))))]) hx hb hK hP hD hS 1 rfl j2 (rfl) (by omega) (by decide) rfl dX5_change_25 (fun H locs hP hD hS => ?_)
  exact xk_vret hx hb hr hlocks hP hD hS (rfl) dX5_change_26

abbrev rm_X5_isNet : Room := { frames := 1, cells := 0, slots := 0, locals := 22 }
set_option maxHeartbeats 4000000 in
set_option maxRecDepth 100000 in
theorem ct_X5_isNet (l : Launch) (D : va_G) (cyI cyZ : ClassId) (sz : Nat) (x y : Int32)  : Met l yX5_isNet wsX5_isNet rm_X5_isNet (xk_Pc D cyI cyZ [.int x, .int y] [] sz) (xk_Qi D (va_A [] sz) (bI (nt_ok x y)) []) 0 0 (va_A [] sz) := by
  refine xk_of (own := RX5) (cc := cX5_isNet) (maxL := 2) (ret := (some .boolean)) (Qc := fun A => xk_Qi D A (bI (nt_ok x y)) []) (by decide) rfl rfl (Nat.le_of_ble_eq_true rfl) ?_
  intro p e s m below meth c A ls hx hb hr hml hown hlocks hin hts hA hP hK hN hD hS hl
  have hC0 := xk_fix hx hb hml hown hts
  have hl : lv_has ls 2 [(0, .int x), (1, .int y)] := hl
  refine lv_iload_n hx hb dX5_isNet_0 rfl (lv_at hl 0 rfl) ?_
  refine lv_bipush (v := (-8)) hx hb dX5_isNet_1 (by decide) ?_
  refine lv_bipush (v := 8) hx hb dX5_isNet_3 (by decide) ?_
  have hPc := hP.sub (ws' := []) [] rfl
  have hDc := hD.sub (ws' := []) [] (by decide) rfl
  refine xk_calli (wr := []) (w2 := []) (va_runS (As := [.int x, .int (-8), .int 8]) (rest := []) hC0 (ct_X5_isIn l D cyI cyZ  _ x (-8) 8 ) (va_cwS 3 hts gX5_isNet_X5_isIn rfl rfl rfl (by decide +kernel) ⟨Nat.le_of_ble_eq_true rfl, Nat.le_of_ble_eq_true rfl⟩) ⟨xk_blind, xk_pre hK hN hPc hDc⟩ rfl rfl hl.1 rfl (lv_room (Nat.le_of_ble_eq_true rfl)) dX5_isNet_5 ⟨Nat.le_of_ble_eq_true rfl, Nat.le_of_ble_eq_true rfl⟩) hP hD hS hA [] [] [] rfl rfl (by decide) (by decide) rfl (by decide) (fun H locs hP hD hS => ?_)
  refine lv_if_eq (tgt := 34) hx hb dX5_isNet_8 (by decide) (fun c_8 => ?_) (fun c_8 => ?_)
  · have c_8 := bI_z.mp c_8
    refine lv_iconst (v := 0) hx hb dX5_isNet_34 (by decide) ?_
    exact xk_zret hx hb hr hlocks hP hD hS (bI_0 (fun h => c_8 h.1)) (rfl) (bI_nar _) dX5_isNet_35
  · have c_8 := bI_nz.mp c_8
    refine lv_iload_n hx hb dX5_isNet_11 rfl (lv_at hl 1 rfl) ?_
    refine lv_bipush (v := (-8)) hx hb dX5_isNet_12 (by decide) ?_
    refine lv_bipush (v := 8) hx hb dX5_isNet_14 (by decide) ?_
    have hPc := hP.sub (ws' := []) [] rfl
    have hDc := hD.sub (ws' := []) [] (by decide) rfl
    refine xk_calli (wr := []) (w2 := []) (va_runS (As := [.int y, .int (-8), .int 8]) (rest := []) hC0 (ct_X5_isIn l D cyI cyZ  _ y (-8) 8 ) (va_cwS 3 hts gX5_isNet_X5_isIn rfl rfl rfl (by decide +kernel) ⟨Nat.le_of_ble_eq_true rfl, Nat.le_of_ble_eq_true rfl⟩) ⟨xk_blind, xk_pre hK hN hPc hDc⟩ rfl rfl hl.1 rfl (lv_room (Nat.le_of_ble_eq_true rfl)) dX5_isNet_16 ⟨Nat.le_of_ble_eq_true rfl, Nat.le_of_ble_eq_true rfl⟩) hP hD hS hA [] [] [] rfl rfl (by decide) (by decide) rfl (by decide) (fun H locs hP hD hS => ?_)
    refine lv_if_eq (tgt := 34) hx hb dX5_isNet_19 (by decide) (fun c_19 => ?_) (fun c_19 => ?_)
    · have c_19 := bI_z.mp c_19
      refine lv_iconst (v := 0) hx hb dX5_isNet_34 (by decide) ?_
      exact xk_zret hx hb hr hlocks hP hD hS (bI_0 (fun h => c_19 h.2.1)) (rfl) (bI_nar _) dX5_isNet_35
    · have c_19 := bI_nz.mp c_19
      refine lv_iload_n hx hb dX5_isNet_22 rfl (lv_at hl 0 rfl) ?_
      refine lv_if_ne (tgt := 30) hx hb dX5_isNet_23 (by decide) (fun c_23 => ?_) (fun c_23 => ?_)
      · refine lv_iconst (v := 1) hx hb dX5_isNet_30 (by decide) ?_
        refine lv_goto (tgt := 35) hx hb dX5_isNet_31 (by decide) ?_
        exact xk_zret hx hb hr hlocks hP hD hS (bI_1 ⟨c_8, c_19, fun h => c_23 h.1⟩) (rfl) (bI_nar _) dX5_isNet_35
      · refine lv_iload_n hx hb dX5_isNet_26 rfl (lv_at hl 1 rfl) ?_
        refine lv_if_eq (tgt := 34) hx hb dX5_isNet_27 (by decide) (fun c_27 => ?_) (fun c_27 => ?_)
        · refine lv_iconst (v := 0) hx hb dX5_isNet_34 (by decide) ?_
          exact xk_zret hx hb hr hlocks hP hD hS (bI_0 (fun h => h.2.2 ⟨c_23, c_27⟩)) (rfl) (bI_nar _) dX5_isNet_35
        · refine lv_iconst (v := 1) hx hb dX5_isNet_30 (by decide) ?_
          refine lv_goto (tgt := 35) hx hb dX5_isNet_31 (by decide) ?_
          exact xk_zret hx hb hr hlocks hP hD hS (bI_1 ⟨c_8, c_19, fun h => c_27 h.2⟩) (rfl) (bI_nar _) dX5_isNet_35

abbrev rm_X5_m : Room := { frames := 0, cells := 0, slots := 0, locals := 0 }
theorem in_X5_m_X5 : ∀ w ∈ u_ws RX5 TX5 19, w ∈ wsX5_m := by decide +kernel
set_option maxHeartbeats 4000000 in
set_option maxRecDepth 100000 in
theorem ct_X5_m (l : Launch) (D : va_G) (cyI cyZ : ClassId) (a0 a1 a2 a3 a4 a5 a6 a7 : Nat) (sz : Nat) (th : Int32) (Wd Hh nn : Nat) (na nb rk pr bk lo : Int32) (bt bb : Int64)  : Met l yX5_m wsX5_m rm_X5_m (xk_Pc D cyI cyZ [.ref a0] [(a0, .inr (5, [.int th, .int (nI Wd), .int (nI Hh), .int (nI nn), .int na, .int nb, .int rk, .int pr, .int bk, .ref a1, .ref a2, .ref a3, .ref a4, .ref a5, .ref a6, .ref a7, .int lo, .long bt, .long bb]))] sz) (xk_Qi D (va_A [(a0, .inr (5, [.int th, .int (nI Wd), .int (nI Hh), .int (nI nn), .int na, .int nb, .int rk, .int pr, .int bk, .ref a1, .ref a2, .ref a3, .ref a4, .ref a5, .ref a6, .ref a7, .int lo, .long bt, .long bb]))] sz) (na * na + nb * nb) [(a0, .inr (5, [.int th, .int (nI Wd), .int (nI Hh), .int (nI nn), .int na, .int nb, .int rk, .int pr, .int bk, .ref a1, .ref a2, .ref a3, .ref a4, .ref a5, .ref a6, .ref a7, .int lo, .long bt, .long bb]))]) 0 0 (va_A [(a0, .inr (5, [.int th, .int (nI Wd), .int (nI Hh), .int (nI nn), .int na, .int nb, .int rk, .int pr, .int bk, .ref a1, .ref a2, .ref a3, .ref a4, .ref a5, .ref a6, .ref a7, .int lo, .long bt, .long bb]))] sz) := by
  refine xk_of (own := RX5) (cc := cX5_m) (maxL := 1) (ret := (some .int)) (Qc := fun A => xk_Qi D A (na * na + nb * nb) [(a0, .inr (5, [.int th, .int (nI Wd), .int (nI Hh), .int (nI nn), .int na, .int nb, .int rk, .int pr, .int bk, .ref a1, .ref a2, .ref a3, .ref a4, .ref a5, .ref a6, .ref a7, .int lo, .long bt, .long bb]))]) (by decide) rfl rfl (Nat.le_of_ble_eq_true rfl) ?_
  intro p e s m below meth c A ls hx hb hr hml hown hlocks hin hts hA hP hK hN hD hS hl
  have hC0 := xk_fix hx hb hml hown hts
  have hl : lv_has ls 1 [(0, .ref a0)] := hl
  have hf19 := hts (.fieldLink RX5 19 "DotPressModel" "a" "I") (by decide +kernel)
  have hf22 := hts (.fieldLink RX5 22 "DotPressModel" "b" "I") (by decide +kernel)
  refine lv_aload_n hx hb dX5_m_0 rfl (lv_at hl 0 rfl) ?_
  refine va_get (D := D) (ci := 5) (v := .int na) (C := RX5) (T := TX5) (N := 19) hx hb hts in_X5_m_X5 hown hK hP 0 rfl rfl 4 (by decide) hf19 (fun _ h9 => h9) rfl dX5_m_1 ?_
  refine lv_aload_n hx hb dX5_m_4 rfl (lv_at hl 0 rfl) ?_
  refine va_get (D := D) (ci := 5) (v := .int na) (C := RX5) (T := TX5) (N := 19) hx hb hts in_X5_m_X5 hown hK hP 0 rfl rfl 4 (by decide) hf19 (fun _ h9 => h9) rfl dX5_m_5 ?_
  refine lv_imul hx hb dX5_m_8 ?_
  refine lv_aload_n hx hb dX5_m_9 rfl (lv_at hl 0 rfl) ?_
  refine va_get (D := D) (ci := 5) (v := .int nb) (C := RX5) (T := TX5) (N := 19) hx hb hts in_X5_m_X5 hown hK hP 0 rfl rfl 5 (by decide) hf22 (fun _ h9 => h9) rfl dX5_m_10 ?_
  refine lv_aload_n hx hb dX5_m_13 rfl (lv_at hl 0 rfl) ?_
  refine va_get (D := D) (ci := 5) (v := .int nb) (C := RX5) (T := TX5) (N := 19) hx hb hts in_X5_m_X5 hown hK hP 0 rfl rfl 5 (by decide) hf22 (fun _ h9 => h9) rfl dX5_m_14 ?_
  refine lv_imul hx hb dX5_m_17 ?_
  refine lv_iadd hx hb dX5_m_18 ?_
  exact xk_iret hx hb hr hlocks hP hD hS (rfl) (rfl) dX5_m_19

abbrev rm_X5_isWay : Room := { frames := 1, cells := 0, slots := 0, locals := 22 }
set_option maxHeartbeats 4000000 in
set_option maxRecDepth 100000 in
theorem ct_X5_isWay (l : Launch) (D : va_G) (cyI cyZ : ClassId) (a0 a1 a2 a3 a4 a5 a6 a7 : Nat) (sz : Nat) (th : Int32) (Wd Hh nn : Nat) (na nb rk pr bk lo : Int32) (bt bb : Int64) (x : Int32)  : Met l yX5_isWay wsX5_isWay rm_X5_isWay (xk_Pc D cyI cyZ [.ref a0, .int x] [(a0, .inr (5, [.int th, .int (nI Wd), .int (nI Hh), .int (nI nn), .int na, .int nb, .int rk, .int pr, .int bk, .ref a1, .ref a2, .ref a3, .ref a4, .ref a5, .ref a6, .ref a7, .int lo, .long bt, .long bb]))] sz) (xk_Qi D (va_A [(a0, .inr (5, [.int th, .int (nI Wd), .int (nI Hh), .int (nI nn), .int na, .int nb, .int rk, .int pr, .int bk, .ref a1, .ref a2, .ref a3, .ref a4, .ref a5, .ref a6, .ref a7, .int lo, .long bt, .long bb]))] sz) (bI (¬ x < 0 ∧ ¬ 2 < x)) [(a0, .inr (5, [.int th, .int (nI Wd), .int (nI Hh), .int (nI nn), .int na, .int nb, .int rk, .int pr, .int bk, .ref a1, .ref a2, .ref a3, .ref a4, .ref a5, .ref a6, .ref a7, .int lo, .long bt, .long bb]))]) 0 0 (va_A [(a0, .inr (5, [.int th, .int (nI Wd), .int (nI Hh), .int (nI nn), .int na, .int nb, .int rk, .int pr, .int bk, .ref a1, .ref a2, .ref a3, .ref a4, .ref a5, .ref a6, .ref a7, .int lo, .long bt, .long bb]))] sz) := by
  refine xk_of (own := RX5) (cc := cX5_isWay) (maxL := 2) (ret := (some .boolean)) (Qc := fun A => xk_Qi D A (bI (¬ x < 0 ∧ ¬ 2 < x)) [(a0, .inr (5, [.int th, .int (nI Wd), .int (nI Hh), .int (nI nn), .int na, .int nb, .int rk, .int pr, .int bk, .ref a1, .ref a2, .ref a3, .ref a4, .ref a5, .ref a6, .ref a7, .int lo, .long bt, .long bb]))]) (by decide) rfl rfl (Nat.le_of_ble_eq_true rfl) ?_
  intro p e s m below meth c A ls hx hb hr hml hown hlocks hin hts hA hP hK hN hD hS hl
  have hC0 := xk_fix hx hb hml hown hts
  have hl : lv_has ls 2 [(0, .ref a0), (1, .int x)] := hl
  refine lv_iload_n hx hb dX5_isWay_0 rfl (lv_at hl 1 rfl) ?_
  refine lv_iconst (v := 0) hx hb dX5_isWay_1 (by decide) ?_
  refine lv_iconst (v := 2) hx hb dX5_isWay_2 (by decide) ?_
  have hPc := hP.sub (ws' := []) [] rfl
  have hDc := hD.sub (ws' := []) [] (by decide) rfl
  refine xk_calli (wr := [(a0, .inr (5, [.int th, .int (nI Wd), .int (nI Hh), .int (nI nn), .int na, .int nb, .int rk, .int pr, .int bk, .ref a1, .ref a2, .ref a3, .ref a4, .ref a5, .ref a6, .ref a7, .int lo, .long bt, .long bb]))]) (w2 := [(a0, .inr (5, [.int th, .int (nI Wd), .int (nI Hh), .int (nI nn), .int na, .int nb, .int rk, .int pr, .int bk, .ref a1, .ref a2, .ref a3, .ref a4, .ref a5, .ref a6, .ref a7, .int lo, .long bt, .long bb]))]) (va_runS (As := [.int x, .int 0, .int 2]) (rest := []) hC0 (ct_X5_isIn l D cyI cyZ  _ x 0 2 ) (va_cwS 3 hts gX5_isWay_X5_isIn rfl rfl rfl (by decide +kernel) ⟨Nat.le_of_ble_eq_true rfl, Nat.le_of_ble_eq_true rfl⟩) ⟨xk_blind, xk_pre hK hN hPc hDc⟩ rfl rfl hl.1 rfl (lv_room (Nat.le_of_ble_eq_true rfl)) dX5_isWay_3 ⟨Nat.le_of_ble_eq_true rfl, Nat.le_of_ble_eq_true rfl⟩) hP hD hS hA [] [0] [0] rfl rfl (by decide) (by decide) rfl (by decide) (fun H locs hP hD hS => ?_)
  exact xk_zret hx hb hr hlocks hP hD hS (rfl) (rfl) (bI_nar _) dX5_isWay_6

abbrev rm_X5_picture_no : Room := { frames := 1, cells := 0, slots := 0, locals := 22 }
theorem in_X5_picture_no_X5 : ∀ w ∈ u_ws RX5 TX5 19, w ∈ wsX5_picture := by decide +kernel
set_option maxHeartbeats 4000000 in
set_option maxRecDepth 100000 in
theorem ct_X5_picture_no (l : Launch) (D : va_G) (cyI cyZ : ClassId) (a0 a1 a2 a3 a4 a5 a6 a7 : Nat) (sz : Nat) (th : Int32) (Wd Hh nn : Nat) (na nb rk pr bk lo : Int32) (bt bb : Int64) (g ln : Nat → Int32) (x y : Int32) (hno : ¬ ((¬ x < 1 ∧ ¬ 24 < x) ∧ ¬ y < 1 ∧ ¬ 24 < y)) : Met l yX5_picture wsX5_picture rm_X5_picture_no (xk_Pc D cyI cyZ [.ref a0, .int x, .int y] [(a0, .inr (5, [.int th, .int (nI Wd), .int (nI Hh), .int (nI nn), .int na, .int nb, .int rk, .int pr, .int bk, .ref a1, .ref a2, .ref a3, .ref a4, .ref a5, .ref a6, .ref a7, .int lo, .long bt, .long bb])), (a1, .inl (cyI, 576, .inl g)), (a4, .inl (cyZ, 576, .inl ln))] sz) (xk_Qi D (va_A [(a0, .inr (5, [.int th, .int (nI Wd), .int (nI Hh), .int (nI nn), .int na, .int nb, .int rk, .int pr, .int bk, .ref a1, .ref a2, .ref a3, .ref a4, .ref a5, .ref a6, .ref a7, .int lo, .long bt, .long bb])), (a1, .inl (cyI, 576, .inl g)), (a4, .inl (cyZ, 576, .inl ln))] sz) 0 [(a0, .inr (5, [.int 0, .int (nI Wd), .int (nI Hh), .int (nI nn), .int na, .int nb, .int rk, .int pr, .int bk, .ref a1, .ref a2, .ref a3, .ref a4, .ref a5, .ref a6, .ref a7, .int lo, .long bt, .long bb])), (a1, .inl (cyI, 576, .inl g)), (a4, .inl (cyZ, 576, .inl ln))]) 0 0 (va_A [(a0, .inr (5, [.int th, .int (nI Wd), .int (nI Hh), .int (nI nn), .int na, .int nb, .int rk, .int pr, .int bk, .ref a1, .ref a2, .ref a3, .ref a4, .ref a5, .ref a6, .ref a7, .int lo, .long bt, .long bb])), (a1, .inl (cyI, 576, .inl g)), (a4, .inl (cyZ, 576, .inl ln))] sz) := by
  refine xk_of (own := RX5) (cc := cX5_picture) (maxL := 4) (ret := (some .boolean)) (Qc := fun A => xk_Qi D A 0 [(a0, .inr (5, [.int 0, .int (nI Wd), .int (nI Hh), .int (nI nn), .int na, .int nb, .int rk, .int pr, .int bk, .ref a1, .ref a2, .ref a3, .ref a4, .ref a5, .ref a6, .ref a7, .int lo, .long bt, .long bb])), (a1, .inl (cyI, 576, .inl g)), (a4, .inl (cyZ, 576, .inl ln))]) (by decide) rfl rfl (Nat.le_of_ble_eq_true rfl) ?_
  intro p e s m below meth c A ls hx hb hr hml hown hlocks hin hts hA hP hK hN hD hS hl
  have hC0 := xk_fix hx hb hml hown hts
  have hl : lv_has ls 4 [(0, .ref a0), (1, .int x), (2, .int y)] := hl
  have hf51 := hts (.fieldLink RX5 51 "DotPressModel" "thrown" "I") (by decide +kernel)
  refine lv_aload_n hx hb dX5_picture_0 rfl (lv_at hl 0 rfl) ?_
  refine lv_iconst (v := 0) hx hb dX5_picture_1 (by decide) ?_
  refine va_put (D := D) (ci := 5) (v := .int 0) (ty := .int) (C := RX5) (T := TX5) (N := 19) hx hb hts in_X5_picture_no_X5 tyX5 tyX5_ok nmX5 hown hK hP hD hS 0 rfl rfl 0 (by decide) hf51 (fun _ h9 => h9) rfl (by decide +kernel) (rfl) (rfl) (Nat.le_of_ble_eq_true rfl) dX5_picture_2 (fun H locs hP hD hS => ?_)
  have hP : va_P D vwCl [(a0, .inr (5, [.int 0, .int (nI Wd), .int (nI Hh), .int (nI nn), .int na, .int nb, .int rk, .int pr, .int bk, .ref a1, .ref a2, .ref a3, .ref a4, .ref a5, .ref a6, .ref a7, .int lo, .long bt, .long bb])), (a1, .inl (cyI, 576, .inl g)), (a4, .inl (cyZ, 576, .inl ln))] H := hP
  have hD : va_D A [(a0, .inr (5, [.int 0, .int (nI Wd), .int (nI Hh), .int (nI nn), .int na, .int nb, .int rk, .int pr, .int bk, .ref a1, .ref a2, .ref a3, .ref a4, .ref a5, .ref a6, .ref a7, .int lo, .long bt, .long bb])), (a1, .inl (cyI, 576, .inl g)), (a4, .inl (cyZ, 576, .inl ln))] := hD
  refine lv_iload_n hx hb dX5_picture_5 rfl (lv_at hl 1 rfl) ?_
  refine lv_iconst (v := 1) hx hb dX5_picture_6 (by decide) ?_
  refine lv_bipush (v := 24) hx hb dX5_picture_7 (by decide) ?_
  have hPc := hP.sub (ws' := []) [] rfl
  have hDc := hD.sub (ws' := []) [] (by decide) rfl
  refine xk_calli (wr := [(a0, .inr (5, [.int 0, .int (nI Wd), .int (nI Hh), .int (nI nn), .int na, .int nb, .int rk, .int pr, .int bk, .ref a1, .ref a2, .ref a3, .ref a4, .ref a5, .ref a6, .ref a7, .int lo, .long bt, .long bb])), (a1, .inl (cyI, 576, .inl g)), (a4, .inl (cyZ, 576, .inl ln))]) (w2 := [(a0, .inr (5, [.int 0, .int (nI Wd), .int (nI Hh), .int (nI nn), .int na, .int nb, .int rk, .int pr, .int bk, .ref a1, .ref a2, .ref a3, .ref a4, .ref a5, .ref a6, .ref a7, .int lo, .long bt, .long bb])), (a1, .inl (cyI, 576, .inl g)), (a4, .inl (cyZ, 576, .inl ln))]) (va_runS (As := [.int x, .int 1, .int 24]) (rest := []) hC0 (ct_X5_isIn l D cyI cyZ  _ x 1 24 ) (va_cwS 3 hts gX5_picture_X5_isIn rfl rfl rfl (by decide +kernel) ⟨Nat.le_of_ble_eq_true rfl, Nat.le_of_ble_eq_true rfl⟩) ⟨xk_blind, xk_pre hK hN hPc hDc⟩ rfl rfl hl.1 rfl (lv_room (Nat.le_of_ble_eq_true rfl)) dX5_picture_9 ⟨Nat.le_of_ble_eq_true rfl, Nat.le_of_ble_eq_true rfl⟩) hP hD hS hA [] [0, 1, 2] [0, 1, 2] rfl rfl (by decide) (by decide) rfl (by decide) (fun H locs hP hD hS => ?_)
  refine lv_if_eq (tgt := 25) hx hb dX5_picture_12 (by decide) (fun c_12 => ?_) (fun c_12 => ?_)
  · have c_12 := bI_z.mp c_12
    refine lv_iconst (v := 0) hx hb dX5_picture_25 (by decide) ?_
    exact xk_zret hx hb hr hlocks hP hD hS (rfl) (rfl) (rfl) dX5_picture_26
  · have c_12 := bI_nz.mp c_12
    refine lv_iload_n hx hb dX5_picture_15 rfl (lv_at hl 2 rfl) ?_
    refine lv_iconst (v := 1) hx hb dX5_picture_16 (by decide) ?_
    refine lv_bipush (v := 24) hx hb dX5_picture_17 (by decide) ?_
    have hPc := hP.sub (ws' := []) [] rfl
    have hDc := hD.sub (ws' := []) [] (by decide) rfl
    refine xk_calli (wr := [(a0, .inr (5, [.int 0, .int (nI Wd), .int (nI Hh), .int (nI nn), .int na, .int nb, .int rk, .int pr, .int bk, .ref a1, .ref a2, .ref a3, .ref a4, .ref a5, .ref a6, .ref a7, .int lo, .long bt, .long bb])), (a1, .inl (cyI, 576, .inl g)), (a4, .inl (cyZ, 576, .inl ln))]) (w2 := [(a0, .inr (5, [.int 0, .int (nI Wd), .int (nI Hh), .int (nI nn), .int na, .int nb, .int rk, .int pr, .int bk, .ref a1, .ref a2, .ref a3, .ref a4, .ref a5, .ref a6, .ref a7, .int lo, .long bt, .long bb])), (a1, .inl (cyI, 576, .inl g)), (a4, .inl (cyZ, 576, .inl ln))]) (va_runS (As := [.int y, .int 1, .int 24]) (rest := []) hC0 (ct_X5_isIn l D cyI cyZ  _ y 1 24 ) (va_cwS 3 hts gX5_picture_X5_isIn rfl rfl rfl (by decide +kernel) ⟨Nat.le_of_ble_eq_true rfl, Nat.le_of_ble_eq_true rfl⟩) ⟨xk_blind, xk_pre hK hN hPc hDc⟩ rfl rfl hl.1 rfl (lv_room (Nat.le_of_ble_eq_true rfl)) dX5_picture_19 ⟨Nat.le_of_ble_eq_true rfl, Nat.le_of_ble_eq_true rfl⟩) hP hD hS hA [] [0, 1, 2] [0, 1, 2] rfl rfl (by decide) (by decide) rfl (by decide) (fun H locs hP hD hS => ?_)
    refine lv_if_ne (tgt := 27) hx hb dX5_picture_22 (by decide) (fun c_22 => ?_) (fun c_22 => ?_)
    · have c_22 := bI_nz.mp c_22
      exact absurd ⟨c_12, c_22⟩ hno
    · have c_22 := bI_z.mp c_22
      refine lv_iconst (v := 0) hx hb dX5_picture_25 (by decide) ?_
      exact xk_zret hx hb hr hlocks hP hD hS (rfl) (rfl) (rfl) dX5_picture_26

abbrev rm_X5_picture_ok : Room := { frames := 1, cells := 0, slots := 0, locals := 22 }
theorem in_X5_picture_ok_X5 : ∀ w ∈ u_ws RX5 TX5 19, w ∈ wsX5_picture := by decide +kernel
set_option maxHeartbeats 4000000 in
set_option maxRecDepth 100000 in
theorem ct_X5_picture_ok (l : Launch) (D : va_G) (cyI cyZ : ClassId) (a0 a1 a2 a3 a4 a5 a6 a7 : Nat) (sz : Nat) (th : Int32) (Wd Hh nn : Nat) (na nb rk pr bk lo : Int32) (bt bb : Int64) (g ln : Nat → Int32) (W2 H2 : Nat) (q1 : 1 ≤ W2) (q2 : W2 ≤ 24) (q3 : 1 ≤ H2) (q4 : H2 ≤ 24) : Met l yX5_picture wsX5_picture rm_X5_picture_ok (xk_Pc D cyI cyZ [.ref a0, .int (nI W2), .int (nI H2)] [(a0, .inr (5, [.int th, .int (nI Wd), .int (nI Hh), .int (nI nn), .int na, .int nb, .int rk, .int pr, .int bk, .ref a1, .ref a2, .ref a3, .ref a4, .ref a5, .ref a6, .ref a7, .int lo, .long bt, .long bb])), (a1, .inl (cyI, 576, .inl g)), (a4, .inl (cyZ, 576, .inl ln))] sz) (xk_Qi D (va_A [(a0, .inr (5, [.int th, .int (nI Wd), .int (nI Hh), .int (nI nn), .int na, .int nb, .int rk, .int pr, .int bk, .ref a1, .ref a2, .ref a3, .ref a4, .ref a5, .ref a6, .ref a7, .int lo, .long bt, .long bb])), (a1, .inl (cyI, 576, .inl g)), (a4, .inl (cyZ, 576, .inl ln))] sz) 1 [(a0, .inr (5, [.int 0, .int (nI W2), .int (nI H2), .int (nI nn), .int na, .int nb, .int rk, .int pr, .int bk, .ref a1, .ref a2, .ref a3, .ref a4, .ref a5, .ref a6, .ref a7, .int lo, .long bt, .long bb])), (a1, .inl (cyI, 576, .inl (zr 576 g))), (a4, .inl (cyZ, 576, .inl (zr 576 ln)))]) 0 0 (va_A [(a0, .inr (5, [.int th, .int (nI Wd), .int (nI Hh), .int (nI nn), .int na, .int nb, .int rk, .int pr, .int bk, .ref a1, .ref a2, .ref a3, .ref a4, .ref a5, .ref a6, .ref a7, .int lo, .long bt, .long bb])), (a1, .inl (cyI, 576, .inl g)), (a4, .inl (cyZ, 576, .inl ln))] sz) := by
  refine xk_of (own := RX5) (cc := cX5_picture) (maxL := 4) (ret := (some .boolean)) (Qc := fun A => xk_Qi D A 1 [(a0, .inr (5, [.int 0, .int (nI W2), .int (nI H2), .int (nI nn), .int na, .int nb, .int rk, .int pr, .int bk, .ref a1, .ref a2, .ref a3, .ref a4, .ref a5, .ref a6, .ref a7, .int lo, .long bt, .long bb])), (a1, .inl (cyI, 576, .inl (zr 576 g))), (a4, .inl (cyZ, 576, .inl (zr 576 ln)))]) (by decide) rfl rfl (Nat.le_of_ble_eq_true rfl) ?_
  intro p e s m below meth c A ls hx hb hr hml hown hlocks hin hts hA hP hK hN hD hS hl
  have hC0 := xk_fix hx hb hml hown hts
  have hl : lv_has ls 4 [(0, .ref a0), (1, .int (nI W2)), (2, .int (nI H2))] := hl
  have hf7 := hts (.fieldLink RX5 7 "DotPressModel" "wide" "I") (by decide +kernel)
  have hf13 := hts (.fieldLink RX5 13 "DotPressModel" "high" "I") (by decide +kernel)
  have hf28 := hts (.fieldLink RX5 28 "DotPressModel" "shade" "[I") (by decide +kernel)
  have hf38 := hts (.fieldLink RX5 38 "DotPressModel" "isLine" "[Z") (by decide +kernel)
  have hf51 := hts (.fieldLink RX5 51 "DotPressModel" "thrown" "I") (by decide +kernel)
  refine lv_aload_n hx hb dX5_picture_0 rfl (lv_at hl 0 rfl) ?_
  refine lv_iconst (v := 0) hx hb dX5_picture_1 (by decide) ?_
  refine va_put (D := D) (ci := 5) (v := .int 0) (ty := .int) (C := RX5) (T := TX5) (N := 19) hx hb hts in_X5_picture_ok_X5 tyX5 tyX5_ok nmX5 hown hK hP hD hS 0 rfl rfl 0 (by decide) hf51 (fun _ h9 => h9) rfl (by decide +kernel) (rfl) (rfl) (Nat.le_of_ble_eq_true rfl) dX5_picture_2 (fun H locs hP hD hS => ?_)
  have hP : va_P D vwCl [(a0, .inr (5, [.int 0, .int (nI Wd), .int (nI Hh), .int (nI nn), .int na, .int nb, .int rk, .int pr, .int bk, .ref a1, .ref a2, .ref a3, .ref a4, .ref a5, .ref a6, .ref a7, .int lo, .long bt, .long bb])), (a1, .inl (cyI, 576, .inl g)), (a4, .inl (cyZ, 576, .inl ln))] H := hP
  have hD : va_D A [(a0, .inr (5, [.int 0, .int (nI Wd), .int (nI Hh), .int (nI nn), .int na, .int nb, .int rk, .int pr, .int bk, .ref a1, .ref a2, .ref a3, .ref a4, .ref a5, .ref a6, .ref a7, .int lo, .long bt, .long bb])), (a1, .inl (cyI, 576, .inl g)), (a4, .inl (cyZ, 576, .inl ln))] := hD
  refine lv_iload_n hx hb dX5_picture_5 rfl (lv_at hl 1 rfl) ?_
  refine lv_iconst (v := 1) hx hb dX5_picture_6 (by decide) ?_
  refine lv_bipush (v := 24) hx hb dX5_picture_7 (by decide) ?_
  have hPc := hP.sub (ws' := []) [] rfl
  have hDc := hD.sub (ws' := []) [] (by decide) rfl
  refine xk_calli (wr := [(a0, .inr (5, [.int 0, .int (nI Wd), .int (nI Hh), .int (nI nn), .int na, .int nb, .int rk, .int pr, .int bk, .ref a1, .ref a2, .ref a3, .ref a4, .ref a5, .ref a6, .ref a7, .int lo, .long bt, .long bb])), (a1, .inl (cyI, 576, .inl g)), (a4, .inl (cyZ, 576, .inl ln))]) (w2 := [(a0, .inr (5, [.int 0, .int (nI Wd), .int (nI Hh), .int (nI nn), .int na, .int nb, .int rk, .int pr, .int bk, .ref a1, .ref a2, .ref a3, .ref a4, .ref a5, .ref a6, .ref a7, .int lo, .long bt, .long bb])), (a1, .inl (cyI, 576, .inl g)), (a4, .inl (cyZ, 576, .inl ln))]) (va_runS (As := [.int (nI W2), .int 1, .int 24]) (rest := []) hC0 (ct_X5_isIn l D cyI cyZ  _ (nI W2) 1 24 ) (va_cwS 3 hts gX5_picture_X5_isIn rfl rfl rfl (by decide +kernel) ⟨Nat.le_of_ble_eq_true rfl, Nat.le_of_ble_eq_true rfl⟩) ⟨xk_blind, xk_pre hK hN hPc hDc⟩ rfl rfl hl.1 rfl (lv_room (Nat.le_of_ble_eq_true rfl)) dX5_picture_9 ⟨Nat.le_of_ble_eq_true rfl, Nat.le_of_ble_eq_true rfl⟩) hP hD hS hA [] [0, 1, 2] [0, 1, 2] rfl rfl (by decide) (by decide) rfl (by decide) (fun H locs hP hD hS => ?_)
  refine lv_if_eq (tgt := 25) hx hb dX5_picture_12 (by decide) (fun c_12 => xk_ab c_12 (bI_nz.mpr ⟨rg_lo (lo := 1) (by omega) (by omega), rg_hi (hi := 24) (by omega) (by omega)⟩)) (fun c_12 => ?_)
  have c_12 := bI_nz.mp c_12
  refine lv_iload_n hx hb dX5_picture_15 rfl (lv_at hl 2 rfl) ?_
  refine lv_iconst (v := 1) hx hb dX5_picture_16 (by decide) ?_
  refine lv_bipush (v := 24) hx hb dX5_picture_17 (by decide) ?_
  have hPc := hP.sub (ws' := []) [] rfl
  have hDc := hD.sub (ws' := []) [] (by decide) rfl
  refine xk_calli (wr := [(a0, .inr (5, [.int 0, .int (nI Wd), .int (nI Hh), .int (nI nn), .int na, .int nb, .int rk, .int pr, .int bk, .ref a1, .ref a2, .ref a3, .ref a4, .ref a5, .ref a6, .ref a7, .int lo, .long bt, .long bb])), (a1, .inl (cyI, 576, .inl g)), (a4, .inl (cyZ, 576, .inl ln))]) (w2 := [(a0, .inr (5, [.int 0, .int (nI Wd), .int (nI Hh), .int (nI nn), .int na, .int nb, .int rk, .int pr, .int bk, .ref a1, .ref a2, .ref a3, .ref a4, .ref a5, .ref a6, .ref a7, .int lo, .long bt, .long bb])), (a1, .inl (cyI, 576, .inl g)), (a4, .inl (cyZ, 576, .inl ln))]) (va_runS (As := [.int (nI H2), .int 1, .int 24]) (rest := []) hC0 (ct_X5_isIn l D cyI cyZ  _ (nI H2) 1 24 ) (va_cwS 3 hts gX5_picture_X5_isIn rfl rfl rfl (by decide +kernel) ⟨Nat.le_of_ble_eq_true rfl, Nat.le_of_ble_eq_true rfl⟩) ⟨xk_blind, xk_pre hK hN hPc hDc⟩ rfl rfl hl.1 rfl (lv_room (Nat.le_of_ble_eq_true rfl)) dX5_picture_19 ⟨Nat.le_of_ble_eq_true rfl, Nat.le_of_ble_eq_true rfl⟩) hP hD hS hA [] [0, 1, 2] [0, 1, 2] rfl rfl (by decide) (by decide) rfl (by decide) (fun H locs hP hD hS => ?_)
  refine lv_if_ne (tgt := 27) hx hb dX5_picture_22 (by decide) (fun c_22 => ?_) (fun c_22 => xk_ab c_22 (bI_nz.mpr ⟨rg_lo (lo := 1) (by omega) (by omega), rg_hi (hi := 24) (by omega) (by omega)⟩))
  have c_22 := bI_nz.mp c_22
  refine lv_aload_n hx hb dX5_picture_27 rfl (lv_at hl 0 rfl) ?_
  refine lv_iload_n hx hb dX5_picture_28 rfl (lv_at hl 1 rfl) ?_
  refine va_put (D := D) (ci := 5) (v := .int (nI W2)) (ty := .int) (C := RX5) (T := TX5) (N := 19) hx hb hts in_X5_picture_ok_X5 tyX5 tyX5_ok nmX5 hown hK hP hD hS 0 rfl rfl 1 (by decide) hf7 (fun _ h9 => h9) rfl (by decide +kernel) (rfl) (rfl) (Nat.le_of_ble_eq_true rfl) dX5_picture_29 (fun H locs hP hD hS => ?_)
  have hP : va_P D vwCl [(a0, .inr (5, [.int 0, .int (nI W2), .int (nI Hh), .int (nI nn), .int na, .int nb, .int rk, .int pr, .int bk, .ref a1, .ref a2, .ref a3, .ref a4, .ref a5, .ref a6, .ref a7, .int lo, .long bt, .long bb])), (a1, .inl (cyI, 576, .inl g)), (a4, .inl (cyZ, 576, .inl ln))] H := hP
  have hD : va_D A [(a0, .inr (5, [.int 0, .int (nI W2), .int (nI Hh), .int (nI nn), .int na, .int nb, .int rk, .int pr, .int bk, .ref a1, .ref a2, .ref a3, .ref a4, .ref a5, .ref a6, .ref a7, .int lo, .long bt, .long bb])), (a1, .inl (cyI, 576, .inl g)), (a4, .inl (cyZ, 576, .inl ln))] := hD
  refine lv_aload_n hx hb dX5_picture_32 rfl (lv_at hl 0 rfl) ?_
  refine lv_iload_n hx hb dX5_picture_33 rfl (lv_at hl 2 rfl) ?_
  refine va_put (D := D) (ci := 5) (v := .int (nI H2)) (ty := .int) (C := RX5) (T := TX5) (N := 19) hx hb hts in_X5_picture_ok_X5 tyX5 tyX5_ok nmX5 hown hK hP hD hS 0 rfl rfl 2 (by decide) hf13 (fun _ h9 => h9) rfl (by decide +kernel) (rfl) (rfl) (Nat.le_of_ble_eq_true rfl) dX5_picture_34 (fun H locs hP hD hS => ?_)
  have hP : va_P D vwCl [(a0, .inr (5, [.int 0, .int (nI W2), .int (nI H2), .int (nI nn), .int na, .int nb, .int rk, .int pr, .int bk, .ref a1, .ref a2, .ref a3, .ref a4, .ref a5, .ref a6, .ref a7, .int lo, .long bt, .long bb])), (a1, .inl (cyI, 576, .inl g)), (a4, .inl (cyZ, 576, .inl ln))] H := hP
  have hD : va_D A [(a0, .inr (5, [.int 0, .int (nI W2), .int (nI H2), .int (nI nn), .int na, .int nb, .int rk, .int pr, .int bk, .ref a1, .ref a2, .ref a3, .ref a4, .ref a5, .ref a6, .ref a7, .int lo, .long bt, .long bb])), (a1, .inl (cyI, 576, .inl g)), (a4, .inl (cyZ, 576, .inl ln))] := hD
  refine lv_iconst (v := 0) hx hb dX5_picture_37 (by decide) ?_
  refine lv_istore_n (lv' := [(3, .int 0), (0, .ref a0), (1, .int (nI W2)), (2, .int (nI H2))]) hx hb dX5_picture_38 rfl hl (by decide) rfl (fun ls hl => ?_)
  have L39 : ∀ (n k : Nat), k + n = 576 → ∀ (H : Heap) (locs : List Loc) (ls : Array Slot), va_P D vwCl [(a0, .inr (5, [.int 0, .int (nI W2), .int (nI H2), .int (nI nn), .int na, .int nb, .int rk, .int pr, .int bk, .ref a1, .ref a2, .ref a3, .ref a4, .ref a5, .ref a6, .ref a7, .int lo, .long bt, .long bb])), (a1, .inl (cyI, 576, .inl (zr k g))), (a4, .inl (cyZ, 576, .inl (zr k ln)))] H → va_D A [(a0, .inr (5, [.int 0, .int (nI W2), .int (nI H2), .int (nI nn), .int na, .int nb, .int rk, .int pr, .int bk, .ref a1, .ref a2, .ref a3, .ref a4, .ref a5, .ref a6, .ref a7, .int lo, .long bt, .long bb])), (a1, .inl (cyI, 576, .inl (zr k g))), (a4, .inl (cyZ, 576, .inl (zr k ln)))] → va_S A s.heap H locs → lv_has ls 4 [(0, .ref a0), (1, .int (nI W2)), (2, .int (nI H2)), (3, .int (nI k))] → W p l e rm_X5_picture_ok s m ([.ref a0, .int (nI W2), .int (nI H2)] : List Value).toArray below meth c H locs 0 0 (MQ below (xk_Qi D A 1 [(a0, .inr (5, [.int 0, .int (nI W2), .int (nI H2), .int (nI nn), .int na, .int nb, .int rk, .int pr, .int bk, .ref a1, .ref a2, .ref a3, .ref a4, .ref a5, .ref a6, .ref a7, .int lo, .long bt, .long bb])), (a1, .inl (cyI, 576, .inl (zr 576 g))), (a4, .inl (cyZ, 576, .inl (zr 576 ln)))]) ([.ref a0, .int (nI W2), .int (nI H2)] : List Value).toArray s 0 0 A) (F0 m 39 ls []) := by
    intro n
    induction n with
    | zero =>
      intro k hk_39  H locs ls hP hD hS hl
      have hz_39 : 576 = k := hk_39.symm
      subst hz_39
      refine lv_iload_n hx hb dX5_picture_39 rfl (lv_at hl 3 rfl) ?_
      refine lv_sipush (v := 576) hx hb dX5_picture_40 (by decide) ?_
      refine lv_icmp_ge (tgt := 66) hx hb dX5_picture_43 (by decide) (fun c_43 => ?_) (fun c_43 => xk_ba c_43 (nI_le (Nat.le_refl _) (by decide)))
      refine lv_iconst (v := 1) hx hb dX5_picture_66 (by decide) ?_
      exact xk_zret hx hb hr hlocks hP hD hS (rfl) (rfl) (rfl) dX5_picture_67
    | succ n ih_39 =>
      intro k hk_39  H locs ls hP hD hS hl
      refine lv_iload_n hx hb dX5_picture_39 rfl (lv_at hl 3 rfl) ?_
      refine lv_sipush (v := 576) hx hb dX5_picture_40 (by decide) ?_
      refine lv_icmp_ge (tgt := 66) hx hb dX5_picture_43 (by decide) (fun c_43 => xk_ab c_43 (nI_ge (b := 576) (by omega) (by decide))) (fun c_43 => ?_)
      refine lv_aload_n hx hb dX5_picture_46 rfl (lv_at hl 0 rfl) ?_
      refine va_get (D := D) (ci := 5) (v := .ref a1) (C := RX5) (T := TX5) (N := 19) hx hb hts in_X5_picture_ok_X5 hown hK hP 0 rfl rfl 9 (by decide) hf28 (fun _ h9 => h9) rfl dX5_picture_47 ?_
      refine lv_iload_n hx hb dX5_picture_50 rfl (lv_at hl 3 rfl) ?_
      refine lv_iconst (v := 0) hx hb dX5_picture_51 (by decide) ?_
      refine xk_iast (w2 := [(a0, .inr (5, [.int 0, .int (nI W2), .int (nI H2), .int (nI nn), .int na, .int nb, .int rk, .int pr, .int bk, .ref a1, .ref a2, .ref a3, .ref a4, .ref a5, .ref a6, .ref a7, .int lo, .long bt, .long bb])), (a1, .inl (cyI, 576, .inl (upd (zr k g) k 0))), (a4, .inl (cyZ, 576, .inl (zr k ln)))]) hx hb hK hP hD hS 1 rfl k (rfl) (by omega) (by decide) rfl dX5_picture_52 (fun H locs hP hD hS => ?_)
      refine lv_aload_n hx hb dX5_picture_53 rfl (lv_at hl 0 rfl) ?_
      refine va_get (D := D) (ci := 5) (v := .ref a4) (C := RX5) (T := TX5) (N := 19) hx hb hts in_X5_picture_ok_X5 hown hK hP 0 rfl rfl 12 (by decide) hf38 (fun _ h9 => h9) rfl dX5_picture_54 ?_
      refine lv_iload_n hx hb dX5_picture_57 rfl (lv_at hl 3 rfl) ?_
      refine lv_iconst (v := 0) hx hb dX5_picture_58 (by decide) ?_
      refine xk_zast (w2 := [(a0, .inr (5, [.int 0, .int (nI W2), .int (nI H2), .int (nI nn), .int na, .int nb, .int rk, .int pr, .int bk, .ref a1, .ref a2, .ref a3, .ref a4, .ref a5, .ref a6, .ref a7, .int lo, .long bt, .long bb])), (a1, .inl (cyI, 576, .inl (upd (zr k g) k 0))), (a4, .inl (cyZ, 576, .inl (upd (zr k ln) k 0)))]) hx hb hK hP hD hS 2 rfl k (rfl) (by omega) (by decide) (rfl) rfl dX5_picture_59 (fun H locs hP hD hS => ?_)
      refine lv_iinc (v := nI (k + 1)) (lv' := [(3, .int (nI (k + 1))), (0, .ref a0), (1, .int (nI W2)), (2, .int (nI H2))]) hx hb dX5_picture_60 hl (k := 3) rfl (nI_1 _) (by decide) rfl (fun ls hl => ?_)
      refine lv_goto (tgt := 39) hx hb dX5_picture_63 (by decide) ?_
      have eq_62 : (upd (zr k g) k 0 : Nat → Int32) = zr (k + 1) g := zr_s k g
      have eq_63 : (upd (zr k ln) k 0 : Nat → Int32) = zr (k + 1) ln := zr_s k ln
      have eW : ([(a0, .inr (5, [.int 0, .int (nI W2), .int (nI H2), .int (nI nn), .int na, .int nb, .int rk, .int pr, .int bk, .ref a1, .ref a2, .ref a3, .ref a4, .ref a5, .ref a6, .ref a7, .int lo, .long bt, .long bb])), (a1, .inl (cyI, 576, .inl (upd (zr k g) k 0))), (a4, .inl (cyZ, 576, .inl (upd (zr k ln) k 0)))] : va_W) = [(a0, .inr (5, [.int 0, .int (nI W2), .int (nI H2), .int (nI nn), .int na, .int nb, .int rk, .int pr, .int bk, .ref a1, .ref a2, .ref a3, .ref a4, .ref a5, .ref a6, .ref a7, .int lo, .long bt, .long bb])), (a1, .inl (cyI, 576, .inl (zr (k + 1) g))), (a4, .inl (cyZ, 576, .inl (zr (k + 1) ln)))] := (congrArg (List.cons _) (congr (congrArg List.cons (congrArg (fun z => ((a1, (Sum.inl (cyI, 576, Sum.inl z) : va_E)) : Nat × va_E)) eq_62)) (congr (congrArg List.cons (congrArg (fun z => ((a4, (Sum.inl (cyZ, 576, Sum.inl z) : va_E)) : Nat × va_E)) eq_63)) rfl)))
      rw [eW] at hP hD
      have hl := lv_sub (l' := [(0, .ref a0), (1, .int (nI W2)), (2, .int (nI H2)), (3, .int (nI (k + 1)))]) hl [1, 2, 3, 0] rfl
      exact ih_39 (k + 1) (by omega)  _ _ _ hP hD hS hl
  have eq_68 : (0 : Int32) = nI 0 := rfl
  have eq_69 : (g : Nat → Int32) = zr 0 g := (zr_0 g).symm
  have eq_70 : (ln : Nat → Int32) = zr 0 ln := (zr_0 ln).symm
  have eW : ([(a0, .inr (5, [.int 0, .int (nI W2), .int (nI H2), .int (nI nn), .int na, .int nb, .int rk, .int pr, .int bk, .ref a1, .ref a2, .ref a3, .ref a4, .ref a5, .ref a6, .ref a7, .int lo, .long bt, .long bb])), (a1, .inl (cyI, 576, .inl g)), (a4, .inl (cyZ, 576, .inl ln))] : va_W) = [(a0, .inr (5, [.int 0, .int (nI W2), .int (nI H2), .int (nI nn), .int na, .int nb, .int rk, .int pr, .int bk, .ref a1, .ref a2, .ref a3, .ref a4, .ref a5, .ref a6, .ref a7, .int lo, .long bt, .long bb])), (a1, .inl (cyI, 576, .inl (zr 0 g))), (a4, .inl (cyZ, 576, .inl (zr 0 ln)))] := (congrArg (List.cons _) (congr (congrArg List.cons (congrArg (fun z => ((a1, (Sum.inl (cyI, 576, Sum.inl z) : va_E)) : Nat × va_E)) eq_69)) (congr (congrArg List.cons (congrArg (fun z => ((a4, (Sum.inl (cyZ, 576, Sum.inl z) : va_E)) : Nat × va_E)) eq_70)) rfl)))
  rw [eW] at hP hD
  have hl := lv_sub (l' := [(0, .ref a0), (1, .int (nI W2)), (2, .int (nI H2)), (3, .int 0)]) hl [1, 2, 3, 0] rfl
  have eL : ([(0, .ref a0), (1, .int (nI W2)), (2, .int (nI H2)), (3, .int 0)] : List (Nat × Value)) = [(0, .ref a0), (1, .int (nI W2)), (2, .int (nI H2)), (3, .int (nI 0))] := (congrArg (List.cons _) (congrArg (List.cons _) (congrArg (List.cons _) (congr (congrArg List.cons (congrArg (fun z => (((3 : Nat), Value.int z) : Nat × Value)) eq_68)) rfl))))
  rw [eL] at hl
  exact L39 _ 0 (Nat.zero_add _)  _ _ _ hP hD hS hl

abbrev rm_X5_shade_no : Room := { frames := 2, cells := 0, slots := 0, locals := 44 }
theorem in_X5_shade_no_X5 : ∀ w ∈ u_ws RX5 TX5 19, w ∈ wsX5_shade := by decide +kernel
set_option maxHeartbeats 4000000 in
set_option maxRecDepth 100000 in
theorem ct_X5_shade_no (l : Launch) (D : va_G) (cyI cyZ : ClassId) (a0 a1 a2 a3 a4 a5 a6 a7 : Nat) (sz : Nat) (th : Int32) (Wd Hh nn : Nat) (na nb rk pr bk lo : Int32) (bt bb : Int64) (g : Nat → Int32) (x y v : Int32) (hw1 : 1 ≤ Wd) (hw2 : Wd ≤ 24) (hh1 : 1 ≤ Hh) (hh2 : Hh ≤ 24) (hno : ¬ (sh_has Wd Hh x y ∧ ¬ v < 0 ∧ ¬ 255 < v)) : Met l yX5_shade wsX5_shade rm_X5_shade_no (xk_Pc D cyI cyZ [.ref a0, .int x, .int y, .int v] [(a0, .inr (5, [.int th, .int (nI Wd), .int (nI Hh), .int (nI nn), .int na, .int nb, .int rk, .int pr, .int bk, .ref a1, .ref a2, .ref a3, .ref a4, .ref a5, .ref a6, .ref a7, .int lo, .long bt, .long bb])), (a1, .inl (cyI, 576, .inl g))] sz) (xk_Qi D (va_A [(a0, .inr (5, [.int th, .int (nI Wd), .int (nI Hh), .int (nI nn), .int na, .int nb, .int rk, .int pr, .int bk, .ref a1, .ref a2, .ref a3, .ref a4, .ref a5, .ref a6, .ref a7, .int lo, .long bt, .long bb])), (a1, .inl (cyI, 576, .inl g))] sz) 0 [(a0, .inr (5, [.int 0, .int (nI Wd), .int (nI Hh), .int (nI nn), .int na, .int nb, .int rk, .int pr, .int bk, .ref a1, .ref a2, .ref a3, .ref a4, .ref a5, .ref a6, .ref a7, .int lo, .long bt, .long bb])), (a1, .inl (cyI, 576, .inl g))]) 0 0 (va_A [(a0, .inr (5, [.int th, .int (nI Wd), .int (nI Hh), .int (nI nn), .int na, .int nb, .int rk, .int pr, .int bk, .ref a1, .ref a2, .ref a3, .ref a4, .ref a5, .ref a6, .ref a7, .int lo, .long bt, .long bb])), (a1, .inl (cyI, 576, .inl g))] sz) := by
  refine xk_of (own := RX5) (cc := cX5_shade) (maxL := 4) (ret := (some .boolean)) (Qc := fun A => xk_Qi D A 0 [(a0, .inr (5, [.int 0, .int (nI Wd), .int (nI Hh), .int (nI nn), .int na, .int nb, .int rk, .int pr, .int bk, .ref a1, .ref a2, .ref a3, .ref a4, .ref a5, .ref a6, .ref a7, .int lo, .long bt, .long bb])), (a1, .inl (cyI, 576, .inl g))]) (by decide) rfl rfl (Nat.le_of_ble_eq_true rfl) ?_
  intro p e s m below meth c A ls hx hb hr hml hown hlocks hin hts hA hP hK hN hD hS hl
  have hC0 := xk_fix hx hb hml hown hts
  have hl : lv_has ls 4 [(0, .ref a0), (1, .int x), (2, .int y), (3, .int v)] := hl
  have hf51 := hts (.fieldLink RX5 51 "DotPressModel" "thrown" "I") (by decide +kernel)
  refine lv_aload_n hx hb dX5_shade_0 rfl (lv_at hl 0 rfl) ?_
  refine lv_iconst (v := 0) hx hb dX5_shade_1 (by decide) ?_
  refine va_put (D := D) (ci := 5) (v := .int 0) (ty := .int) (C := RX5) (T := TX5) (N := 19) hx hb hts in_X5_shade_no_X5 tyX5 tyX5_ok nmX5 hown hK hP hD hS 0 rfl rfl 0 (by decide) hf51 (fun _ h9 => h9) rfl (by decide +kernel) (rfl) (rfl) (Nat.le_of_ble_eq_true rfl) dX5_shade_2 (fun H locs hP hD hS => ?_)
  have hP : va_P D vwCl [(a0, .inr (5, [.int 0, .int (nI Wd), .int (nI Hh), .int (nI nn), .int na, .int nb, .int rk, .int pr, .int bk, .ref a1, .ref a2, .ref a3, .ref a4, .ref a5, .ref a6, .ref a7, .int lo, .long bt, .long bb])), (a1, .inl (cyI, 576, .inl g))] H := hP
  have hD : va_D A [(a0, .inr (5, [.int 0, .int (nI Wd), .int (nI Hh), .int (nI nn), .int na, .int nb, .int rk, .int pr, .int bk, .ref a1, .ref a2, .ref a3, .ref a4, .ref a5, .ref a6, .ref a7, .int lo, .long bt, .long bb])), (a1, .inl (cyI, 576, .inl g))] := hD
  refine lv_aload_n hx hb dX5_shade_5 rfl (lv_at hl 0 rfl) ?_
  refine lv_iload_n hx hb dX5_shade_6 rfl (lv_at hl 1 rfl) ?_
  refine lv_iload_n hx hb dX5_shade_7 rfl (lv_at hl 2 rfl) ?_
  have hPc := hP.sub (ws' := [(a0, .inr (5, [.int 0, .int (nI Wd), .int (nI Hh), .int (nI nn), .int na, .int nb, .int rk, .int pr, .int bk, .ref a1, .ref a2, .ref a3, .ref a4, .ref a5, .ref a6, .ref a7, .int lo, .long bt, .long bb]))]) [0] rfl
  have hDc := hD.sub (ws' := [(a0, .inr (5, [.int 0, .int (nI Wd), .int (nI Hh), .int (nI nn), .int na, .int nb, .int rk, .int pr, .int bk, .ref a1, .ref a2, .ref a3, .ref a4, .ref a5, .ref a6, .ref a7, .int lo, .long bt, .long bb]))]) [0] (by decide) rfl
  refine xk_calli (wr := [(a1, .inl (cyI, 576, .inl g))]) (w2 := [(a0, .inr (5, [.int 0, .int (nI Wd), .int (nI Hh), .int (nI nn), .int na, .int nb, .int rk, .int pr, .int bk, .ref a1, .ref a2, .ref a3, .ref a4, .ref a5, .ref a6, .ref a7, .int lo, .long bt, .long bb])), (a1, .inl (cyI, 576, .inl g))]) (va_runV (As := [.int x, .int y]) (rest := []) hC0 (ct_X5_isPlace l D cyI cyZ a0 a1 a2 a3 a4 a5 a6 a7 _ 0 Wd Hh nn na nb rk pr bk lo bt bb x y (by first | assumption | omega) (by first | assumption | omega) (by first | assumption | omega) (by first | assumption | omega)) (cwV 2 hts gX5_shade_X5_isPlace rfl rfl rfl (by decide +kernel) ⟨Nat.le_of_ble_eq_true rfl, Nat.le_of_ble_eq_true rfl⟩) ⟨xk_blind, va_recv hK hPc (ci := 5) (q0 := 0) rfl rfl, xk_pre hK hN hPc hDc⟩ rfl rfl hl.1 rfl (lv_room (Nat.le_of_ble_eq_true rfl)) dX5_shade_8 ⟨Nat.le_of_ble_eq_true rfl, Nat.le_of_ble_eq_true rfl⟩) hP hD hS hA [0] [1] [1, 0] rfl rfl (by decide) (by decide) rfl (by decide) (fun H locs hP hD hS => ?_)
  refine lv_if_eq (tgt := 25) hx hb dX5_shade_11 (by decide) (fun c_11 => ?_) (fun c_11 => ?_)
  · have c_11 := bI_z.mp c_11
    refine lv_iconst (v := 0) hx hb dX5_shade_25 (by decide) ?_
    exact xk_zret hx hb hr hlocks hP hD hS (rfl) (rfl) (rfl) dX5_shade_26
  · have c_11 := bI_nz.mp c_11
    refine lv_iload_n hx hb dX5_shade_14 rfl (lv_at hl 3 rfl) ?_
    refine lv_iconst (v := 0) hx hb dX5_shade_15 (by decide) ?_
    refine lv_sipush (v := 255) hx hb dX5_shade_16 (by decide) ?_
    have hPc := hP.sub (ws' := []) [] rfl
    have hDc := hD.sub (ws' := []) [] (by decide) rfl
    refine xk_calli (wr := [(a0, .inr (5, [.int 0, .int (nI Wd), .int (nI Hh), .int (nI nn), .int na, .int nb, .int rk, .int pr, .int bk, .ref a1, .ref a2, .ref a3, .ref a4, .ref a5, .ref a6, .ref a7, .int lo, .long bt, .long bb])), (a1, .inl (cyI, 576, .inl g))]) (w2 := [(a0, .inr (5, [.int 0, .int (nI Wd), .int (nI Hh), .int (nI nn), .int na, .int nb, .int rk, .int pr, .int bk, .ref a1, .ref a2, .ref a3, .ref a4, .ref a5, .ref a6, .ref a7, .int lo, .long bt, .long bb])), (a1, .inl (cyI, 576, .inl g))]) (va_runS (As := [.int v, .int 0, .int 255]) (rest := []) hC0 (ct_X5_isIn l D cyI cyZ  _ v 0 255 ) (va_cwS 3 hts gX5_shade_X5_isIn rfl rfl rfl (by decide +kernel) ⟨Nat.le_of_ble_eq_true rfl, Nat.le_of_ble_eq_true rfl⟩) ⟨xk_blind, xk_pre hK hN hPc hDc⟩ rfl rfl hl.1 rfl (lv_room (Nat.le_of_ble_eq_true rfl)) dX5_shade_19 ⟨Nat.le_of_ble_eq_true rfl, Nat.le_of_ble_eq_true rfl⟩) hP hD hS hA [] [0, 1] [0, 1] rfl rfl (by decide) (by decide) rfl (by decide) (fun H locs hP hD hS => ?_)
    refine lv_if_ne (tgt := 27) hx hb dX5_shade_22 (by decide) (fun c_22 => ?_) (fun c_22 => ?_)
    · have c_22 := bI_nz.mp c_22
      exact absurd ⟨c_11, c_22⟩ hno
    · have c_22 := bI_z.mp c_22
      refine lv_iconst (v := 0) hx hb dX5_shade_25 (by decide) ?_
      exact xk_zret hx hb hr hlocks hP hD hS (rfl) (rfl) (rfl) dX5_shade_26

abbrev rm_X5_shade_ok : Room := { frames := 2, cells := 0, slots := 0, locals := 44 }
theorem in_X5_shade_ok_X5 : ∀ w ∈ u_ws RX5 TX5 19, w ∈ wsX5_shade := by decide +kernel
set_option maxHeartbeats 4000000 in
set_option maxRecDepth 100000 in
theorem ct_X5_shade_ok (l : Launch) (D : va_G) (cyI cyZ : ClassId) (a0 a1 a2 a3 a4 a5 a6 a7 : Nat) (sz : Nat) (th : Int32) (Wd Hh nn : Nat) (na nb rk pr bk lo : Int32) (bt bb : Int64) (g : Nat → Int32) (jx jy : Nat) (v : Int32) (hw1 : 1 ≤ Wd) (hw2 : Wd ≤ 24) (hh1 : 1 ≤ Hh) (hh2 : Hh ≤ 24) (hx0 : jx < Wd) (hy0 : jy < Hh) (hv : ¬ v < 0 ∧ ¬ 255 < v) : Met l yX5_shade wsX5_shade rm_X5_shade_ok (xk_Pc D cyI cyZ [.ref a0, .int (nI jx), .int (nI jy), .int v] [(a0, .inr (5, [.int th, .int (nI Wd), .int (nI Hh), .int (nI nn), .int na, .int nb, .int rk, .int pr, .int bk, .ref a1, .ref a2, .ref a3, .ref a4, .ref a5, .ref a6, .ref a7, .int lo, .long bt, .long bb])), (a1, .inl (cyI, 576, .inl g))] sz) (xk_Qi D (va_A [(a0, .inr (5, [.int th, .int (nI Wd), .int (nI Hh), .int (nI nn), .int na, .int nb, .int rk, .int pr, .int bk, .ref a1, .ref a2, .ref a3, .ref a4, .ref a5, .ref a6, .ref a7, .int lo, .long bt, .long bb])), (a1, .inl (cyI, 576, .inl g))] sz) 1 [(a0, .inr (5, [.int 0, .int (nI Wd), .int (nI Hh), .int (nI nn), .int na, .int nb, .int rk, .int pr, .int bk, .ref a1, .ref a2, .ref a3, .ref a4, .ref a5, .ref a6, .ref a7, .int lo, .long bt, .long bb])), (a1, .inl (cyI, 576, .inl (upd g (jy * 24 + jx) v)))]) 0 0 (va_A [(a0, .inr (5, [.int th, .int (nI Wd), .int (nI Hh), .int (nI nn), .int na, .int nb, .int rk, .int pr, .int bk, .ref a1, .ref a2, .ref a3, .ref a4, .ref a5, .ref a6, .ref a7, .int lo, .long bt, .long bb])), (a1, .inl (cyI, 576, .inl g))] sz) := by
  refine xk_of (own := RX5) (cc := cX5_shade) (maxL := 4) (ret := (some .boolean)) (Qc := fun A => xk_Qi D A 1 [(a0, .inr (5, [.int 0, .int (nI Wd), .int (nI Hh), .int (nI nn), .int na, .int nb, .int rk, .int pr, .int bk, .ref a1, .ref a2, .ref a3, .ref a4, .ref a5, .ref a6, .ref a7, .int lo, .long bt, .long bb])), (a1, .inl (cyI, 576, .inl (upd g (jy * 24 + jx) v)))]) (by decide) rfl rfl (Nat.le_of_ble_eq_true rfl) ?_
  intro p e s m below meth c A ls hx hb hr hml hown hlocks hin hts hA hP hK hN hD hS hl
  have hC0 := xk_fix hx hb hml hown hts
  have hl : lv_has ls 4 [(0, .ref a0), (1, .int (nI jx)), (2, .int (nI jy)), (3, .int v)] := hl
  have hf28 := hts (.fieldLink RX5 28 "DotPressModel" "shade" "[I") (by decide +kernel)
  have hf51 := hts (.fieldLink RX5 51 "DotPressModel" "thrown" "I") (by decide +kernel)
  refine lv_aload_n hx hb dX5_shade_0 rfl (lv_at hl 0 rfl) ?_
  refine lv_iconst (v := 0) hx hb dX5_shade_1 (by decide) ?_
  refine va_put (D := D) (ci := 5) (v := .int 0) (ty := .int) (C := RX5) (T := TX5) (N := 19) hx hb hts in_X5_shade_ok_X5 tyX5 tyX5_ok nmX5 hown hK hP hD hS 0 rfl rfl 0 (by decide) hf51 (fun _ h9 => h9) rfl (by decide +kernel) (rfl) (rfl) (Nat.le_of_ble_eq_true rfl) dX5_shade_2 (fun H locs hP hD hS => ?_)
  have hP : va_P D vwCl [(a0, .inr (5, [.int 0, .int (nI Wd), .int (nI Hh), .int (nI nn), .int na, .int nb, .int rk, .int pr, .int bk, .ref a1, .ref a2, .ref a3, .ref a4, .ref a5, .ref a6, .ref a7, .int lo, .long bt, .long bb])), (a1, .inl (cyI, 576, .inl g))] H := hP
  have hD : va_D A [(a0, .inr (5, [.int 0, .int (nI Wd), .int (nI Hh), .int (nI nn), .int na, .int nb, .int rk, .int pr, .int bk, .ref a1, .ref a2, .ref a3, .ref a4, .ref a5, .ref a6, .ref a7, .int lo, .long bt, .long bb])), (a1, .inl (cyI, 576, .inl g))] := hD
  refine lv_aload_n hx hb dX5_shade_5 rfl (lv_at hl 0 rfl) ?_
  refine lv_iload_n hx hb dX5_shade_6 rfl (lv_at hl 1 rfl) ?_
  refine lv_iload_n hx hb dX5_shade_7 rfl (lv_at hl 2 rfl) ?_
  have hPc := hP.sub (ws' := [(a0, .inr (5, [.int 0, .int (nI Wd), .int (nI Hh), .int (nI nn), .int na, .int nb, .int rk, .int pr, .int bk, .ref a1, .ref a2, .ref a3, .ref a4, .ref a5, .ref a6, .ref a7, .int lo, .long bt, .long bb]))]) [0] rfl
  have hDc := hD.sub (ws' := [(a0, .inr (5, [.int 0, .int (nI Wd), .int (nI Hh), .int (nI nn), .int na, .int nb, .int rk, .int pr, .int bk, .ref a1, .ref a2, .ref a3, .ref a4, .ref a5, .ref a6, .ref a7, .int lo, .long bt, .long bb]))]) [0] (by decide) rfl
  refine xk_calli (wr := [(a1, .inl (cyI, 576, .inl g))]) (w2 := [(a0, .inr (5, [.int 0, .int (nI Wd), .int (nI Hh), .int (nI nn), .int na, .int nb, .int rk, .int pr, .int bk, .ref a1, .ref a2, .ref a3, .ref a4, .ref a5, .ref a6, .ref a7, .int lo, .long bt, .long bb])), (a1, .inl (cyI, 576, .inl g))]) (va_runV (As := [.int (nI jx), .int (nI jy)]) (rest := []) hC0 (ct_X5_isPlace l D cyI cyZ a0 a1 a2 a3 a4 a5 a6 a7 _ 0 Wd Hh nn na nb rk pr bk lo bt bb (nI jx) (nI jy) (by first | assumption | omega) (by first | assumption | omega) (by first | assumption | omega) (by first | assumption | omega)) (cwV 2 hts gX5_shade_X5_isPlace rfl rfl rfl (by decide +kernel) ⟨Nat.le_of_ble_eq_true rfl, Nat.le_of_ble_eq_true rfl⟩) ⟨xk_blind, va_recv hK hPc (ci := 5) (q0 := 0) rfl rfl, xk_pre hK hN hPc hDc⟩ rfl rfl hl.1 rfl (lv_room (Nat.le_of_ble_eq_true rfl)) dX5_shade_8 ⟨Nat.le_of_ble_eq_true rfl, Nat.le_of_ble_eq_true rfl⟩) hP hD hS hA [0] [1] [1, 0] rfl rfl (by decide) (by decide) rfl (by decide) (fun H locs hP hD hS => ?_)
  refine lv_if_eq (tgt := 25) hx hb dX5_shade_11 (by decide) (fun c_11 => xk_ab c_11 (bI_nz.mpr (sh_has_in hw2 hh2 hx0 hy0))) (fun c_11 => ?_)
  have c_11 := bI_nz.mp c_11
  refine lv_iload_n hx hb dX5_shade_14 rfl (lv_at hl 3 rfl) ?_
  refine lv_iconst (v := 0) hx hb dX5_shade_15 (by decide) ?_
  refine lv_sipush (v := 255) hx hb dX5_shade_16 (by decide) ?_
  have hPc := hP.sub (ws' := []) [] rfl
  have hDc := hD.sub (ws' := []) [] (by decide) rfl
  refine xk_calli (wr := [(a0, .inr (5, [.int 0, .int (nI Wd), .int (nI Hh), .int (nI nn), .int na, .int nb, .int rk, .int pr, .int bk, .ref a1, .ref a2, .ref a3, .ref a4, .ref a5, .ref a6, .ref a7, .int lo, .long bt, .long bb])), (a1, .inl (cyI, 576, .inl g))]) (w2 := [(a0, .inr (5, [.int 0, .int (nI Wd), .int (nI Hh), .int (nI nn), .int na, .int nb, .int rk, .int pr, .int bk, .ref a1, .ref a2, .ref a3, .ref a4, .ref a5, .ref a6, .ref a7, .int lo, .long bt, .long bb])), (a1, .inl (cyI, 576, .inl g))]) (va_runS (As := [.int v, .int 0, .int 255]) (rest := []) hC0 (ct_X5_isIn l D cyI cyZ  _ v 0 255 ) (va_cwS 3 hts gX5_shade_X5_isIn rfl rfl rfl (by decide +kernel) ⟨Nat.le_of_ble_eq_true rfl, Nat.le_of_ble_eq_true rfl⟩) ⟨xk_blind, xk_pre hK hN hPc hDc⟩ rfl rfl hl.1 rfl (lv_room (Nat.le_of_ble_eq_true rfl)) dX5_shade_19 ⟨Nat.le_of_ble_eq_true rfl, Nat.le_of_ble_eq_true rfl⟩) hP hD hS hA [] [0, 1] [0, 1] rfl rfl (by decide) (by decide) rfl (by decide) (fun H locs hP hD hS => ?_)
  refine lv_if_ne (tgt := 27) hx hb dX5_shade_22 (by decide) (fun c_22 => ?_) (fun c_22 => xk_ab c_22 (bI_nz.mpr hv))
  have c_22 := bI_nz.mp c_22
  refine lv_aload_n hx hb dX5_shade_27 rfl (lv_at hl 0 rfl) ?_
  refine va_get (D := D) (ci := 5) (v := .ref a1) (C := RX5) (T := TX5) (N := 19) hx hb hts in_X5_shade_ok_X5 hown hK hP 0 rfl rfl 9 (by decide) hf28 (fun _ h9 => h9) rfl dX5_shade_28 ?_
  refine lv_bipush (v := 24) hx hb dX5_shade_31 (by decide) ?_
  refine lv_iload_n hx hb dX5_shade_33 rfl (lv_at hl 2 rfl) ?_
  refine lv_imul hx hb dX5_shade_34 ?_
  refine lv_iload_n hx hb dX5_shade_35 rfl (lv_at hl 1 rfl) ?_
  refine lv_iadd hx hb dX5_shade_36 ?_
  refine lv_iload_n hx hb dX5_shade_37 rfl (lv_at hl 3 rfl) ?_
  refine xk_iast (w2 := [(a0, .inr (5, [.int 0, .int (nI Wd), .int (nI Hh), .int (nI nn), .int na, .int nb, .int rk, .int pr, .int bk, .ref a1, .ref a2, .ref a3, .ref a4, .ref a5, .ref a6, .ref a7, .int lo, .long bt, .long bb])), (a1, .inl (cyI, 576, .inl (upd g (jy * 24 + jx) v)))]) hx hb hK hP hD hS 1 rfl (jy * 24 + jx) (md_spot jx jy) (by omega) (by decide) rfl dX5_shade_38 (fun H locs hP hD hS => ?_)
  refine lv_iconst (v := 1) hx hb dX5_shade_39 (by decide) ?_
  exact xk_zret hx hb hr hlocks hP hD hS (rfl) (rfl) (rfl) dX5_shade_40

abbrev rm_X5_line_no : Room := { frames := 2, cells := 0, slots := 0, locals := 44 }
theorem in_X5_line_no_X5 : ∀ w ∈ u_ws RX5 TX5 19, w ∈ wsX5_line := by decide +kernel
set_option maxHeartbeats 4000000 in
set_option maxRecDepth 100000 in
theorem ct_X5_line_no (l : Launch) (D : va_G) (cyI cyZ : ClassId) (a0 a1 a2 a3 a4 a5 a6 a7 : Nat) (sz : Nat) (th : Int32) (Wd Hh nn : Nat) (na nb rk pr bk lo : Int32) (bt bb : Int64) (ln : Nat → Int32) (x y v : Int32) (hw1 : 1 ≤ Wd) (hw2 : Wd ≤ 24) (hh1 : 1 ≤ Hh) (hh2 : Hh ≤ 24) (hno : ¬ sh_has Wd Hh x y) : Met l yX5_line wsX5_line rm_X5_line_no (xk_Pc D cyI cyZ [.ref a0, .int x, .int y, .int v] [(a0, .inr (5, [.int th, .int (nI Wd), .int (nI Hh), .int (nI nn), .int na, .int nb, .int rk, .int pr, .int bk, .ref a1, .ref a2, .ref a3, .ref a4, .ref a5, .ref a6, .ref a7, .int lo, .long bt, .long bb])), (a4, .inl (cyZ, 576, .inl ln))] sz) (xk_Qi D (va_A [(a0, .inr (5, [.int th, .int (nI Wd), .int (nI Hh), .int (nI nn), .int na, .int nb, .int rk, .int pr, .int bk, .ref a1, .ref a2, .ref a3, .ref a4, .ref a5, .ref a6, .ref a7, .int lo, .long bt, .long bb])), (a4, .inl (cyZ, 576, .inl ln))] sz) 0 [(a0, .inr (5, [.int 0, .int (nI Wd), .int (nI Hh), .int (nI nn), .int na, .int nb, .int rk, .int pr, .int bk, .ref a1, .ref a2, .ref a3, .ref a4, .ref a5, .ref a6, .ref a7, .int lo, .long bt, .long bb])), (a4, .inl (cyZ, 576, .inl ln))]) 0 0 (va_A [(a0, .inr (5, [.int th, .int (nI Wd), .int (nI Hh), .int (nI nn), .int na, .int nb, .int rk, .int pr, .int bk, .ref a1, .ref a2, .ref a3, .ref a4, .ref a5, .ref a6, .ref a7, .int lo, .long bt, .long bb])), (a4, .inl (cyZ, 576, .inl ln))] sz) := by
  refine xk_of (own := RX5) (cc := cX5_line) (maxL := 4) (ret := (some .boolean)) (Qc := fun A => xk_Qi D A 0 [(a0, .inr (5, [.int 0, .int (nI Wd), .int (nI Hh), .int (nI nn), .int na, .int nb, .int rk, .int pr, .int bk, .ref a1, .ref a2, .ref a3, .ref a4, .ref a5, .ref a6, .ref a7, .int lo, .long bt, .long bb])), (a4, .inl (cyZ, 576, .inl ln))]) (by decide) rfl rfl (Nat.le_of_ble_eq_true rfl) ?_
  intro p e s m below meth c A ls hx hb hr hml hown hlocks hin hts hA hP hK hN hD hS hl
  have hC0 := xk_fix hx hb hml hown hts
  have hl : lv_has ls 4 [(0, .ref a0), (1, .int x), (2, .int y), (3, .int v)] := hl
  have hf51 := hts (.fieldLink RX5 51 "DotPressModel" "thrown" "I") (by decide +kernel)
  refine lv_aload_n hx hb dX5_line_0 rfl (lv_at hl 0 rfl) ?_
  refine lv_iconst (v := 0) hx hb dX5_line_1 (by decide) ?_
  refine va_put (D := D) (ci := 5) (v := .int 0) (ty := .int) (C := RX5) (T := TX5) (N := 19) hx hb hts in_X5_line_no_X5 tyX5 tyX5_ok nmX5 hown hK hP hD hS 0 rfl rfl 0 (by decide) hf51 (fun _ h9 => h9) rfl (by decide +kernel) (rfl) (rfl) (Nat.le_of_ble_eq_true rfl) dX5_line_2 (fun H locs hP hD hS => ?_)
  have hP : va_P D vwCl [(a0, .inr (5, [.int 0, .int (nI Wd), .int (nI Hh), .int (nI nn), .int na, .int nb, .int rk, .int pr, .int bk, .ref a1, .ref a2, .ref a3, .ref a4, .ref a5, .ref a6, .ref a7, .int lo, .long bt, .long bb])), (a4, .inl (cyZ, 576, .inl ln))] H := hP
  have hD : va_D A [(a0, .inr (5, [.int 0, .int (nI Wd), .int (nI Hh), .int (nI nn), .int na, .int nb, .int rk, .int pr, .int bk, .ref a1, .ref a2, .ref a3, .ref a4, .ref a5, .ref a6, .ref a7, .int lo, .long bt, .long bb])), (a4, .inl (cyZ, 576, .inl ln))] := hD
  refine lv_aload_n hx hb dX5_line_5 rfl (lv_at hl 0 rfl) ?_
  refine lv_iload_n hx hb dX5_line_6 rfl (lv_at hl 1 rfl) ?_
  refine lv_iload_n hx hb dX5_line_7 rfl (lv_at hl 2 rfl) ?_
  have hPc := hP.sub (ws' := [(a0, .inr (5, [.int 0, .int (nI Wd), .int (nI Hh), .int (nI nn), .int na, .int nb, .int rk, .int pr, .int bk, .ref a1, .ref a2, .ref a3, .ref a4, .ref a5, .ref a6, .ref a7, .int lo, .long bt, .long bb]))]) [0] rfl
  have hDc := hD.sub (ws' := [(a0, .inr (5, [.int 0, .int (nI Wd), .int (nI Hh), .int (nI nn), .int na, .int nb, .int rk, .int pr, .int bk, .ref a1, .ref a2, .ref a3, .ref a4, .ref a5, .ref a6, .ref a7, .int lo, .long bt, .long bb]))]) [0] (by decide) rfl
  refine xk_calli (wr := [(a4, .inl (cyZ, 576, .inl ln))]) (w2 := [(a0, .inr (5, [.int 0, .int (nI Wd), .int (nI Hh), .int (nI nn), .int na, .int nb, .int rk, .int pr, .int bk, .ref a1, .ref a2, .ref a3, .ref a4, .ref a5, .ref a6, .ref a7, .int lo, .long bt, .long bb])), (a4, .inl (cyZ, 576, .inl ln))]) (va_runV (As := [.int x, .int y]) (rest := []) hC0 (ct_X5_isPlace l D cyI cyZ a0 a1 a2 a3 a4 a5 a6 a7 _ 0 Wd Hh nn na nb rk pr bk lo bt bb x y (by first | assumption | omega) (by first | assumption | omega) (by first | assumption | omega) (by first | assumption | omega)) (cwV 2 hts gX5_line_X5_isPlace rfl rfl rfl (by decide +kernel) ⟨Nat.le_of_ble_eq_true rfl, Nat.le_of_ble_eq_true rfl⟩) ⟨xk_blind, va_recv hK hPc (ci := 5) (q0 := 0) rfl rfl, xk_pre hK hN hPc hDc⟩ rfl rfl hl.1 rfl (lv_room (Nat.le_of_ble_eq_true rfl)) dX5_line_8 ⟨Nat.le_of_ble_eq_true rfl, Nat.le_of_ble_eq_true rfl⟩) hP hD hS hA [0] [1] [1, 0] rfl rfl (by decide) (by decide) rfl (by decide) (fun H locs hP hD hS => ?_)
  refine lv_if_eq (tgt := 29) hx hb dX5_line_11 (by decide) (fun c_11 => ?_) (fun c_11 => xk_ba c_11 (bI_z.mpr hno))
  have c_11 := bI_z.mp c_11
  refine lv_iconst (v := 0) hx hb dX5_line_29 (by decide) ?_
  exact xk_zret hx hb hr hlocks hP hD hS (rfl) (rfl) (rfl) dX5_line_30

abbrev rm_X5_line_so : Room := { frames := 2, cells := 0, slots := 0, locals := 44 }
theorem in_X5_line_so_X5 : ∀ w ∈ u_ws RX5 TX5 19, w ∈ wsX5_line := by decide +kernel
set_option maxHeartbeats 4000000 in
set_option maxRecDepth 100000 in
theorem ct_X5_line_so (l : Launch) (D : va_G) (cyI cyZ : ClassId) (a0 a1 a2 a3 a4 a5 a6 a7 : Nat) (sz : Nat) (th : Int32) (Wd Hh nn : Nat) (na nb rk pr bk lo : Int32) (bt bb : Int64) (ln : Nat → Int32) (jx jy : Nat) (v : Int32) (hw1 : 1 ≤ Wd) (hw2 : Wd ≤ 24) (hh1 : 1 ≤ Hh) (hh2 : Hh ≤ 24) (hx0 : jx < Wd) (hy0 : jy < Hh) (hs : ln (jy * 24 + jx) = v) : Met l yX5_line wsX5_line rm_X5_line_so (xk_Pc D cyI cyZ [.ref a0, .int (nI jx), .int (nI jy), .int v] [(a0, .inr (5, [.int th, .int (nI Wd), .int (nI Hh), .int (nI nn), .int na, .int nb, .int rk, .int pr, .int bk, .ref a1, .ref a2, .ref a3, .ref a4, .ref a5, .ref a6, .ref a7, .int lo, .long bt, .long bb])), (a4, .inl (cyZ, 576, .inl ln))] sz) (xk_Qi D (va_A [(a0, .inr (5, [.int th, .int (nI Wd), .int (nI Hh), .int (nI nn), .int na, .int nb, .int rk, .int pr, .int bk, .ref a1, .ref a2, .ref a3, .ref a4, .ref a5, .ref a6, .ref a7, .int lo, .long bt, .long bb])), (a4, .inl (cyZ, 576, .inl ln))] sz) 0 [(a0, .inr (5, [.int 0, .int (nI Wd), .int (nI Hh), .int (nI nn), .int na, .int nb, .int rk, .int pr, .int bk, .ref a1, .ref a2, .ref a3, .ref a4, .ref a5, .ref a6, .ref a7, .int lo, .long bt, .long bb])), (a4, .inl (cyZ, 576, .inl ln))]) 0 0 (va_A [(a0, .inr (5, [.int th, .int (nI Wd), .int (nI Hh), .int (nI nn), .int na, .int nb, .int rk, .int pr, .int bk, .ref a1, .ref a2, .ref a3, .ref a4, .ref a5, .ref a6, .ref a7, .int lo, .long bt, .long bb])), (a4, .inl (cyZ, 576, .inl ln))] sz) := by
  refine xk_of (own := RX5) (cc := cX5_line) (maxL := 4) (ret := (some .boolean)) (Qc := fun A => xk_Qi D A 0 [(a0, .inr (5, [.int 0, .int (nI Wd), .int (nI Hh), .int (nI nn), .int na, .int nb, .int rk, .int pr, .int bk, .ref a1, .ref a2, .ref a3, .ref a4, .ref a5, .ref a6, .ref a7, .int lo, .long bt, .long bb])), (a4, .inl (cyZ, 576, .inl ln))]) (by decide) rfl rfl (Nat.le_of_ble_eq_true rfl) ?_
  intro p e s m below meth c A ls hx hb hr hml hown hlocks hin hts hA hP hK hN hD hS hl
  have hC0 := xk_fix hx hb hml hown hts
  have hl : lv_has ls 4 [(0, .ref a0), (1, .int (nI jx)), (2, .int (nI jy)), (3, .int v)] := hl
  have hf38 := hts (.fieldLink RX5 38 "DotPressModel" "isLine" "[Z") (by decide +kernel)
  have hf51 := hts (.fieldLink RX5 51 "DotPressModel" "thrown" "I") (by decide +kernel)
  refine lv_aload_n hx hb dX5_line_0 rfl (lv_at hl 0 rfl) ?_
  refine lv_iconst (v := 0) hx hb dX5_line_1 (by decide) ?_
  refine va_put (D := D) (ci := 5) (v := .int 0) (ty := .int) (C := RX5) (T := TX5) (N := 19) hx hb hts in_X5_line_so_X5 tyX5 tyX5_ok nmX5 hown hK hP hD hS 0 rfl rfl 0 (by decide) hf51 (fun _ h9 => h9) rfl (by decide +kernel) (rfl) (rfl) (Nat.le_of_ble_eq_true rfl) dX5_line_2 (fun H locs hP hD hS => ?_)
  have hP : va_P D vwCl [(a0, .inr (5, [.int 0, .int (nI Wd), .int (nI Hh), .int (nI nn), .int na, .int nb, .int rk, .int pr, .int bk, .ref a1, .ref a2, .ref a3, .ref a4, .ref a5, .ref a6, .ref a7, .int lo, .long bt, .long bb])), (a4, .inl (cyZ, 576, .inl ln))] H := hP
  have hD : va_D A [(a0, .inr (5, [.int 0, .int (nI Wd), .int (nI Hh), .int (nI nn), .int na, .int nb, .int rk, .int pr, .int bk, .ref a1, .ref a2, .ref a3, .ref a4, .ref a5, .ref a6, .ref a7, .int lo, .long bt, .long bb])), (a4, .inl (cyZ, 576, .inl ln))] := hD
  refine lv_aload_n hx hb dX5_line_5 rfl (lv_at hl 0 rfl) ?_
  refine lv_iload_n hx hb dX5_line_6 rfl (lv_at hl 1 rfl) ?_
  refine lv_iload_n hx hb dX5_line_7 rfl (lv_at hl 2 rfl) ?_
  have hPc := hP.sub (ws' := [(a0, .inr (5, [.int 0, .int (nI Wd), .int (nI Hh), .int (nI nn), .int na, .int nb, .int rk, .int pr, .int bk, .ref a1, .ref a2, .ref a3, .ref a4, .ref a5, .ref a6, .ref a7, .int lo, .long bt, .long bb]))]) [0] rfl
  have hDc := hD.sub (ws' := [(a0, .inr (5, [.int 0, .int (nI Wd), .int (nI Hh), .int (nI nn), .int na, .int nb, .int rk, .int pr, .int bk, .ref a1, .ref a2, .ref a3, .ref a4, .ref a5, .ref a6, .ref a7, .int lo, .long bt, .long bb]))]) [0] (by decide) rfl
  refine xk_calli (wr := [(a4, .inl (cyZ, 576, .inl ln))]) (w2 := [(a0, .inr (5, [.int 0, .int (nI Wd), .int (nI Hh), .int (nI nn), .int na, .int nb, .int rk, .int pr, .int bk, .ref a1, .ref a2, .ref a3, .ref a4, .ref a5, .ref a6, .ref a7, .int lo, .long bt, .long bb])), (a4, .inl (cyZ, 576, .inl ln))]) (va_runV (As := [.int (nI jx), .int (nI jy)]) (rest := []) hC0 (ct_X5_isPlace l D cyI cyZ a0 a1 a2 a3 a4 a5 a6 a7 _ 0 Wd Hh nn na nb rk pr bk lo bt bb (nI jx) (nI jy) (by first | assumption | omega) (by first | assumption | omega) (by first | assumption | omega) (by first | assumption | omega)) (cwV 2 hts gX5_line_X5_isPlace rfl rfl rfl (by decide +kernel) ⟨Nat.le_of_ble_eq_true rfl, Nat.le_of_ble_eq_true rfl⟩) ⟨xk_blind, va_recv hK hPc (ci := 5) (q0 := 0) rfl rfl, xk_pre hK hN hPc hDc⟩ rfl rfl hl.1 rfl (lv_room (Nat.le_of_ble_eq_true rfl)) dX5_line_8 ⟨Nat.le_of_ble_eq_true rfl, Nat.le_of_ble_eq_true rfl⟩) hP hD hS hA [0] [1] [1, 0] rfl rfl (by decide) (by decide) rfl (by decide) (fun H locs hP hD hS => ?_)
  refine lv_if_eq (tgt := 29) hx hb dX5_line_11 (by decide) (fun c_11 => xk_ab c_11 (bI_nz.mpr (sh_has_in hw2 hh2 hx0 hy0))) (fun c_11 => ?_)
  have c_11 := bI_nz.mp c_11
  refine lv_aload_n hx hb dX5_line_14 rfl (lv_at hl 0 rfl) ?_
  refine va_get (D := D) (ci := 5) (v := .ref a4) (C := RX5) (T := TX5) (N := 19) hx hb hts in_X5_line_so_X5 hown hK hP 0 rfl rfl 12 (by decide) hf38 (fun _ h9 => h9) rfl dX5_line_15 ?_
  refine lv_bipush (v := 24) hx hb dX5_line_18 (by decide) ?_
  refine lv_iload_n hx hb dX5_line_20 rfl (lv_at hl 2 rfl) ?_
  refine lv_imul hx hb dX5_line_21 ?_
  refine lv_iload_n hx hb dX5_line_22 rfl (lv_at hl 1 rfl) ?_
  refine lv_iadd hx hb dX5_line_23 ?_
  refine xk_zald hx hb hK hP 1 rfl (jy * 24 + jx) (md_spot jx jy) (by omega) (by decide) dX5_line_24 ?_
  refine lv_iload_n hx hb dX5_line_25 rfl (lv_at hl 3 rfl) ?_
  refine lv_icmp_ne (tgt := 31) hx hb dX5_line_26 (by decide) (fun c_26 => xk_ba c_26 (hs)) (fun c_26 => ?_)
  refine lv_iconst (v := 0) hx hb dX5_line_29 (by decide) ?_
  exact xk_zret hx hb hr hlocks hP hD hS (rfl) (rfl) (rfl) dX5_line_30

abbrev rm_X5_line_ok : Room := { frames := 2, cells := 0, slots := 0, locals := 44 }
theorem in_X5_line_ok_X5 : ∀ w ∈ u_ws RX5 TX5 19, w ∈ wsX5_line := by decide +kernel
set_option maxHeartbeats 4000000 in
set_option maxRecDepth 100000 in
theorem ct_X5_line_ok (l : Launch) (D : va_G) (cyI cyZ : ClassId) (a0 a1 a2 a3 a4 a5 a6 a7 : Nat) (sz : Nat) (th : Int32) (Wd Hh nn : Nat) (na nb rk pr bk lo : Int32) (bt bb : Int64) (ln : Nat → Int32) (jx jy : Nat) (v : Int32) (hw1 : 1 ≤ Wd) (hw2 : Wd ≤ 24) (hh1 : 1 ≤ Hh) (hh2 : Hh ≤ 24) (hx0 : jx < Wd) (hy0 : jy < Hh) (hs : ¬ ln (jy * 24 + jx) = v) (hv : vp_nar .boolean v = v) : Met l yX5_line wsX5_line rm_X5_line_ok (xk_Pc D cyI cyZ [.ref a0, .int (nI jx), .int (nI jy), .int v] [(a0, .inr (5, [.int th, .int (nI Wd), .int (nI Hh), .int (nI nn), .int na, .int nb, .int rk, .int pr, .int bk, .ref a1, .ref a2, .ref a3, .ref a4, .ref a5, .ref a6, .ref a7, .int lo, .long bt, .long bb])), (a4, .inl (cyZ, 576, .inl ln))] sz) (xk_Qi D (va_A [(a0, .inr (5, [.int th, .int (nI Wd), .int (nI Hh), .int (nI nn), .int na, .int nb, .int rk, .int pr, .int bk, .ref a1, .ref a2, .ref a3, .ref a4, .ref a5, .ref a6, .ref a7, .int lo, .long bt, .long bb])), (a4, .inl (cyZ, 576, .inl ln))] sz) 1 [(a0, .inr (5, [.int 0, .int (nI Wd), .int (nI Hh), .int (nI nn), .int na, .int nb, .int rk, .int pr, .int bk, .ref a1, .ref a2, .ref a3, .ref a4, .ref a5, .ref a6, .ref a7, .int lo, .long bt, .long bb])), (a4, .inl (cyZ, 576, .inl (upd ln (jy * 24 + jx) v)))]) 0 0 (va_A [(a0, .inr (5, [.int th, .int (nI Wd), .int (nI Hh), .int (nI nn), .int na, .int nb, .int rk, .int pr, .int bk, .ref a1, .ref a2, .ref a3, .ref a4, .ref a5, .ref a6, .ref a7, .int lo, .long bt, .long bb])), (a4, .inl (cyZ, 576, .inl ln))] sz) := by
  refine xk_of (own := RX5) (cc := cX5_line) (maxL := 4) (ret := (some .boolean)) (Qc := fun A => xk_Qi D A 1 [(a0, .inr (5, [.int 0, .int (nI Wd), .int (nI Hh), .int (nI nn), .int na, .int nb, .int rk, .int pr, .int bk, .ref a1, .ref a2, .ref a3, .ref a4, .ref a5, .ref a6, .ref a7, .int lo, .long bt, .long bb])), (a4, .inl (cyZ, 576, .inl (upd ln (jy * 24 + jx) v)))]) (by decide) rfl rfl (Nat.le_of_ble_eq_true rfl) ?_
  intro p e s m below meth c A ls hx hb hr hml hown hlocks hin hts hA hP hK hN hD hS hl
  have hC0 := xk_fix hx hb hml hown hts
  have hl : lv_has ls 4 [(0, .ref a0), (1, .int (nI jx)), (2, .int (nI jy)), (3, .int v)] := hl
  have hf38 := hts (.fieldLink RX5 38 "DotPressModel" "isLine" "[Z") (by decide +kernel)
  have hf51 := hts (.fieldLink RX5 51 "DotPressModel" "thrown" "I") (by decide +kernel)
  refine lv_aload_n hx hb dX5_line_0 rfl (lv_at hl 0 rfl) ?_
  refine lv_iconst (v := 0) hx hb dX5_line_1 (by decide) ?_
  refine va_put (D := D) (ci := 5) (v := .int 0) (ty := .int) (C := RX5) (T := TX5) (N := 19) hx hb hts in_X5_line_ok_X5 tyX5 tyX5_ok nmX5 hown hK hP hD hS 0 rfl rfl 0 (by decide) hf51 (fun _ h9 => h9) rfl (by decide +kernel) (rfl) (rfl) (Nat.le_of_ble_eq_true rfl) dX5_line_2 (fun H locs hP hD hS => ?_)
  have hP : va_P D vwCl [(a0, .inr (5, [.int 0, .int (nI Wd), .int (nI Hh), .int (nI nn), .int na, .int nb, .int rk, .int pr, .int bk, .ref a1, .ref a2, .ref a3, .ref a4, .ref a5, .ref a6, .ref a7, .int lo, .long bt, .long bb])), (a4, .inl (cyZ, 576, .inl ln))] H := hP
  have hD : va_D A [(a0, .inr (5, [.int 0, .int (nI Wd), .int (nI Hh), .int (nI nn), .int na, .int nb, .int rk, .int pr, .int bk, .ref a1, .ref a2, .ref a3, .ref a4, .ref a5, .ref a6, .ref a7, .int lo, .long bt, .long bb])), (a4, .inl (cyZ, 576, .inl ln))] := hD
  refine lv_aload_n hx hb dX5_line_5 rfl (lv_at hl 0 rfl) ?_
  refine lv_iload_n hx hb dX5_line_6 rfl (lv_at hl 1 rfl) ?_
  refine lv_iload_n hx hb dX5_line_7 rfl (lv_at hl 2 rfl) ?_
  have hPc := hP.sub (ws' := [(a0, .inr (5, [.int 0, .int (nI Wd), .int (nI Hh), .int (nI nn), .int na, .int nb, .int rk, .int pr, .int bk, .ref a1, .ref a2, .ref a3, .ref a4, .ref a5, .ref a6, .ref a7, .int lo, .long bt, .long bb]))]) [0] rfl
  have hDc := hD.sub (ws' := [(a0, .inr (5, [.int 0, .int (nI Wd), .int (nI Hh), .int (nI nn), .int na, .int nb, .int rk, .int pr, .int bk, .ref a1, .ref a2, .ref a3, .ref a4, .ref a5, .ref a6, .ref a7, .int lo, .long bt, .long bb]))]) [0] (by decide) rfl
  refine xk_calli (wr := [(a4, .inl (cyZ, 576, .inl ln))]) (w2 := [(a0, .inr (5, [.int 0, .int (nI Wd), .int (nI Hh), .int (nI nn), .int na, .int nb, .int rk, .int pr, .int bk, .ref a1, .ref a2, .ref a3, .ref a4, .ref a5, .ref a6, .ref a7, .int lo, .long bt, .long bb])), (a4, .inl (cyZ, 576, .inl ln))]) (va_runV (As := [.int (nI jx), .int (nI jy)]) (rest := []) hC0 (ct_X5_isPlace l D cyI cyZ a0 a1 a2 a3 a4 a5 a6 a7 _ 0 Wd Hh nn na nb rk pr bk lo bt bb (nI jx) (nI jy) (by first | assumption | omega) (by first | assumption | omega) (by first | assumption | omega) (by first | assumption | omega)) (cwV 2 hts gX5_line_X5_isPlace rfl rfl rfl (by decide +kernel) ⟨Nat.le_of_ble_eq_true rfl, Nat.le_of_ble_eq_true rfl⟩) ⟨xk_blind, va_recv hK hPc (ci := 5) (q0 := 0) rfl rfl, xk_pre hK hN hPc hDc⟩ rfl rfl hl.1 rfl (lv_room (Nat.le_of_ble_eq_true rfl)) dX5_line_8 ⟨Nat.le_of_ble_eq_true rfl, Nat.le_of_ble_eq_true rfl⟩) hP hD hS hA [0] [1] [1, 0] rfl rfl (by decide) (by decide) rfl (by decide) (fun H locs hP hD hS => ?_)
  refine lv_if_eq (tgt := 29) hx hb dX5_line_11 (by decide) (fun c_11 => xk_ab c_11 (bI_nz.mpr (sh_has_in hw2 hh2 hx0 hy0))) (fun c_11 => ?_)
  have c_11 := bI_nz.mp c_11
  refine lv_aload_n hx hb dX5_line_14 rfl (lv_at hl 0 rfl) ?_
  refine va_get (D := D) (ci := 5) (v := .ref a4) (C := RX5) (T := TX5) (N := 19) hx hb hts in_X5_line_ok_X5 hown hK hP 0 rfl rfl 12 (by decide) hf38 (fun _ h9 => h9) rfl dX5_line_15 ?_
  refine lv_bipush (v := 24) hx hb dX5_line_18 (by decide) ?_
  refine lv_iload_n hx hb dX5_line_20 rfl (lv_at hl 2 rfl) ?_
  refine lv_imul hx hb dX5_line_21 ?_
  refine lv_iload_n hx hb dX5_line_22 rfl (lv_at hl 1 rfl) ?_
  refine lv_iadd hx hb dX5_line_23 ?_
  refine xk_zald hx hb hK hP 1 rfl (jy * 24 + jx) (md_spot jx jy) (by omega) (by decide) dX5_line_24 ?_
  refine lv_iload_n hx hb dX5_line_25 rfl (lv_at hl 3 rfl) ?_
  refine lv_icmp_ne (tgt := 31) hx hb dX5_line_26 (by decide) (fun c_26 => ?_) (fun c_26 => xk_ab c_26 (hs))
  refine lv_aload_n hx hb dX5_line_31 rfl (lv_at hl 0 rfl) ?_
  refine va_get (D := D) (ci := 5) (v := .ref a4) (C := RX5) (T := TX5) (N := 19) hx hb hts in_X5_line_ok_X5 hown hK hP 0 rfl rfl 12 (by decide) hf38 (fun _ h9 => h9) rfl dX5_line_32 ?_
  refine lv_bipush (v := 24) hx hb dX5_line_35 (by decide) ?_
  refine lv_iload_n hx hb dX5_line_37 rfl (lv_at hl 2 rfl) ?_
  refine lv_imul hx hb dX5_line_38 ?_
  refine lv_iload_n hx hb dX5_line_39 rfl (lv_at hl 1 rfl) ?_
  refine lv_iadd hx hb dX5_line_40 ?_
  refine lv_iload_n hx hb dX5_line_41 rfl (lv_at hl 3 rfl) ?_
  refine xk_zast (w2 := [(a0, .inr (5, [.int 0, .int (nI Wd), .int (nI Hh), .int (nI nn), .int na, .int nb, .int rk, .int pr, .int bk, .ref a1, .ref a2, .ref a3, .ref a4, .ref a5, .ref a6, .ref a7, .int lo, .long bt, .long bb])), (a4, .inl (cyZ, 576, .inl (upd ln (jy * 24 + jx) v)))]) hx hb hK hP hD hS 1 rfl (jy * 24 + jx) (md_spot jx jy) (by omega) (by decide) (hv) rfl dX5_line_42 (fun H locs hP hD hS => ?_)
  refine lv_iconst (v := 1) hx hb dX5_line_43 (by decide) ?_
  exact xk_zret hx hb hr hlocks hP hD hS (rfl) (rfl) (rfl) dX5_line_44

abbrev rm_X5_grey_no : Room := { frames := 2, cells := 0, slots := 0, locals := 44 }
theorem in_X5_grey_no_X5 : ∀ w ∈ u_ws RX5 TX5 19, w ∈ wsX5_grey := by decide +kernel
set_option maxHeartbeats 4000000 in
set_option maxRecDepth 100000 in
theorem ct_X5_grey_no (l : Launch) (D : va_G) (cyI cyZ : ClassId) (a0 a1 a2 a3 a4 a5 a6 a7 : Nat) (sz : Nat) (th : Int32) (Wd Hh nn : Nat) (na nb rk pr bk lo : Int32) (bt bb : Int64) (g : Nat → Int32) (x y : Int32) (hw1 : 1 ≤ Wd) (hw2 : Wd ≤ 24) (hh1 : 1 ≤ Hh) (hh2 : Hh ≤ 24) (hno : ¬ sh_has Wd Hh x y) : Met l yX5_grey wsX5_grey rm_X5_grey_no (xk_Pc D cyI cyZ [.ref a0, .int x, .int y] [(a0, .inr (5, [.int th, .int (nI Wd), .int (nI Hh), .int (nI nn), .int na, .int nb, .int rk, .int pr, .int bk, .ref a1, .ref a2, .ref a3, .ref a4, .ref a5, .ref a6, .ref a7, .int lo, .long bt, .long bb])), (a1, .inl (cyI, 576, .inl g))] sz) (xk_Qi D (va_A [(a0, .inr (5, [.int th, .int (nI Wd), .int (nI Hh), .int (nI nn), .int na, .int nb, .int rk, .int pr, .int bk, .ref a1, .ref a2, .ref a3, .ref a4, .ref a5, .ref a6, .ref a7, .int lo, .long bt, .long bb])), (a1, .inl (cyI, 576, .inl g))] sz) (-1) [(a0, .inr (5, [.int 0, .int (nI Wd), .int (nI Hh), .int (nI nn), .int na, .int nb, .int rk, .int pr, .int bk, .ref a1, .ref a2, .ref a3, .ref a4, .ref a5, .ref a6, .ref a7, .int lo, .long bt, .long bb])), (a1, .inl (cyI, 576, .inl g))]) 0 0 (va_A [(a0, .inr (5, [.int th, .int (nI Wd), .int (nI Hh), .int (nI nn), .int na, .int nb, .int rk, .int pr, .int bk, .ref a1, .ref a2, .ref a3, .ref a4, .ref a5, .ref a6, .ref a7, .int lo, .long bt, .long bb])), (a1, .inl (cyI, 576, .inl g))] sz) := by
  refine xk_of (own := RX5) (cc := cX5_grey) (maxL := 3) (ret := (some .int)) (Qc := fun A => xk_Qi D A (-1) [(a0, .inr (5, [.int 0, .int (nI Wd), .int (nI Hh), .int (nI nn), .int na, .int nb, .int rk, .int pr, .int bk, .ref a1, .ref a2, .ref a3, .ref a4, .ref a5, .ref a6, .ref a7, .int lo, .long bt, .long bb])), (a1, .inl (cyI, 576, .inl g))]) (by decide) rfl rfl (Nat.le_of_ble_eq_true rfl) ?_
  intro p e s m below meth c A ls hx hb hr hml hown hlocks hin hts hA hP hK hN hD hS hl
  have hC0 := xk_fix hx hb hml hown hts
  have hl : lv_has ls 3 [(0, .ref a0), (1, .int x), (2, .int y)] := hl
  have hf51 := hts (.fieldLink RX5 51 "DotPressModel" "thrown" "I") (by decide +kernel)
  refine lv_aload_n hx hb dX5_grey_0 rfl (lv_at hl 0 rfl) ?_
  refine lv_iconst (v := 0) hx hb dX5_grey_1 (by decide) ?_
  refine va_put (D := D) (ci := 5) (v := .int 0) (ty := .int) (C := RX5) (T := TX5) (N := 19) hx hb hts in_X5_grey_no_X5 tyX5 tyX5_ok nmX5 hown hK hP hD hS 0 rfl rfl 0 (by decide) hf51 (fun _ h9 => h9) rfl (by decide +kernel) (rfl) (rfl) (Nat.le_of_ble_eq_true rfl) dX5_grey_2 (fun H locs hP hD hS => ?_)
  have hP : va_P D vwCl [(a0, .inr (5, [.int 0, .int (nI Wd), .int (nI Hh), .int (nI nn), .int na, .int nb, .int rk, .int pr, .int bk, .ref a1, .ref a2, .ref a3, .ref a4, .ref a5, .ref a6, .ref a7, .int lo, .long bt, .long bb])), (a1, .inl (cyI, 576, .inl g))] H := hP
  have hD : va_D A [(a0, .inr (5, [.int 0, .int (nI Wd), .int (nI Hh), .int (nI nn), .int na, .int nb, .int rk, .int pr, .int bk, .ref a1, .ref a2, .ref a3, .ref a4, .ref a5, .ref a6, .ref a7, .int lo, .long bt, .long bb])), (a1, .inl (cyI, 576, .inl g))] := hD
  refine lv_aload_n hx hb dX5_grey_5 rfl (lv_at hl 0 rfl) ?_
  refine lv_iload_n hx hb dX5_grey_6 rfl (lv_at hl 1 rfl) ?_
  refine lv_iload_n hx hb dX5_grey_7 rfl (lv_at hl 2 rfl) ?_
  have hPc := hP.sub (ws' := [(a0, .inr (5, [.int 0, .int (nI Wd), .int (nI Hh), .int (nI nn), .int na, .int nb, .int rk, .int pr, .int bk, .ref a1, .ref a2, .ref a3, .ref a4, .ref a5, .ref a6, .ref a7, .int lo, .long bt, .long bb]))]) [0] rfl
  have hDc := hD.sub (ws' := [(a0, .inr (5, [.int 0, .int (nI Wd), .int (nI Hh), .int (nI nn), .int na, .int nb, .int rk, .int pr, .int bk, .ref a1, .ref a2, .ref a3, .ref a4, .ref a5, .ref a6, .ref a7, .int lo, .long bt, .long bb]))]) [0] (by decide) rfl
  refine xk_calli (wr := [(a1, .inl (cyI, 576, .inl g))]) (w2 := [(a0, .inr (5, [.int 0, .int (nI Wd), .int (nI Hh), .int (nI nn), .int na, .int nb, .int rk, .int pr, .int bk, .ref a1, .ref a2, .ref a3, .ref a4, .ref a5, .ref a6, .ref a7, .int lo, .long bt, .long bb])), (a1, .inl (cyI, 576, .inl g))]) (va_runV (As := [.int x, .int y]) (rest := []) hC0 (ct_X5_isPlace l D cyI cyZ a0 a1 a2 a3 a4 a5 a6 a7 _ 0 Wd Hh nn na nb rk pr bk lo bt bb x y (by first | assumption | omega) (by first | assumption | omega) (by first | assumption | omega) (by first | assumption | omega)) (cwV 2 hts gX5_grey_X5_isPlace rfl rfl rfl (by decide +kernel) ⟨Nat.le_of_ble_eq_true rfl, Nat.le_of_ble_eq_true rfl⟩) ⟨xk_blind, va_recv hK hPc (ci := 5) (q0 := 0) rfl rfl, xk_pre hK hN hPc hDc⟩ rfl rfl hl.1 rfl (lv_room (Nat.le_of_ble_eq_true rfl)) dX5_grey_8 ⟨Nat.le_of_ble_eq_true rfl, Nat.le_of_ble_eq_true rfl⟩) hP hD hS hA [0] [1] [1, 0] rfl rfl (by decide) (by decide) rfl (by decide) (fun H locs hP hD hS => ?_)
  refine lv_if_eq (tgt := 28) hx hb dX5_grey_11 (by decide) (fun c_11 => ?_) (fun c_11 => xk_ba c_11 (bI_z.mpr hno))
  have c_11 := bI_z.mp c_11
  refine lv_iconst (v := (-1)) hx hb dX5_grey_28 (by decide) ?_
  exact xk_iret hx hb hr hlocks hP hD hS (rfl) (rfl) dX5_grey_29

abbrev rm_X5_grey_ok : Room := { frames := 2, cells := 0, slots := 0, locals := 44 }
theorem in_X5_grey_ok_X5 : ∀ w ∈ u_ws RX5 TX5 19, w ∈ wsX5_grey := by decide +kernel
set_option maxHeartbeats 4000000 in
set_option maxRecDepth 100000 in
theorem ct_X5_grey_ok (l : Launch) (D : va_G) (cyI cyZ : ClassId) (a0 a1 a2 a3 a4 a5 a6 a7 : Nat) (sz : Nat) (th : Int32) (Wd Hh nn : Nat) (na nb rk pr bk lo : Int32) (bt bb : Int64) (g : Nat → Int32) (jx jy : Nat) (hw1 : 1 ≤ Wd) (hw2 : Wd ≤ 24) (hh1 : 1 ≤ Hh) (hh2 : Hh ≤ 24) (hx0 : jx < Wd) (hy0 : jy < Hh) : Met l yX5_grey wsX5_grey rm_X5_grey_ok (xk_Pc D cyI cyZ [.ref a0, .int (nI jx), .int (nI jy)] [(a0, .inr (5, [.int th, .int (nI Wd), .int (nI Hh), .int (nI nn), .int na, .int nb, .int rk, .int pr, .int bk, .ref a1, .ref a2, .ref a3, .ref a4, .ref a5, .ref a6, .ref a7, .int lo, .long bt, .long bb])), (a1, .inl (cyI, 576, .inl g))] sz) (xk_Qi D (va_A [(a0, .inr (5, [.int th, .int (nI Wd), .int (nI Hh), .int (nI nn), .int na, .int nb, .int rk, .int pr, .int bk, .ref a1, .ref a2, .ref a3, .ref a4, .ref a5, .ref a6, .ref a7, .int lo, .long bt, .long bb])), (a1, .inl (cyI, 576, .inl g))] sz) (g (jy * 24 + jx)) [(a0, .inr (5, [.int 0, .int (nI Wd), .int (nI Hh), .int (nI nn), .int na, .int nb, .int rk, .int pr, .int bk, .ref a1, .ref a2, .ref a3, .ref a4, .ref a5, .ref a6, .ref a7, .int lo, .long bt, .long bb])), (a1, .inl (cyI, 576, .inl g))]) 0 0 (va_A [(a0, .inr (5, [.int th, .int (nI Wd), .int (nI Hh), .int (nI nn), .int na, .int nb, .int rk, .int pr, .int bk, .ref a1, .ref a2, .ref a3, .ref a4, .ref a5, .ref a6, .ref a7, .int lo, .long bt, .long bb])), (a1, .inl (cyI, 576, .inl g))] sz) := by
  refine xk_of (own := RX5) (cc := cX5_grey) (maxL := 3) (ret := (some .int)) (Qc := fun A => xk_Qi D A (g (jy * 24 + jx)) [(a0, .inr (5, [.int 0, .int (nI Wd), .int (nI Hh), .int (nI nn), .int na, .int nb, .int rk, .int pr, .int bk, .ref a1, .ref a2, .ref a3, .ref a4, .ref a5, .ref a6, .ref a7, .int lo, .long bt, .long bb])), (a1, .inl (cyI, 576, .inl g))]) (by decide) rfl rfl (Nat.le_of_ble_eq_true rfl) ?_
  intro p e s m below meth c A ls hx hb hr hml hown hlocks hin hts hA hP hK hN hD hS hl
  have hC0 := xk_fix hx hb hml hown hts
  have hl : lv_has ls 3 [(0, .ref a0), (1, .int (nI jx)), (2, .int (nI jy))] := hl
  have hf28 := hts (.fieldLink RX5 28 "DotPressModel" "shade" "[I") (by decide +kernel)
  have hf51 := hts (.fieldLink RX5 51 "DotPressModel" "thrown" "I") (by decide +kernel)
  refine lv_aload_n hx hb dX5_grey_0 rfl (lv_at hl 0 rfl) ?_
  refine lv_iconst (v := 0) hx hb dX5_grey_1 (by decide) ?_
  refine va_put (D := D) (ci := 5) (v := .int 0) (ty := .int) (C := RX5) (T := TX5) (N := 19) hx hb hts in_X5_grey_ok_X5 tyX5 tyX5_ok nmX5 hown hK hP hD hS 0 rfl rfl 0 (by decide) hf51 (fun _ h9 => h9) rfl (by decide +kernel) (rfl) (rfl) (Nat.le_of_ble_eq_true rfl) dX5_grey_2 (fun H locs hP hD hS => ?_)
  have hP : va_P D vwCl [(a0, .inr (5, [.int 0, .int (nI Wd), .int (nI Hh), .int (nI nn), .int na, .int nb, .int rk, .int pr, .int bk, .ref a1, .ref a2, .ref a3, .ref a4, .ref a5, .ref a6, .ref a7, .int lo, .long bt, .long bb])), (a1, .inl (cyI, 576, .inl g))] H := hP
  have hD : va_D A [(a0, .inr (5, [.int 0, .int (nI Wd), .int (nI Hh), .int (nI nn), .int na, .int nb, .int rk, .int pr, .int bk, .ref a1, .ref a2, .ref a3, .ref a4, .ref a5, .ref a6, .ref a7, .int lo, .long bt, .long bb])), (a1, .inl (cyI, 576, .inl g))] := hD
  refine lv_aload_n hx hb dX5_grey_5 rfl (lv_at hl 0 rfl) ?_
  refine lv_iload_n hx hb dX5_grey_6 rfl (lv_at hl 1 rfl) ?_
  refine lv_iload_n hx hb dX5_grey_7 rfl (lv_at hl 2 rfl) ?_
  have hPc := hP.sub (ws' := [(a0, .inr (5, [.int 0, .int (nI Wd), .int (nI Hh), .int (nI nn), .int na, .int nb, .int rk, .int pr, .int bk, .ref a1, .ref a2, .ref a3, .ref a4, .ref a5, .ref a6, .ref a7, .int lo, .long bt, .long bb]))]) [0] rfl
  have hDc := hD.sub (ws' := [(a0, .inr (5, [.int 0, .int (nI Wd), .int (nI Hh), .int (nI nn), .int na, .int nb, .int rk, .int pr, .int bk, .ref a1, .ref a2, .ref a3, .ref a4, .ref a5, .ref a6, .ref a7, .int lo, .long bt, .long bb]))]) [0] (by decide) rfl
  refine xk_calli (wr := [(a1, .inl (cyI, 576, .inl g))]) (w2 := [(a0, .inr (5, [.int 0, .int (nI Wd), .int (nI Hh), .int (nI nn), .int na, .int nb, .int rk, .int pr, .int bk, .ref a1, .ref a2, .ref a3, .ref a4, .ref a5, .ref a6, .ref a7, .int lo, .long bt, .long bb])), (a1, .inl (cyI, 576, .inl g))]) (va_runV (As := [.int (nI jx), .int (nI jy)]) (rest := []) hC0 (ct_X5_isPlace l D cyI cyZ a0 a1 a2 a3 a4 a5 a6 a7 _ 0 Wd Hh nn na nb rk pr bk lo bt bb (nI jx) (nI jy) (by first | assumption | omega) (by first | assumption | omega) (by first | assumption | omega) (by first | assumption | omega)) (cwV 2 hts gX5_grey_X5_isPlace rfl rfl rfl (by decide +kernel) ⟨Nat.le_of_ble_eq_true rfl, Nat.le_of_ble_eq_true rfl⟩) ⟨xk_blind, va_recv hK hPc (ci := 5) (q0 := 0) rfl rfl, xk_pre hK hN hPc hDc⟩ rfl rfl hl.1 rfl (lv_room (Nat.le_of_ble_eq_true rfl)) dX5_grey_8 ⟨Nat.le_of_ble_eq_true rfl, Nat.le_of_ble_eq_true rfl⟩) hP hD hS hA [0] [1] [1, 0] rfl rfl (by decide) (by decide) rfl (by decide) (fun H locs hP hD hS => ?_)
  refine lv_if_eq (tgt := 28) hx hb dX5_grey_11 (by decide) (fun c_11 => xk_ab c_11 (bI_nz.mpr (sh_has_in hw2 hh2 hx0 hy0))) (fun c_11 => ?_)
  have c_11 := bI_nz.mp c_11
  refine lv_aload_n hx hb dX5_grey_14 rfl (lv_at hl 0 rfl) ?_
  refine va_get (D := D) (ci := 5) (v := .ref a1) (C := RX5) (T := TX5) (N := 19) hx hb hts in_X5_grey_ok_X5 hown hK hP 0 rfl rfl 9 (by decide) hf28 (fun _ h9 => h9) rfl dX5_grey_15 ?_
  refine lv_bipush (v := 24) hx hb dX5_grey_18 (by decide) ?_
  refine lv_iload_n hx hb dX5_grey_20 rfl (lv_at hl 2 rfl) ?_
  refine lv_imul hx hb dX5_grey_21 ?_
  refine lv_iload_n hx hb dX5_grey_22 rfl (lv_at hl 1 rfl) ?_
  refine lv_iadd hx hb dX5_grey_23 ?_
  refine xk_iald hx hb hK hP 1 rfl (jy * 24 + jx) (md_spot jx jy) (by omega) (by decide) dX5_grey_24 ?_
  refine lv_goto (tgt := 29) hx hb dX5_grey_25 (by decide) ?_
  exact xk_iret hx hb hr hlocks hP hD hS (rfl) (rfl) dX5_grey_29

abbrev rm_X5_table_no : Room := { frames := 1, cells := 0, slots := 0, locals := 22 }
theorem in_X5_table_no_X5 : ∀ w ∈ u_ws RX5 TX5 19, w ∈ wsX5_table := by decide +kernel
set_option maxHeartbeats 4000000 in
set_option maxRecDepth 100000 in
theorem ct_X5_table_no (l : Launch) (D : va_G) (cyI cyZ : ClassId) (a0 a1 a2 a3 a4 a5 a6 a7 : Nat) (sz : Nat) (th : Int32) (Wd Hh nn : Nat) (na nb rk pr bk lo : Int32) (bt bb : Int64) (nu : Nat → Int32) (x : Int32) (hno : ¬ (¬ x < 1 ∧ ¬ 8 < x)) : Met l yX5_table wsX5_table rm_X5_table_no (xk_Pc D cyI cyZ [.ref a0, .int x] [(a0, .inr (5, [.int th, .int (nI Wd), .int (nI Hh), .int (nI nn), .int na, .int nb, .int rk, .int pr, .int bk, .ref a1, .ref a2, .ref a3, .ref a4, .ref a5, .ref a6, .ref a7, .int lo, .long bt, .long bb])), (a2, .inl (cyI, 64, .inl nu))] sz) (xk_Qi D (va_A [(a0, .inr (5, [.int th, .int (nI Wd), .int (nI Hh), .int (nI nn), .int na, .int nb, .int rk, .int pr, .int bk, .ref a1, .ref a2, .ref a3, .ref a4, .ref a5, .ref a6, .ref a7, .int lo, .long bt, .long bb])), (a2, .inl (cyI, 64, .inl nu))] sz) 0 [(a0, .inr (5, [.int 0, .int (nI Wd), .int (nI Hh), .int (nI nn), .int na, .int nb, .int rk, .int pr, .int bk, .ref a1, .ref a2, .ref a3, .ref a4, .ref a5, .ref a6, .ref a7, .int lo, .long bt, .long bb])), (a2, .inl (cyI, 64, .inl nu))]) 0 0 (va_A [(a0, .inr (5, [.int th, .int (nI Wd), .int (nI Hh), .int (nI nn), .int na, .int nb, .int rk, .int pr, .int bk, .ref a1, .ref a2, .ref a3, .ref a4, .ref a5, .ref a6, .ref a7, .int lo, .long bt, .long bb])), (a2, .inl (cyI, 64, .inl nu))] sz) := by
  refine xk_of (own := RX5) (cc := cX5_table) (maxL := 3) (ret := (some .boolean)) (Qc := fun A => xk_Qi D A 0 [(a0, .inr (5, [.int 0, .int (nI Wd), .int (nI Hh), .int (nI nn), .int na, .int nb, .int rk, .int pr, .int bk, .ref a1, .ref a2, .ref a3, .ref a4, .ref a5, .ref a6, .ref a7, .int lo, .long bt, .long bb])), (a2, .inl (cyI, 64, .inl nu))]) (by decide) rfl rfl (Nat.le_of_ble_eq_true rfl) ?_
  intro p e s m below meth c A ls hx hb hr hml hown hlocks hin hts hA hP hK hN hD hS hl
  have hC0 := xk_fix hx hb hml hown hts
  have hl : lv_has ls 3 [(0, .ref a0), (1, .int x)] := hl
  have hf51 := hts (.fieldLink RX5 51 "DotPressModel" "thrown" "I") (by decide +kernel)
  refine lv_aload_n hx hb dX5_table_0 rfl (lv_at hl 0 rfl) ?_
  refine lv_iconst (v := 0) hx hb dX5_table_1 (by decide) ?_
  refine va_put (D := D) (ci := 5) (v := .int 0) (ty := .int) (C := RX5) (T := TX5) (N := 19) hx hb hts in_X5_table_no_X5 tyX5 tyX5_ok nmX5 hown hK hP hD hS 0 rfl rfl 0 (by decide) hf51 (fun _ h9 => h9) rfl (by decide +kernel) (rfl) (rfl) (Nat.le_of_ble_eq_true rfl) dX5_table_2 (fun H locs hP hD hS => ?_)
  have hP : va_P D vwCl [(a0, .inr (5, [.int 0, .int (nI Wd), .int (nI Hh), .int (nI nn), .int na, .int nb, .int rk, .int pr, .int bk, .ref a1, .ref a2, .ref a3, .ref a4, .ref a5, .ref a6, .ref a7, .int lo, .long bt, .long bb])), (a2, .inl (cyI, 64, .inl nu))] H := hP
  have hD : va_D A [(a0, .inr (5, [.int 0, .int (nI Wd), .int (nI Hh), .int (nI nn), .int na, .int nb, .int rk, .int pr, .int bk, .ref a1, .ref a2, .ref a3, .ref a4, .ref a5, .ref a6, .ref a7, .int lo, .long bt, .long bb])), (a2, .inl (cyI, 64, .inl nu))] := hD
  refine lv_iload_n hx hb dX5_table_5 rfl (lv_at hl 1 rfl) ?_
  refine lv_iconst (v := 1) hx hb dX5_table_6 (by decide) ?_
  refine lv_bipush (v := 8) hx hb dX5_table_7 (by decide) ?_
  have hPc := hP.sub (ws' := []) [] rfl
  have hDc := hD.sub (ws' := []) [] (by decide) rfl
  refine xk_calli (wr := [(a0, .inr (5, [.int 0, .int (nI Wd), .int (nI Hh), .int (nI nn), .int na, .int nb, .int rk, .int pr, .int bk, .ref a1, .ref a2, .ref a3, .ref a4, .ref a5, .ref a6, .ref a7, .int lo, .long bt, .long bb])), (a2, .inl (cyI, 64, .inl nu))]) (w2 := [(a0, .inr (5, [.int 0, .int (nI Wd), .int (nI Hh), .int (nI nn), .int na, .int nb, .int rk, .int pr, .int bk, .ref a1, .ref a2, .ref a3, .ref a4, .ref a5, .ref a6, .ref a7, .int lo, .long bt, .long bb])), (a2, .inl (cyI, 64, .inl nu))]) (va_runS (As := [.int x, .int 1, .int 8]) (rest := []) hC0 (ct_X5_isIn l D cyI cyZ  _ x 1 8 ) (va_cwS 3 hts gX5_table_X5_isIn rfl rfl rfl (by decide +kernel) ⟨Nat.le_of_ble_eq_true rfl, Nat.le_of_ble_eq_true rfl⟩) ⟨xk_blind, xk_pre hK hN hPc hDc⟩ rfl rfl hl.1 rfl (lv_room (Nat.le_of_ble_eq_true rfl)) dX5_table_9 ⟨Nat.le_of_ble_eq_true rfl, Nat.le_of_ble_eq_true rfl⟩) hP hD hS hA [] [0, 1] [0, 1] rfl rfl (by decide) (by decide) rfl (by decide) (fun H locs hP hD hS => ?_)
  refine lv_if_ne (tgt := 17) hx hb dX5_table_12 (by decide) (fun c_12 => xk_ba c_12 (bI_z.mpr hno)) (fun c_12 => ?_)
  have c_12 := bI_z.mp c_12
  refine lv_iconst (v := 0) hx hb dX5_table_15 (by decide) ?_
  exact xk_zret hx hb hr hlocks hP hD hS (rfl) (rfl) (rfl) dX5_table_16

abbrev rm_X5_table_ok : Room := { frames := 1, cells := 0, slots := 0, locals := 22 }
theorem in_X5_table_ok_X5 : ∀ w ∈ u_ws RX5 TX5 19, w ∈ wsX5_table := by decide +kernel
set_option maxHeartbeats 4000000 in
set_option maxRecDepth 100000 in
theorem ct_X5_table_ok (l : Launch) (D : va_G) (cyI cyZ : ClassId) (a0 a1 a2 a3 a4 a5 a6 a7 : Nat) (sz : Nat) (th : Int32) (Wd Hh nn : Nat) (na nb rk pr bk lo : Int32) (bt bb : Int64) (nu : Nat → Int32) (n2 : Nat) (q1 : 1 ≤ n2) (q2 : n2 ≤ 8) : Met l yX5_table wsX5_table rm_X5_table_ok (xk_Pc D cyI cyZ [.ref a0, .int (nI n2)] [(a0, .inr (5, [.int th, .int (nI Wd), .int (nI Hh), .int (nI nn), .int na, .int nb, .int rk, .int pr, .int bk, .ref a1, .ref a2, .ref a3, .ref a4, .ref a5, .ref a6, .ref a7, .int lo, .long bt, .long bb])), (a2, .inl (cyI, 64, .inl nu))] sz) (xk_Qi D (va_A [(a0, .inr (5, [.int th, .int (nI Wd), .int (nI Hh), .int (nI nn), .int na, .int nb, .int rk, .int pr, .int bk, .ref a1, .ref a2, .ref a3, .ref a4, .ref a5, .ref a6, .ref a7, .int lo, .long bt, .long bb])), (a2, .inl (cyI, 64, .inl nu))] sz) 1 [(a0, .inr (5, [.int 0, .int (nI Wd), .int (nI Hh), .int (nI n2), .int na, .int nb, .int rk, .int pr, .int bk, .ref a1, .ref a2, .ref a3, .ref a4, .ref a5, .ref a6, .ref a7, .int lo, .long bt, .long bb])), (a2, .inl (cyI, 64, .inl (idt (n2 * n2) nu)))]) 0 0 (va_A [(a0, .inr (5, [.int th, .int (nI Wd), .int (nI Hh), .int (nI nn), .int na, .int nb, .int rk, .int pr, .int bk, .ref a1, .ref a2, .ref a3, .ref a4, .ref a5, .ref a6, .ref a7, .int lo, .long bt, .long bb])), (a2, .inl (cyI, 64, .inl nu))] sz) := by
  refine xk_of (own := RX5) (cc := cX5_table) (maxL := 3) (ret := (some .boolean)) (Qc := fun A => xk_Qi D A 1 [(a0, .inr (5, [.int 0, .int (nI Wd), .int (nI Hh), .int (nI n2), .int na, .int nb, .int rk, .int pr, .int bk, .ref a1, .ref a2, .ref a3, .ref a4, .ref a5, .ref a6, .ref a7, .int lo, .long bt, .long bb])), (a2, .inl (cyI, 64, .inl (idt (n2 * n2) nu)))]) (by decide) rfl rfl (Nat.le_of_ble_eq_true rfl) ?_
  intro p e s m below meth c A ls hx hb hr hml hown hlocks hin hts hA hP hK hN hD hS hl
  have hC0 := xk_fix hx hb hml hown hts
  have hl : lv_has ls 3 [(0, .ref a0), (1, .int (nI n2))] := hl
  have hf16 := hts (.fieldLink RX5 16 "DotPressModel" "n" "I") (by decide +kernel)
  have hf32 := hts (.fieldLink RX5 32 "DotPressModel" "number" "[I") (by decide +kernel)
  have hf51 := hts (.fieldLink RX5 51 "DotPressModel" "thrown" "I") (by decide +kernel)
  have hq : n2 * n2 ≤ 64 := Nat.mul_le_mul q2 q2
  refine lv_aload_n hx hb dX5_table_0 rfl (lv_at hl 0 rfl) ?_
  refine lv_iconst (v := 0) hx hb dX5_table_1 (by decide) ?_
  refine va_put (D := D) (ci := 5) (v := .int 0) (ty := .int) (C := RX5) (T := TX5) (N := 19) hx hb hts in_X5_table_ok_X5 tyX5 tyX5_ok nmX5 hown hK hP hD hS 0 rfl rfl 0 (by decide) hf51 (fun _ h9 => h9) rfl (by decide +kernel) (rfl) (rfl) (Nat.le_of_ble_eq_true rfl) dX5_table_2 (fun H locs hP hD hS => ?_)
  have hP : va_P D vwCl [(a0, .inr (5, [.int 0, .int (nI Wd), .int (nI Hh), .int (nI nn), .int na, .int nb, .int rk, .int pr, .int bk, .ref a1, .ref a2, .ref a3, .ref a4, .ref a5, .ref a6, .ref a7, .int lo, .long bt, .long bb])), (a2, .inl (cyI, 64, .inl nu))] H := hP
  have hD : va_D A [(a0, .inr (5, [.int 0, .int (nI Wd), .int (nI Hh), .int (nI nn), .int na, .int nb, .int rk, .int pr, .int bk, .ref a1, .ref a2, .ref a3, .ref a4, .ref a5, .ref a6, .ref a7, .int lo, .long bt, .long bb])), (a2, .inl (cyI, 64, .inl nu))] := hD
  refine lv_iload_n hx hb dX5_table_5 rfl (lv_at hl 1 rfl) ?_
  refine lv_iconst (v := 1) hx hb dX5_table_6 (by decide) ?_
  refine lv_bipush (v := 8) hx hb dX5_table_7 (by decide) ?_
  have hPc := hP.sub (ws' := []) [] rfl
  have hDc := hD.sub (ws' := []) [] (by decide) rfl
  refine xk_calli (wr := [(a0, .inr (5, [.int 0, .int (nI Wd), .int (nI Hh), .int (nI nn), .int na, .int nb, .int rk, .int pr, .int bk, .ref a1, .ref a2, .ref a3, .ref a4, .ref a5, .ref a6, .ref a7, .int lo, .long bt, .long bb])), (a2, .inl (cyI, 64, .inl nu))]) (w2 := [(a0, .inr (5, [.int 0, .int (nI Wd), .int (nI Hh), .int (nI nn), .int na, .int nb, .int rk, .int pr, .int bk, .ref a1, .ref a2, .ref a3, .ref a4, .ref a5, .ref a6, .ref a7, .int lo, .long bt, .long bb])), (a2, .inl (cyI, 64, .inl nu))]) (va_runS (As := [.int (nI n2), .int 1, .int 8]) (rest := []) hC0 (ct_X5_isIn l D cyI cyZ  _ (nI n2) 1 8 ) (va_cwS 3 hts gX5_table_X5_isIn rfl rfl rfl (by decide +kernel) ⟨Nat.le_of_ble_eq_true rfl, Nat.le_of_ble_eq_true rfl⟩) ⟨xk_blind, xk_pre hK hN hPc hDc⟩ rfl rfl hl.1 rfl (lv_room (Nat.le_of_ble_eq_true rfl)) dX5_table_9 ⟨Nat.le_of_ble_eq_true rfl, Nat.le_of_ble_eq_true rfl⟩) hP hD hS hA [] [0, 1] [0, 1] rfl rfl (by decide) (by decide) rfl (by decide) (fun H locs hP hD hS => ?_)
  refine lv_if_ne (tgt := 17) hx hb dX5_table_12 (by decide) (fun c_12 => ?_) (fun c_12 => xk_ab c_12 (bI_nz.mpr ⟨rg_lo (lo := 1) (by omega) (by omega), rg_hi (hi := 8) (by omega) (by omega)⟩))
  have c_12 := bI_nz.mp c_12
  refine lv_aload_n hx hb dX5_table_17 rfl (lv_at hl 0 rfl) ?_
  refine lv_iload_n hx hb dX5_table_18 rfl (lv_at hl 1 rfl) ?_
  refine va_put (D := D) (ci := 5) (v := .int (nI n2)) (ty := .int) (C := RX5) (T := TX5) (N := 19) hx hb hts in_X5_table_ok_X5 tyX5 tyX5_ok nmX5 hown hK hP hD hS 0 rfl rfl 3 (by decide) hf16 (fun _ h9 => h9) rfl (by decide +kernel) (rfl) (rfl) (Nat.le_of_ble_eq_true rfl) dX5_table_19 (fun H locs hP hD hS => ?_)
  have hP : va_P D vwCl [(a0, .inr (5, [.int 0, .int (nI Wd), .int (nI Hh), .int (nI n2), .int na, .int nb, .int rk, .int pr, .int bk, .ref a1, .ref a2, .ref a3, .ref a4, .ref a5, .ref a6, .ref a7, .int lo, .long bt, .long bb])), (a2, .inl (cyI, 64, .inl nu))] H := hP
  have hD : va_D A [(a0, .inr (5, [.int 0, .int (nI Wd), .int (nI Hh), .int (nI n2), .int na, .int nb, .int rk, .int pr, .int bk, .ref a1, .ref a2, .ref a3, .ref a4, .ref a5, .ref a6, .ref a7, .int lo, .long bt, .long bb])), (a2, .inl (cyI, 64, .inl nu))] := hD
  refine lv_iconst (v := 0) hx hb dX5_table_22 (by decide) ?_
  refine lv_istore_n (lv' := [(2, .int 0), (0, .ref a0), (1, .int (nI n2))]) hx hb dX5_table_23 rfl hl (by decide) rfl (fun ls hl => ?_)
  have L24 : ∀ (n k : Nat), k + n = (n2 * n2) → ∀ (H : Heap) (locs : List Loc) (ls : Array Slot), va_P D vwCl [(a0, .inr (5, [.int 0, .int (nI Wd), .int (nI Hh), .int (nI n2), .int na, .int nb, .int rk, .int pr, .int bk, .ref a1, .ref a2, .ref a3, .ref a4, .ref a5, .ref a6, .ref a7, .int lo, .long bt, .long bb])), (a2, .inl (cyI, 64, .inl (idt k nu)))] H → va_D A [(a0, .inr (5, [.int 0, .int (nI Wd), .int (nI Hh), .int (nI n2), .int na, .int nb, .int rk, .int pr, .int bk, .ref a1, .ref a2, .ref a3, .ref a4, .ref a5, .ref a6, .ref a7, .int lo, .long bt, .long bb])), (a2, .inl (cyI, 64, .inl (idt k nu)))] → va_S A s.heap H locs → lv_has ls 3 [(0, .ref a0), (1, .int (nI n2)), (2, .int (nI k))] → W p l e rm_X5_table_ok s m ([.ref a0, .int (nI n2)] : List Value).toArray below meth c H locs 0 0 (MQ below (xk_Qi D A 1 [(a0, .inr (5, [.int 0, .int (nI Wd), .int (nI Hh), .int (nI n2), .int na, .int nb, .int rk, .int pr, .int bk, .ref a1, .ref a2, .ref a3, .ref a4, .ref a5, .ref a6, .ref a7, .int lo, .long bt, .long bb])), (a2, .inl (cyI, 64, .inl (idt (n2 * n2) nu)))]) ([.ref a0, .int (nI n2)] : List Value).toArray s 0 0 A) (F0 m 24 ls []) := by
    intro n
    induction n with
    | zero =>
      intro k hk_24  H locs ls hP hD hS hl
      have hz_24 : n2 * n2 = k := hk_24.symm
      subst hz_24
      refine lv_iload_n hx hb dX5_table_24 rfl (lv_at hl 2 rfl) ?_
      refine lv_aload_n hx hb dX5_table_25 rfl (lv_at hl 0 rfl) ?_
      refine va_get (D := D) (ci := 5) (v := .int (nI n2)) (C := RX5) (T := TX5) (N := 19) hx hb hts in_X5_table_ok_X5 hown hK hP 0 rfl rfl 3 (by decide) hf16 (fun _ h9 => h9) rfl dX5_table_26 ?_
      refine lv_aload_n hx hb dX5_table_29 rfl (lv_at hl 0 rfl) ?_
      refine va_get (D := D) (ci := 5) (v := .int (nI n2)) (C := RX5) (T := TX5) (N := 19) hx hb hts in_X5_table_ok_X5 hown hK hP 0 rfl rfl 3 (by decide) hf16 (fun _ h9 => h9) rfl dX5_table_30 ?_
      refine lv_imul hx hb dX5_table_33 ?_
      refine xk_topi (y := nI (n2 * n2)) (pk_mul _ _) ?_
      refine lv_icmp_ge (tgt := 50) hx hb dX5_table_34 (by decide) (fun c_34 => ?_) (fun c_34 => xk_ba c_34 (nI_le (Nat.le_refl _) (by omega)))
      refine lv_iconst (v := 1) hx hb dX5_table_50 (by decide) ?_
      exact xk_zret hx hb hr hlocks hP hD hS (rfl) (rfl) (rfl) dX5_table_51
    | succ n ih_24 =>
      intro k hk_24  H locs ls hP hD hS hl
      refine lv_iload_n hx hb dX5_table_24 rfl (lv_at hl 2 rfl) ?_
      refine lv_aload_n hx hb dX5_table_25 rfl (lv_at hl 0 rfl) ?_
      refine va_get (D := D) (ci := 5) (v := .int (nI n2)) (C := RX5) (T := TX5) (N := 19) hx hb hts in_X5_table_ok_X5 hown hK hP 0 rfl rfl 3 (by decide) hf16 (fun _ h9 => h9) rfl dX5_table_26 ?_
      refine lv_aload_n hx hb dX5_table_29 rfl (lv_at hl 0 rfl) ?_
      refine va_get (D := D) (ci := 5) (v := .int (nI n2)) (C := RX5) (T := TX5) (N := 19) hx hb hts in_X5_table_ok_X5 hown hK hP 0 rfl rfl 3 (by decide) hf16 (fun _ h9 => h9) rfl dX5_table_30 ?_
      refine lv_imul hx hb dX5_table_33 ?_
      refine xk_topi (y := nI (n2 * n2)) (pk_mul _ _) ?_
      refine lv_icmp_ge (tgt := 50) hx hb dX5_table_34 (by decide) (fun c_34 => xk_ab c_34 (nI_ge (by omega) (by omega))) (fun c_34 => ?_)
      refine lv_aload_n hx hb dX5_table_37 rfl (lv_at hl 0 rfl) ?_
      refine va_get (D := D) (ci := 5) (v := .ref a2) (C := RX5) (T := TX5) (N := 19) hx hb hts in_X5_table_ok_X5 hown hK hP 0 rfl rfl 10 (by decide) hf32 (fun _ h9 => h9) rfl dX5_table_38 ?_
      refine lv_iload_n hx hb dX5_table_41 rfl (lv_at hl 2 rfl) ?_
      refine lv_iload_n hx hb dX5_table_42 rfl (lv_at hl 2 rfl) ?_
      refine xk_iast (w2 := [(a0, .inr (5, [.int 0, .int (nI Wd), .int (nI Hh), .int (nI n2), .int na, .int nb, .int rk, .int pr, .int bk, .ref a1, .ref a2, .ref a3, .ref a4, .ref a5, .ref a6, .ref a7, .int lo, .long bt, .long bb])), (a2, .inl (cyI, 64, .inl (upd (idt k nu) k (nI k))))]) hx hb hK hP hD hS 1 rfl k (rfl) (by omega) (by decide) rfl dX5_table_43 (fun H locs hP hD hS => ?_)
      refine lv_iinc (v := nI (k + 1)) (lv' := [(2, .int (nI (k + 1))), (0, .ref a0), (1, .int (nI n2))]) hx hb dX5_table_44 hl (k := 2) rfl (nI_1 _) (by decide) rfl (fun ls hl => ?_)
      refine lv_goto (tgt := 24) hx hb dX5_table_47 (by decide) ?_
      have eq_54 : (upd (idt k nu) k (nI k) : Nat → Int32) = idt (k + 1) nu := idt_s k nu
      have eW : ([(a0, .inr (5, [.int 0, .int (nI Wd), .int (nI Hh), .int (nI n2), .int na, .int nb, .int rk, .int pr, .int bk, .ref a1, .ref a2, .ref a3, .ref a4, .ref a5, .ref a6, .ref a7, .int lo, .long bt, .long bb])), (a2, .inl (cyI, 64, .inl (upd (idt k nu) k (nI k))))] : va_W) = [(a0, .inr (5, [.int 0, .int (nI Wd), .int (nI Hh), .int (nI n2), .int na, .int nb, .int rk, .int pr, .int bk, .ref a1, .ref a2, .ref a3, .ref a4, .ref a5, .ref a6, .ref a7, .int lo, .long bt, .long bb])), (a2, .inl (cyI, 64, .inl (idt (k + 1) nu)))] := (congrArg (List.cons _) (congr (congrArg List.cons (congrArg (fun z => ((a2, (Sum.inl (cyI, 64, Sum.inl z) : va_E)) : Nat × va_E)) eq_54)) rfl))
      rw [eW] at hP hD
      have hl := lv_sub (l' := [(0, .ref a0), (1, .int (nI n2)), (2, .int (nI (k + 1)))]) hl [1, 2, 0] rfl
      exact ih_24 (k + 1) (by omega)  _ _ _ hP hD hS hl
  have eq_59 : (0 : Int32) = nI 0 := rfl
  have eq_60 : (nu : Nat → Int32) = idt 0 nu := (idt_0 nu).symm
  have eW : ([(a0, .inr (5, [.int 0, .int (nI Wd), .int (nI Hh), .int (nI n2), .int na, .int nb, .int rk, .int pr, .int bk, .ref a1, .ref a2, .ref a3, .ref a4, .ref a5, .ref a6, .ref a7, .int lo, .long bt, .long bb])), (a2, .inl (cyI, 64, .inl nu))] : va_W) = [(a0, .inr (5, [.int 0, .int (nI Wd), .int (nI Hh), .int (nI n2), .int na, .int nb, .int rk, .int pr, .int bk, .ref a1, .ref a2, .ref a3, .ref a4, .ref a5, .ref a6, .ref a7, .int lo, .long bt, .long bb])), (a2, .inl (cyI, 64, .inl (idt 0 nu)))] := (congrArg (List.cons _) (congr (congrArg List.cons (congrArg (fun z => ((a2, (Sum.inl (cyI, 64, Sum.inl z) : va_E)) : Nat × va_E)) eq_60)) rfl))
  rw [eW] at hP hD
  have hl := lv_sub (l' := [(0, .ref a0), (1, .int (nI n2)), (2, .int 0)]) hl [1, 2, 0] rfl
  have eL : ([(0, .ref a0), (1, .int (nI n2)), (2, .int 0)] : List (Nat × Value)) = [(0, .ref a0), (1, .int (nI n2)), (2, .int (nI 0))] := (congrArg (List.cons _) (congrArg (List.cons _) (congr (congrArg List.cons (congrArg (fun z => (((2 : Nat), Value.int z) : Nat × Value)) eq_59)) rfl)))
  rw [eL] at hl
  exact L24 _ 0 (Nat.zero_add _)  _ _ _ hP hD hS hl

abbrev rm_X5_exchange_no : Room := { frames := 2, cells := 0, slots := 0, locals := 44 }
theorem in_X5_exchange_no_X5 : ∀ w ∈ u_ws RX5 TX5 19, w ∈ wsX5_exchange := by decide +kernel
set_option maxHeartbeats 4000000 in
set_option maxRecDepth 100000 in
theorem ct_X5_exchange_no (l : Launch) (D : va_G) (cyI cyZ : ClassId) (a0 a1 a2 a3 a4 a5 a6 a7 : Nat) (sz : Nat) (th : Int32) (Wd Hh nn : Nat) (na nb rk pr bk lo : Int32) (bt bb : Int64) (nu : Nat → Int32) (x y : Int32) (hn1 : 1 ≤ nn) (hn2 : nn ≤ 8) (hno : ¬ st_pair nn x y) : Met l yX5_exchange wsX5_exchange rm_X5_exchange_no (xk_Pc D cyI cyZ [.ref a0, .int x, .int y] [(a0, .inr (5, [.int th, .int (nI Wd), .int (nI Hh), .int (nI nn), .int na, .int nb, .int rk, .int pr, .int bk, .ref a1, .ref a2, .ref a3, .ref a4, .ref a5, .ref a6, .ref a7, .int lo, .long bt, .long bb])), (a2, .inl (cyI, 64, .inl nu))] sz) (xk_Qi D (va_A [(a0, .inr (5, [.int th, .int (nI Wd), .int (nI Hh), .int (nI nn), .int na, .int nb, .int rk, .int pr, .int bk, .ref a1, .ref a2, .ref a3, .ref a4, .ref a5, .ref a6, .ref a7, .int lo, .long bt, .long bb])), (a2, .inl (cyI, 64, .inl nu))] sz) 0 [(a0, .inr (5, [.int 0, .int (nI Wd), .int (nI Hh), .int (nI nn), .int na, .int nb, .int rk, .int pr, .int bk, .ref a1, .ref a2, .ref a3, .ref a4, .ref a5, .ref a6, .ref a7, .int lo, .long bt, .long bb])), (a2, .inl (cyI, 64, .inl nu))]) 0 0 (va_A [(a0, .inr (5, [.int th, .int (nI Wd), .int (nI Hh), .int (nI nn), .int na, .int nb, .int rk, .int pr, .int bk, .ref a1, .ref a2, .ref a3, .ref a4, .ref a5, .ref a6, .ref a7, .int lo, .long bt, .long bb])), (a2, .inl (cyI, 64, .inl nu))] sz) := by
  refine xk_of (own := RX5) (cc := cX5_exchange) (maxL := 3) (ret := (some .boolean)) (Qc := fun A => xk_Qi D A 0 [(a0, .inr (5, [.int 0, .int (nI Wd), .int (nI Hh), .int (nI nn), .int na, .int nb, .int rk, .int pr, .int bk, .ref a1, .ref a2, .ref a3, .ref a4, .ref a5, .ref a6, .ref a7, .int lo, .long bt, .long bb])), (a2, .inl (cyI, 64, .inl nu))]) (by decide) rfl rfl (Nat.le_of_ble_eq_true rfl) ?_
  intro p e s m below meth c A ls hx hb hr hml hown hlocks hin hts hA hP hK hN hD hS hl
  have hC0 := xk_fix hx hb hml hown hts
  have hl : lv_has ls 3 [(0, .ref a0), (1, .int x), (2, .int y)] := hl
  have hf51 := hts (.fieldLink RX5 51 "DotPressModel" "thrown" "I") (by decide +kernel)
  refine lv_aload_n hx hb dX5_exchange_0 rfl (lv_at hl 0 rfl) ?_
  refine lv_iconst (v := 0) hx hb dX5_exchange_1 (by decide) ?_
  refine va_put (D := D) (ci := 5) (v := .int 0) (ty := .int) (C := RX5) (T := TX5) (N := 19) hx hb hts in_X5_exchange_no_X5 tyX5 tyX5_ok nmX5 hown hK hP hD hS 0 rfl rfl 0 (by decide) hf51 (fun _ h9 => h9) rfl (by decide +kernel) (rfl) (rfl) (Nat.le_of_ble_eq_true rfl) dX5_exchange_2 (fun H locs hP hD hS => ?_)
  have hP : va_P D vwCl [(a0, .inr (5, [.int 0, .int (nI Wd), .int (nI Hh), .int (nI nn), .int na, .int nb, .int rk, .int pr, .int bk, .ref a1, .ref a2, .ref a3, .ref a4, .ref a5, .ref a6, .ref a7, .int lo, .long bt, .long bb])), (a2, .inl (cyI, 64, .inl nu))] H := hP
  have hD : va_D A [(a0, .inr (5, [.int 0, .int (nI Wd), .int (nI Hh), .int (nI nn), .int na, .int nb, .int rk, .int pr, .int bk, .ref a1, .ref a2, .ref a3, .ref a4, .ref a5, .ref a6, .ref a7, .int lo, .long bt, .long bb])), (a2, .inl (cyI, 64, .inl nu))] := hD
  refine lv_aload_n hx hb dX5_exchange_5 rfl (lv_at hl 0 rfl) ?_
  refine lv_iload_n hx hb dX5_exchange_6 rfl (lv_at hl 1 rfl) ?_
  refine lv_iload_n hx hb dX5_exchange_7 rfl (lv_at hl 2 rfl) ?_
  have hPc := hP.sub (ws' := [(a0, .inr (5, [.int 0, .int (nI Wd), .int (nI Hh), .int (nI nn), .int na, .int nb, .int rk, .int pr, .int bk, .ref a1, .ref a2, .ref a3, .ref a4, .ref a5, .ref a6, .ref a7, .int lo, .long bt, .long bb]))]) [0] rfl
  have hDc := hD.sub (ws' := [(a0, .inr (5, [.int 0, .int (nI Wd), .int (nI Hh), .int (nI nn), .int na, .int nb, .int rk, .int pr, .int bk, .ref a1, .ref a2, .ref a3, .ref a4, .ref a5, .ref a6, .ref a7, .int lo, .long bt, .long bb]))]) [0] (by decide) rfl
  refine xk_calli (wr := [(a2, .inl (cyI, 64, .inl nu))]) (w2 := [(a0, .inr (5, [.int 0, .int (nI Wd), .int (nI Hh), .int (nI nn), .int na, .int nb, .int rk, .int pr, .int bk, .ref a1, .ref a2, .ref a3, .ref a4, .ref a5, .ref a6, .ref a7, .int lo, .long bt, .long bb])), (a2, .inl (cyI, 64, .inl nu))]) (va_runV (As := [.int x, .int y]) (rest := []) hC0 (ct_X5_isPair l D cyI cyZ a0 a1 a2 a3 a4 a5 a6 a7 _ 0 Wd Hh nn na nb rk pr bk lo bt bb x y (by first | assumption | omega) (by first | assumption | omega)) (cwV 2 hts gX5_exchange_X5_isPair rfl rfl rfl (by decide +kernel) ⟨Nat.le_of_ble_eq_true rfl, Nat.le_of_ble_eq_true rfl⟩) ⟨xk_blind, va_recv hK hPc (ci := 5) (q0 := 0) rfl rfl, xk_pre hK hN hPc hDc⟩ rfl rfl hl.1 rfl (lv_room (Nat.le_of_ble_eq_true rfl)) dX5_exchange_8 ⟨Nat.le_of_ble_eq_true rfl, Nat.le_of_ble_eq_true rfl⟩) hP hD hS hA [0] [1] [1, 0] rfl rfl (by decide) (by decide) rfl (by decide) (fun H locs hP hD hS => ?_)
  refine lv_if_ne (tgt := 16) hx hb dX5_exchange_11 (by decide) (fun c_11 => xk_ba c_11 (bI_z.mpr hno)) (fun c_11 => ?_)
  have c_11 := bI_z.mp c_11
  refine lv_iconst (v := 0) hx hb dX5_exchange_14 (by decide) ?_
  exact xk_zret hx hb hr hlocks hP hD hS (rfl) (rfl) (rfl) dX5_exchange_15

abbrev rm_X5_exchange_ok : Room := { frames := 2, cells := 0, slots := 0, locals := 44 }
theorem in_X5_exchange_ok_X5 : ∀ w ∈ u_ws RX5 TX5 19, w ∈ wsX5_exchange := by decide +kernel
set_option maxHeartbeats 4000000 in
set_option maxRecDepth 100000 in
theorem ct_X5_exchange_ok (l : Launch) (D : va_G) (cyI cyZ : ClassId) (a0 a1 a2 a3 a4 a5 a6 a7 : Nat) (sz : Nat) (th : Int32) (Wd Hh nn : Nat) (na nb rk pr bk lo : Int32) (bt bb : Int64) (nu : Nat → Int32) (j1 j2 : Nat) (hn1 : 1 ≤ nn) (hn2 : nn ≤ 8) (hj1 : j1 < nn * nn) (hj2 : j2 < nn * nn) (hne : j1 ≠ j2) : Met l yX5_exchange wsX5_exchange rm_X5_exchange_ok (xk_Pc D cyI cyZ [.ref a0, .int (nI j1), .int (nI j2)] [(a0, .inr (5, [.int th, .int (nI Wd), .int (nI Hh), .int (nI nn), .int na, .int nb, .int rk, .int pr, .int bk, .ref a1, .ref a2, .ref a3, .ref a4, .ref a5, .ref a6, .ref a7, .int lo, .long bt, .long bb])), (a2, .inl (cyI, 64, .inl nu))] sz) (xk_Qi D (va_A [(a0, .inr (5, [.int th, .int (nI Wd), .int (nI Hh), .int (nI nn), .int na, .int nb, .int rk, .int pr, .int bk, .ref a1, .ref a2, .ref a3, .ref a4, .ref a5, .ref a6, .ref a7, .int lo, .long bt, .long bb])), (a2, .inl (cyI, 64, .inl nu))] sz) 1 [(a0, .inr (5, [.int 0, .int (nI Wd), .int (nI Hh), .int (nI nn), .int na, .int nb, .int rk, .int pr, .int bk, .ref a1, .ref a2, .ref a3, .ref a4, .ref a5, .ref a6, .ref a7, .int lo, .long bt, .long bb])), (a2, .inl (cyI, 64, .inl (sw nu j1 j2)))]) 0 0 (va_A [(a0, .inr (5, [.int th, .int (nI Wd), .int (nI Hh), .int (nI nn), .int na, .int nb, .int rk, .int pr, .int bk, .ref a1, .ref a2, .ref a3, .ref a4, .ref a5, .ref a6, .ref a7, .int lo, .long bt, .long bb])), (a2, .inl (cyI, 64, .inl nu))] sz) := by
  refine xk_of (own := RX5) (cc := cX5_exchange) (maxL := 3) (ret := (some .boolean)) (Qc := fun A => xk_Qi D A 1 [(a0, .inr (5, [.int 0, .int (nI Wd), .int (nI Hh), .int (nI nn), .int na, .int nb, .int rk, .int pr, .int bk, .ref a1, .ref a2, .ref a3, .ref a4, .ref a5, .ref a6, .ref a7, .int lo, .long bt, .long bb])), (a2, .inl (cyI, 64, .inl (sw nu j1 j2)))]) (by decide) rfl rfl (Nat.le_of_ble_eq_true rfl) ?_
  intro p e s m below meth c A ls hx hb hr hml hown hlocks hin hts hA hP hK hN hD hS hl
  have hC0 := xk_fix hx hb hml hown hts
  have hl : lv_has ls 3 [(0, .ref a0), (1, .int (nI j1)), (2, .int (nI j2))] := hl
  have hf51 := hts (.fieldLink RX5 51 "DotPressModel" "thrown" "I") (by decide +kernel)
  have hq : nn * nn ≤ 64 := Nat.mul_le_mul hn2 hn2
  refine lv_aload_n hx hb dX5_exchange_0 rfl (lv_at hl 0 rfl) ?_
  refine lv_iconst (v := 0) hx hb dX5_exchange_1 (by decide) ?_
  refine va_put (D := D) (ci := 5) (v := .int 0) (ty := .int) (C := RX5) (T := TX5) (N := 19) hx hb hts in_X5_exchange_ok_X5 tyX5 tyX5_ok nmX5 hown hK hP hD hS 0 rfl rfl 0 (by decide) hf51 (fun _ h9 => h9) rfl (by decide +kernel) (rfl) (rfl) (Nat.le_of_ble_eq_true rfl) dX5_exchange_2 (fun H locs hP hD hS => ?_)
  have hP : va_P D vwCl [(a0, .inr (5, [.int 0, .int (nI Wd), .int (nI Hh), .int (nI nn), .int na, .int nb, .int rk, .int pr, .int bk, .ref a1, .ref a2, .ref a3, .ref a4, .ref a5, .ref a6, .ref a7, .int lo, .long bt, .long bb])), (a2, .inl (cyI, 64, .inl nu))] H := hP
  have hD : va_D A [(a0, .inr (5, [.int 0, .int (nI Wd), .int (nI Hh), .int (nI nn), .int na, .int nb, .int rk, .int pr, .int bk, .ref a1, .ref a2, .ref a3, .ref a4, .ref a5, .ref a6, .ref a7, .int lo, .long bt, .long bb])), (a2, .inl (cyI, 64, .inl nu))] := hD
  refine lv_aload_n hx hb dX5_exchange_5 rfl (lv_at hl 0 rfl) ?_
  refine lv_iload_n hx hb dX5_exchange_6 rfl (lv_at hl 1 rfl) ?_
  refine lv_iload_n hx hb dX5_exchange_7 rfl (lv_at hl 2 rfl) ?_
  have hPc := hP.sub (ws' := [(a0, .inr (5, [.int 0, .int (nI Wd), .int (nI Hh), .int (nI nn), .int na, .int nb, .int rk, .int pr, .int bk, .ref a1, .ref a2, .ref a3, .ref a4, .ref a5, .ref a6, .ref a7, .int lo, .long bt, .long bb]))]) [0] rfl
  have hDc := hD.sub (ws' := [(a0, .inr (5, [.int 0, .int (nI Wd), .int (nI Hh), .int (nI nn), .int na, .int nb, .int rk, .int pr, .int bk, .ref a1, .ref a2, .ref a3, .ref a4, .ref a5, .ref a6, .ref a7, .int lo, .long bt, .long bb]))]) [0] (by decide) rfl
  refine xk_calli (wr := [(a2, .inl (cyI, 64, .inl nu))]) (w2 := [(a0, .inr (5, [.int 0, .int (nI Wd), .int (nI Hh), .int (nI nn), .int na, .int nb, .int rk, .int pr, .int bk, .ref a1, .ref a2, .ref a3, .ref a4, .ref a5, .ref a6, .ref a7, .int lo, .long bt, .long bb])), (a2, .inl (cyI, 64, .inl nu))]) (va_runV (As := [.int (nI j1), .int (nI j2)]) (rest := []) hC0 (ct_X5_isPair l D cyI cyZ a0 a1 a2 a3 a4 a5 a6 a7 _ 0 Wd Hh nn na nb rk pr bk lo bt bb (nI j1) (nI j2) (by first | assumption | omega) (by first | assumption | omega)) (cwV 2 hts gX5_exchange_X5_isPair rfl rfl rfl (by decide +kernel) ⟨Nat.le_of_ble_eq_true rfl, Nat.le_of_ble_eq_true rfl⟩) ⟨xk_blind, va_recv hK hPc (ci := 5) (q0 := 0) rfl rfl, xk_pre hK hN hPc hDc⟩ rfl rfl hl.1 rfl (lv_room (Nat.le_of_ble_eq_true rfl)) dX5_exchange_8 ⟨Nat.le_of_ble_eq_true rfl, Nat.le_of_ble_eq_true rfl⟩) hP hD hS hA [0] [1] [1, 0] rfl rfl (by decide) (by decide) rfl (by decide) (fun H locs hP hD hS => ?_)
  refine lv_if_ne (tgt := 16) hx hb dX5_exchange_11 (by decide) (fun c_11 => ?_) (fun c_11 => xk_ab c_11 (bI_nz.mpr (st_pair_in hn2 hj1 hj2 hne)))
  have c_11 := bI_nz.mp c_11
  refine lv_aload_n hx hb dX5_exchange_16 rfl (lv_at hl 0 rfl) ?_
  refine lv_iload_n hx hb dX5_exchange_17 rfl (lv_at hl 1 rfl) ?_
  refine lv_iload_n hx hb dX5_exchange_18 rfl (lv_at hl 2 rfl) ?_
  have hPc := hP.sub (ws' := [(a0, .inr (5, [.int 0, .int (nI Wd), .int (nI Hh), .int (nI nn), .int na, .int nb, .int rk, .int pr, .int bk, .ref a1, .ref a2, .ref a3, .ref a4, .ref a5, .ref a6, .ref a7, .int lo, .long bt, .long bb])), (a2, .inl (cyI, 64, .inl nu))]) [0, 1] rfl
  have hDc := hD.sub (ws' := [(a0, .inr (5, [.int 0, .int (nI Wd), .int (nI Hh), .int (nI nn), .int na, .int nb, .int rk, .int pr, .int bk, .ref a1, .ref a2, .ref a3, .ref a4, .ref a5, .ref a6, .ref a7, .int lo, .long bt, .long bb])), (a2, .inl (cyI, 64, .inl nu))]) [0, 1] (by decide) rfl
  refine xk_callv (wr := []) (w2 := [(a0, .inr (5, [.int 0, .int (nI Wd), .int (nI Hh), .int (nI nn), .int na, .int nb, .int rk, .int pr, .int bk, .ref a1, .ref a2, .ref a3, .ref a4, .ref a5, .ref a6, .ref a7, .int lo, .long bt, .long bb])), (a2, .inl (cyI, 64, .inl (sw nu j1 j2)))]) (va_runV (As := [.int (nI j1), .int (nI j2)]) (rest := []) hC0 (ct_X5_change l D cyI cyZ a0 a1 a2 a3 a4 a5 a6 a7 _ 0 Wd Hh nn na nb rk pr bk lo bt bb nu j1 j2 (by first | assumption | omega) (by first | assumption | omega)) (cwV 2 hts gX5_exchange_X5_change rfl rfl rfl (by decide +kernel) ⟨Nat.le_of_ble_eq_true rfl, Nat.le_of_ble_eq_true rfl⟩) ⟨xk_blind, va_recv hK hPc (ci := 5) (q0 := 0) rfl rfl, xk_pre hK hN hPc hDc⟩ rfl rfl hl.1 rfl (lv_room (Nat.le_of_ble_eq_true rfl)) dX5_exchange_19 ⟨Nat.le_of_ble_eq_true rfl, Nat.le_of_ble_eq_true rfl⟩) hP hD hS hA [0, 1] [] [0, 1] rfl rfl (by decide) (by decide) rfl (by decide) (fun H locs hP hD hS => ?_)
  refine lv_iconst (v := 1) hx hb dX5_exchange_22 (by decide) ?_
  exact xk_zret hx hb hr hlocks hP hD hS (rfl) (rfl) (rfl) dX5_exchange_23

abbrev rm_X5_number_no : Room := { frames := 1, cells := 0, slots := 0, locals := 22 }
theorem in_X5_number_no_X5 : ∀ w ∈ u_ws RX5 TX5 19, w ∈ wsX5_number := by decide +kernel
set_option maxHeartbeats 4000000 in
set_option maxRecDepth 100000 in
theorem ct_X5_number_no (l : Launch) (D : va_G) (cyI cyZ : ClassId) (a0 a1 a2 a3 a4 a5 a6 a7 : Nat) (sz : Nat) (th : Int32) (Wd Hh nn : Nat) (na nb rk pr bk lo : Int32) (bt bb : Int64) (nu : Nat → Int32) (x : Int32) (hn1 : 1 ≤ nn) (hn2 : nn ≤ 8) (hno : ¬ st_has nn x) : Met l yX5_number wsX5_number rm_X5_number_no (xk_Pc D cyI cyZ [.ref a0, .int x] [(a0, .inr (5, [.int th, .int (nI Wd), .int (nI Hh), .int (nI nn), .int na, .int nb, .int rk, .int pr, .int bk, .ref a1, .ref a2, .ref a3, .ref a4, .ref a5, .ref a6, .ref a7, .int lo, .long bt, .long bb])), (a2, .inl (cyI, 64, .inl nu))] sz) (xk_Qi D (va_A [(a0, .inr (5, [.int th, .int (nI Wd), .int (nI Hh), .int (nI nn), .int na, .int nb, .int rk, .int pr, .int bk, .ref a1, .ref a2, .ref a3, .ref a4, .ref a5, .ref a6, .ref a7, .int lo, .long bt, .long bb])), (a2, .inl (cyI, 64, .inl nu))] sz) (-1) [(a0, .inr (5, [.int 0, .int (nI Wd), .int (nI Hh), .int (nI nn), .int na, .int nb, .int rk, .int pr, .int bk, .ref a1, .ref a2, .ref a3, .ref a4, .ref a5, .ref a6, .ref a7, .int lo, .long bt, .long bb])), (a2, .inl (cyI, 64, .inl nu))]) 0 0 (va_A [(a0, .inr (5, [.int th, .int (nI Wd), .int (nI Hh), .int (nI nn), .int na, .int nb, .int rk, .int pr, .int bk, .ref a1, .ref a2, .ref a3, .ref a4, .ref a5, .ref a6, .ref a7, .int lo, .long bt, .long bb])), (a2, .inl (cyI, 64, .inl nu))] sz) := by
  refine xk_of (own := RX5) (cc := cX5_number) (maxL := 2) (ret := (some .int)) (Qc := fun A => xk_Qi D A (-1) [(a0, .inr (5, [.int 0, .int (nI Wd), .int (nI Hh), .int (nI nn), .int na, .int nb, .int rk, .int pr, .int bk, .ref a1, .ref a2, .ref a3, .ref a4, .ref a5, .ref a6, .ref a7, .int lo, .long bt, .long bb])), (a2, .inl (cyI, 64, .inl nu))]) (by decide) rfl rfl (Nat.le_of_ble_eq_true rfl) ?_
  intro p e s m below meth c A ls hx hb hr hml hown hlocks hin hts hA hP hK hN hD hS hl
  have hC0 := xk_fix hx hb hml hown hts
  have hl : lv_has ls 2 [(0, .ref a0), (1, .int x)] := hl
  have hf16 := hts (.fieldLink RX5 16 "DotPressModel" "n" "I") (by decide +kernel)
  have hf51 := hts (.fieldLink RX5 51 "DotPressModel" "thrown" "I") (by decide +kernel)
  refine lv_aload_n hx hb dX5_number_0 rfl (lv_at hl 0 rfl) ?_
  refine lv_iconst (v := 0) hx hb dX5_number_1 (by decide) ?_
  refine va_put (D := D) (ci := 5) (v := .int 0) (ty := .int) (C := RX5) (T := TX5) (N := 19) hx hb hts in_X5_number_no_X5 tyX5 tyX5_ok nmX5 hown hK hP hD hS 0 rfl rfl 0 (by decide) hf51 (fun _ h9 => h9) rfl (by decide +kernel) (rfl) (rfl) (Nat.le_of_ble_eq_true rfl) dX5_number_2 (fun H locs hP hD hS => ?_)
  have hP : va_P D vwCl [(a0, .inr (5, [.int 0, .int (nI Wd), .int (nI Hh), .int (nI nn), .int na, .int nb, .int rk, .int pr, .int bk, .ref a1, .ref a2, .ref a3, .ref a4, .ref a5, .ref a6, .ref a7, .int lo, .long bt, .long bb])), (a2, .inl (cyI, 64, .inl nu))] H := hP
  have hD : va_D A [(a0, .inr (5, [.int 0, .int (nI Wd), .int (nI Hh), .int (nI nn), .int na, .int nb, .int rk, .int pr, .int bk, .ref a1, .ref a2, .ref a3, .ref a4, .ref a5, .ref a6, .ref a7, .int lo, .long bt, .long bb])), (a2, .inl (cyI, 64, .inl nu))] := hD
  refine lv_iload_n hx hb dX5_number_5 rfl (lv_at hl 1 rfl) ?_
  refine lv_iconst (v := 0) hx hb dX5_number_6 (by decide) ?_
  refine lv_aload_n hx hb dX5_number_7 rfl (lv_at hl 0 rfl) ?_
  refine va_get (D := D) (ci := 5) (v := .int (nI nn)) (C := RX5) (T := TX5) (N := 19) hx hb hts in_X5_number_no_X5 hown hK hP 0 rfl rfl 3 (by decide) hf16 (fun _ h9 => h9) rfl dX5_number_8 ?_
  refine lv_aload_n hx hb dX5_number_11 rfl (lv_at hl 0 rfl) ?_
  refine va_get (D := D) (ci := 5) (v := .int (nI nn)) (C := RX5) (T := TX5) (N := 19) hx hb hts in_X5_number_no_X5 hown hK hP 0 rfl rfl 3 (by decide) hf16 (fun _ h9 => h9) rfl dX5_number_12 ?_
  refine lv_imul hx hb dX5_number_15 ?_
  refine lv_iconst (v := 1) hx hb dX5_number_16 (by decide) ?_
  refine lv_isub hx hb dX5_number_17 ?_
  have hPc := hP.sub (ws' := []) [] rfl
  have hDc := hD.sub (ws' := []) [] (by decide) rfl
  refine xk_calli (wr := [(a0, .inr (5, [.int 0, .int (nI Wd), .int (nI Hh), .int (nI nn), .int na, .int nb, .int rk, .int pr, .int bk, .ref a1, .ref a2, .ref a3, .ref a4, .ref a5, .ref a6, .ref a7, .int lo, .long bt, .long bb])), (a2, .inl (cyI, 64, .inl nu))]) (w2 := [(a0, .inr (5, [.int 0, .int (nI Wd), .int (nI Hh), .int (nI nn), .int na, .int nb, .int rk, .int pr, .int bk, .ref a1, .ref a2, .ref a3, .ref a4, .ref a5, .ref a6, .ref a7, .int lo, .long bt, .long bb])), (a2, .inl (cyI, 64, .inl nu))]) (va_runS (As := [.int x, .int 0, .int ((nI nn * nI nn) - 1)]) (rest := []) hC0 (ct_X5_isIn l D cyI cyZ  _ x 0 ((nI nn * nI nn) - 1) ) (va_cwS 3 hts gX5_number_X5_isIn rfl rfl rfl (by decide +kernel) ⟨Nat.le_of_ble_eq_true rfl, Nat.le_of_ble_eq_true rfl⟩) ⟨xk_blind, xk_pre hK hN hPc hDc⟩ rfl rfl hl.1 rfl (lv_room (Nat.le_of_ble_eq_true rfl)) dX5_number_18 ⟨Nat.le_of_ble_eq_true rfl, Nat.le_of_ble_eq_true rfl⟩) hP hD hS hA [] [0, 1] [0, 1] rfl rfl (by decide) (by decide) rfl (by decide) (fun H locs hP hD hS => ?_)
  refine lv_if_eq (tgt := 33) hx hb dX5_number_21 (by decide) (fun c_21 => ?_) (fun c_21 => xk_ba c_21 (bI_z.mpr (fun h => hno ((md_nn hn1 hn2).mp h))))
  have c_21 := bI_z.mp c_21
  refine lv_iconst (v := (-1)) hx hb dX5_number_33 (by decide) ?_
  exact xk_iret hx hb hr hlocks hP hD hS (rfl) (rfl) dX5_number_34

abbrev rm_X5_number_ok : Room := { frames := 1, cells := 0, slots := 0, locals := 22 }
theorem in_X5_number_ok_X5 : ∀ w ∈ u_ws RX5 TX5 19, w ∈ wsX5_number := by decide +kernel
set_option maxHeartbeats 4000000 in
set_option maxRecDepth 100000 in
theorem ct_X5_number_ok (l : Launch) (D : va_G) (cyI cyZ : ClassId) (a0 a1 a2 a3 a4 a5 a6 a7 : Nat) (sz : Nat) (th : Int32) (Wd Hh nn : Nat) (na nb rk pr bk lo : Int32) (bt bb : Int64) (nu : Nat → Int32) (j1 : Nat) (hn1 : 1 ≤ nn) (hn2 : nn ≤ 8) (hj1 : j1 < nn * nn) : Met l yX5_number wsX5_number rm_X5_number_ok (xk_Pc D cyI cyZ [.ref a0, .int (nI j1)] [(a0, .inr (5, [.int th, .int (nI Wd), .int (nI Hh), .int (nI nn), .int na, .int nb, .int rk, .int pr, .int bk, .ref a1, .ref a2, .ref a3, .ref a4, .ref a5, .ref a6, .ref a7, .int lo, .long bt, .long bb])), (a2, .inl (cyI, 64, .inl nu))] sz) (xk_Qi D (va_A [(a0, .inr (5, [.int th, .int (nI Wd), .int (nI Hh), .int (nI nn), .int na, .int nb, .int rk, .int pr, .int bk, .ref a1, .ref a2, .ref a3, .ref a4, .ref a5, .ref a6, .ref a7, .int lo, .long bt, .long bb])), (a2, .inl (cyI, 64, .inl nu))] sz) (nu j1) [(a0, .inr (5, [.int 0, .int (nI Wd), .int (nI Hh), .int (nI nn), .int na, .int nb, .int rk, .int pr, .int bk, .ref a1, .ref a2, .ref a3, .ref a4, .ref a5, .ref a6, .ref a7, .int lo, .long bt, .long bb])), (a2, .inl (cyI, 64, .inl nu))]) 0 0 (va_A [(a0, .inr (5, [.int th, .int (nI Wd), .int (nI Hh), .int (nI nn), .int na, .int nb, .int rk, .int pr, .int bk, .ref a1, .ref a2, .ref a3, .ref a4, .ref a5, .ref a6, .ref a7, .int lo, .long bt, .long bb])), (a2, .inl (cyI, 64, .inl nu))] sz) := by
  refine xk_of (own := RX5) (cc := cX5_number) (maxL := 2) (ret := (some .int)) (Qc := fun A => xk_Qi D A (nu j1) [(a0, .inr (5, [.int 0, .int (nI Wd), .int (nI Hh), .int (nI nn), .int na, .int nb, .int rk, .int pr, .int bk, .ref a1, .ref a2, .ref a3, .ref a4, .ref a5, .ref a6, .ref a7, .int lo, .long bt, .long bb])), (a2, .inl (cyI, 64, .inl nu))]) (by decide) rfl rfl (Nat.le_of_ble_eq_true rfl) ?_
  intro p e s m below meth c A ls hx hb hr hml hown hlocks hin hts hA hP hK hN hD hS hl
  have hC0 := xk_fix hx hb hml hown hts
  have hl : lv_has ls 2 [(0, .ref a0), (1, .int (nI j1))] := hl
  have hf16 := hts (.fieldLink RX5 16 "DotPressModel" "n" "I") (by decide +kernel)
  have hf32 := hts (.fieldLink RX5 32 "DotPressModel" "number" "[I") (by decide +kernel)
  have hf51 := hts (.fieldLink RX5 51 "DotPressModel" "thrown" "I") (by decide +kernel)
  have hq : nn * nn ≤ 64 := Nat.mul_le_mul hn2 hn2
  refine lv_aload_n hx hb dX5_number_0 rfl (lv_at hl 0 rfl) ?_
  refine lv_iconst (v := 0) hx hb dX5_number_1 (by decide) ?_
  refine va_put (D := D) (ci := 5) (v := .int 0) (ty := .int) (C := RX5) (T := TX5) (N := 19) hx hb hts in_X5_number_ok_X5 tyX5 tyX5_ok nmX5 hown hK hP hD hS 0 rfl rfl 0 (by decide) hf51 (fun _ h9 => h9) rfl (by decide +kernel) (rfl) (rfl) (Nat.le_of_ble_eq_true rfl) dX5_number_2 (fun H locs hP hD hS => ?_)
  have hP : va_P D vwCl [(a0, .inr (5, [.int 0, .int (nI Wd), .int (nI Hh), .int (nI nn), .int na, .int nb, .int rk, .int pr, .int bk, .ref a1, .ref a2, .ref a3, .ref a4, .ref a5, .ref a6, .ref a7, .int lo, .long bt, .long bb])), (a2, .inl (cyI, 64, .inl nu))] H := hP
  have hD : va_D A [(a0, .inr (5, [.int 0, .int (nI Wd), .int (nI Hh), .int (nI nn), .int na, .int nb, .int rk, .int pr, .int bk, .ref a1, .ref a2, .ref a3, .ref a4, .ref a5, .ref a6, .ref a7, .int lo, .long bt, .long bb])), (a2, .inl (cyI, 64, .inl nu))] := hD
  refine lv_iload_n hx hb dX5_number_5 rfl (lv_at hl 1 rfl) ?_
  refine lv_iconst (v := 0) hx hb dX5_number_6 (by decide) ?_
  refine lv_aload_n hx hb dX5_number_7 rfl (lv_at hl 0 rfl) ?_
  refine va_get (D := D) (ci := 5) (v := .int (nI nn)) (C := RX5) (T := TX5) (N := 19) hx hb hts in_X5_number_ok_X5 hown hK hP 0 rfl rfl 3 (by decide) hf16 (fun _ h9 => h9) rfl dX5_number_8 ?_
  refine lv_aload_n hx hb dX5_number_11 rfl (lv_at hl 0 rfl) ?_
  refine va_get (D := D) (ci := 5) (v := .int (nI nn)) (C := RX5) (T := TX5) (N := 19) hx hb hts in_X5_number_ok_X5 hown hK hP 0 rfl rfl 3 (by decide) hf16 (fun _ h9 => h9) rfl dX5_number_12 ?_
  refine lv_imul hx hb dX5_number_15 ?_
  refine lv_iconst (v := 1) hx hb dX5_number_16 (by decide) ?_
  refine lv_isub hx hb dX5_number_17 ?_
  have hPc := hP.sub (ws' := []) [] rfl
  have hDc := hD.sub (ws' := []) [] (by decide) rfl
  refine xk_calli (wr := [(a0, .inr (5, [.int 0, .int (nI Wd), .int (nI Hh), .int (nI nn), .int na, .int nb, .int rk, .int pr, .int bk, .ref a1, .ref a2, .ref a3, .ref a4, .ref a5, .ref a6, .ref a7, .int lo, .long bt, .long bb])), (a2, .inl (cyI, 64, .inl nu))]) (w2 := [(a0, .inr (5, [.int 0, .int (nI Wd), .int (nI Hh), .int (nI nn), .int na, .int nb, .int rk, .int pr, .int bk, .ref a1, .ref a2, .ref a3, .ref a4, .ref a5, .ref a6, .ref a7, .int lo, .long bt, .long bb])), (a2, .inl (cyI, 64, .inl nu))]) (va_runS (As := [.int (nI j1), .int 0, .int ((nI nn * nI nn) - 1)]) (rest := []) hC0 (ct_X5_isIn l D cyI cyZ  _ (nI j1) 0 ((nI nn * nI nn) - 1) ) (va_cwS 3 hts gX5_number_X5_isIn rfl rfl rfl (by decide +kernel) ⟨Nat.le_of_ble_eq_true rfl, Nat.le_of_ble_eq_true rfl⟩) ⟨xk_blind, xk_pre hK hN hPc hDc⟩ rfl rfl hl.1 rfl (lv_room (Nat.le_of_ble_eq_true rfl)) dX5_number_18 ⟨Nat.le_of_ble_eq_true rfl, Nat.le_of_ble_eq_true rfl⟩) hP hD hS hA [] [0, 1] [0, 1] rfl rfl (by decide) (by decide) rfl (by decide) (fun H locs hP hD hS => ?_)
  refine lv_if_eq (tgt := 33) hx hb dX5_number_21 (by decide) (fun c_21 => xk_ab c_21 (bI_nz.mpr ((md_nn hn1 hn2).mpr (st_has_in hn2 hj1)))) (fun c_21 => ?_)
  have c_21 := bI_nz.mp c_21
  refine lv_aload_n hx hb dX5_number_24 rfl (lv_at hl 0 rfl) ?_
  refine va_get (D := D) (ci := 5) (v := .ref a2) (C := RX5) (T := TX5) (N := 19) hx hb hts in_X5_number_ok_X5 hown hK hP 0 rfl rfl 10 (by decide) hf32 (fun _ h9 => h9) rfl dX5_number_25 ?_
  refine lv_iload_n hx hb dX5_number_28 rfl (lv_at hl 1 rfl) ?_
  refine xk_iald hx hb hK hP 1 rfl j1 (rfl) (by omega) (by decide) dX5_number_29 ?_
  refine lv_goto (tgt := 34) hx hb dX5_number_30 (by decide) ?_
  exact xk_iret hx hb hr hlocks hP hD hS (rfl) (rfl) dX5_number_34

abbrev rm_X5_back_so : Room := { frames := 0, cells := 0, slots := 0, locals := 0 }
theorem in_X5_back_so_X5 : ∀ w ∈ u_ws RX5 TX5 19, w ∈ wsX5_back := by decide +kernel
set_option maxHeartbeats 4000000 in
set_option maxRecDepth 100000 in
theorem ct_X5_back_so (l : Launch) (D : va_G) (cyI cyZ : ClassId) (a0 a1 a2 a3 a4 a5 a6 a7 : Nat) (sz : Nat) (th : Int32) (Wd Hh nn : Nat) (na nb rk pr bk lo : Int32) (bt bb : Int64) (v : Int32) (hs : bk = v) : Met l yX5_back wsX5_back rm_X5_back_so (xk_Pc D cyI cyZ [.ref a0, .int v] [(a0, .inr (5, [.int th, .int (nI Wd), .int (nI Hh), .int (nI nn), .int na, .int nb, .int rk, .int pr, .int bk, .ref a1, .ref a2, .ref a3, .ref a4, .ref a5, .ref a6, .ref a7, .int lo, .long bt, .long bb]))] sz) (xk_Qi D (va_A [(a0, .inr (5, [.int th, .int (nI Wd), .int (nI Hh), .int (nI nn), .int na, .int nb, .int rk, .int pr, .int bk, .ref a1, .ref a2, .ref a3, .ref a4, .ref a5, .ref a6, .ref a7, .int lo, .long bt, .long bb]))] sz) 0 [(a0, .inr (5, [.int 0, .int (nI Wd), .int (nI Hh), .int (nI nn), .int na, .int nb, .int rk, .int pr, .int bk, .ref a1, .ref a2, .ref a3, .ref a4, .ref a5, .ref a6, .ref a7, .int lo, .long bt, .long bb]))]) 0 0 (va_A [(a0, .inr (5, [.int th, .int (nI Wd), .int (nI Hh), .int (nI nn), .int na, .int nb, .int rk, .int pr, .int bk, .ref a1, .ref a2, .ref a3, .ref a4, .ref a5, .ref a6, .ref a7, .int lo, .long bt, .long bb]))] sz) := by
  refine xk_of (own := RX5) (cc := cX5_back) (maxL := 2) (ret := (some .boolean)) (Qc := fun A => xk_Qi D A 0 [(a0, .inr (5, [.int 0, .int (nI Wd), .int (nI Hh), .int (nI nn), .int na, .int nb, .int rk, .int pr, .int bk, .ref a1, .ref a2, .ref a3, .ref a4, .ref a5, .ref a6, .ref a7, .int lo, .long bt, .long bb]))]) (by decide) rfl rfl (Nat.le_of_ble_eq_true rfl) ?_
  intro p e s m below meth c A ls hx hb hr hml hown hlocks hin hts hA hP hK hN hD hS hl
  have hC0 := xk_fix hx hb hml hown hts
  have hl : lv_has ls 2 [(0, .ref a0), (1, .int v)] := hl
  have hf51 := hts (.fieldLink RX5 51 "DotPressModel" "thrown" "I") (by decide +kernel)
  have hf97 := hts (.fieldLink RX5 97 "DotPressModel" "isBack" "Z") (by decide +kernel)
  refine lv_aload_n hx hb dX5_back_0 rfl (lv_at hl 0 rfl) ?_
  refine lv_iconst (v := 0) hx hb dX5_back_1 (by decide) ?_
  refine va_put (D := D) (ci := 5) (v := .int 0) (ty := .int) (C := RX5) (T := TX5) (N := 19) hx hb hts in_X5_back_so_X5 tyX5 tyX5_ok nmX5 hown hK hP hD hS 0 rfl rfl 0 (by decide) hf51 (fun _ h9 => h9) rfl (by decide +kernel) (rfl) (rfl) (Nat.le_of_ble_eq_true rfl) dX5_back_2 (fun H locs hP hD hS => ?_)
  have hP : va_P D vwCl [(a0, .inr (5, [.int 0, .int (nI Wd), .int (nI Hh), .int (nI nn), .int na, .int nb, .int rk, .int pr, .int bk, .ref a1, .ref a2, .ref a3, .ref a4, .ref a5, .ref a6, .ref a7, .int lo, .long bt, .long bb]))] H := hP
  have hD : va_D A [(a0, .inr (5, [.int 0, .int (nI Wd), .int (nI Hh), .int (nI nn), .int na, .int nb, .int rk, .int pr, .int bk, .ref a1, .ref a2, .ref a3, .ref a4, .ref a5, .ref a6, .ref a7, .int lo, .long bt, .long bb]))] := hD
  refine lv_aload_n hx hb dX5_back_5 rfl (lv_at hl 0 rfl) ?_
  refine va_get (D := D) (ci := 5) (v := .int bk) (C := RX5) (T := TX5) (N := 19) hx hb hts in_X5_back_so_X5 hown hK hP 0 rfl rfl 8 (by decide) hf97 (fun _ h9 => h9) rfl dX5_back_6 ?_
  refine lv_iload_n hx hb dX5_back_9 rfl (lv_at hl 1 rfl) ?_
  refine lv_icmp_ne (tgt := 15) hx hb dX5_back_10 (by decide) (fun c_10 => xk_ba c_10 (hs)) (fun c_10 => ?_)
  refine lv_iconst (v := 0) hx hb dX5_back_13 (by decide) ?_
  exact xk_zret hx hb hr hlocks hP hD hS (rfl) (rfl) (rfl) dX5_back_14

abbrev rm_X5_back_ok : Room := { frames := 0, cells := 0, slots := 0, locals := 0 }
theorem in_X5_back_ok_X5 : ∀ w ∈ u_ws RX5 TX5 19, w ∈ wsX5_back := by decide +kernel
set_option maxHeartbeats 4000000 in
set_option maxRecDepth 100000 in
theorem ct_X5_back_ok (l : Launch) (D : va_G) (cyI cyZ : ClassId) (a0 a1 a2 a3 a4 a5 a6 a7 : Nat) (sz : Nat) (th : Int32) (Wd Hh nn : Nat) (na nb rk pr bk lo : Int32) (bt bb : Int64) (v : Int32) (hs : ¬ bk = v) (hv : narrow .boolean (.int v) = .int v) (hf : fits .boolean (.int v) = true) : Met l yX5_back wsX5_back rm_X5_back_ok (xk_Pc D cyI cyZ [.ref a0, .int v] [(a0, .inr (5, [.int th, .int (nI Wd), .int (nI Hh), .int (nI nn), .int na, .int nb, .int rk, .int pr, .int bk, .ref a1, .ref a2, .ref a3, .ref a4, .ref a5, .ref a6, .ref a7, .int lo, .long bt, .long bb]))] sz) (xk_Qi D (va_A [(a0, .inr (5, [.int th, .int (nI Wd), .int (nI Hh), .int (nI nn), .int na, .int nb, .int rk, .int pr, .int bk, .ref a1, .ref a2, .ref a3, .ref a4, .ref a5, .ref a6, .ref a7, .int lo, .long bt, .long bb]))] sz) 1 [(a0, .inr (5, [.int 0, .int (nI Wd), .int (nI Hh), .int (nI nn), .int na, .int nb, .int rk, .int pr, .int v, .ref a1, .ref a2, .ref a3, .ref a4, .ref a5, .ref a6, .ref a7, .int lo, .long bt, .long bb]))]) 0 0 (va_A [(a0, .inr (5, [.int th, .int (nI Wd), .int (nI Hh), .int (nI nn), .int na, .int nb, .int rk, .int pr, .int bk, .ref a1, .ref a2, .ref a3, .ref a4, .ref a5, .ref a6, .ref a7, .int lo, .long bt, .long bb]))] sz) := by
  refine xk_of (own := RX5) (cc := cX5_back) (maxL := 2) (ret := (some .boolean)) (Qc := fun A => xk_Qi D A 1 [(a0, .inr (5, [.int 0, .int (nI Wd), .int (nI Hh), .int (nI nn), .int na, .int nb, .int rk, .int pr, .int v, .ref a1, .ref a2, .ref a3, .ref a4, .ref a5, .ref a6, .ref a7, .int lo, .long bt, .long bb]))]) (by decide) rfl rfl (Nat.le_of_ble_eq_true rfl) ?_
  intro p e s m below meth c A ls hx hb hr hml hown hlocks hin hts hA hP hK hN hD hS hl
  have hC0 := xk_fix hx hb hml hown hts
  have hl : lv_has ls 2 [(0, .ref a0), (1, .int v)] := hl
  have hf51 := hts (.fieldLink RX5 51 "DotPressModel" "thrown" "I") (by decide +kernel)
  have hf97 := hts (.fieldLink RX5 97 "DotPressModel" "isBack" "Z") (by decide +kernel)
  refine lv_aload_n hx hb dX5_back_0 rfl (lv_at hl 0 rfl) ?_
  refine lv_iconst (v := 0) hx hb dX5_back_1 (by decide) ?_
  refine va_put (D := D) (ci := 5) (v := .int 0) (ty := .int) (C := RX5) (T := TX5) (N := 19) hx hb hts in_X5_back_ok_X5 tyX5 tyX5_ok nmX5 hown hK hP hD hS 0 rfl rfl 0 (by decide) hf51 (fun _ h9 => h9) rfl (by decide +kernel) (rfl) (rfl) (Nat.le_of_ble_eq_true rfl) dX5_back_2 (fun H locs hP hD hS => ?_)
  have hP : va_P D vwCl [(a0, .inr (5, [.int 0, .int (nI Wd), .int (nI Hh), .int (nI nn), .int na, .int nb, .int rk, .int pr, .int bk, .ref a1, .ref a2, .ref a3, .ref a4, .ref a5, .ref a6, .ref a7, .int lo, .long bt, .long bb]))] H := hP
  have hD : va_D A [(a0, .inr (5, [.int 0, .int (nI Wd), .int (nI Hh), .int (nI nn), .int na, .int nb, .int rk, .int pr, .int bk, .ref a1, .ref a2, .ref a3, .ref a4, .ref a5, .ref a6, .ref a7, .int lo, .long bt, .long bb]))] := hD
  refine lv_aload_n hx hb dX5_back_5 rfl (lv_at hl 0 rfl) ?_
  refine va_get (D := D) (ci := 5) (v := .int bk) (C := RX5) (T := TX5) (N := 19) hx hb hts in_X5_back_ok_X5 hown hK hP 0 rfl rfl 8 (by decide) hf97 (fun _ h9 => h9) rfl dX5_back_6 ?_
  refine lv_iload_n hx hb dX5_back_9 rfl (lv_at hl 1 rfl) ?_
  refine lv_icmp_ne (tgt := 15) hx hb dX5_back_10 (by decide) (fun c_10 => ?_) (fun c_10 => xk_ab c_10 (hs))
  refine lv_aload_n hx hb dX5_back_15 rfl (lv_at hl 0 rfl) ?_
  refine lv_iload_n hx hb dX5_back_16 rfl (lv_at hl 1 rfl) ?_
  refine va_put (D := D) (ci := 5) (v := .int v) (ty := .boolean) (C := RX5) (T := TX5) (N := 19) hx hb hts in_X5_back_ok_X5 tyX5 tyX5_ok nmX5 hown hK hP hD hS 0 rfl rfl 8 (by decide) hf97 (fun _ h9 => h9) rfl (by decide +kernel) (hv) (hf) (Nat.le_of_ble_eq_true rfl) dX5_back_17 (fun H locs hP hD hS => ?_)
  have hP : va_P D vwCl [(a0, .inr (5, [.int 0, .int (nI Wd), .int (nI Hh), .int (nI nn), .int na, .int nb, .int rk, .int pr, .int v, .ref a1, .ref a2, .ref a3, .ref a4, .ref a5, .ref a6, .ref a7, .int lo, .long bt, .long bb]))] H := hP
  have hD : va_D A [(a0, .inr (5, [.int 0, .int (nI Wd), .int (nI Hh), .int (nI nn), .int na, .int nb, .int rk, .int pr, .int v, .ref a1, .ref a2, .ref a3, .ref a4, .ref a5, .ref a6, .ref a7, .int lo, .long bt, .long bb]))] := hD
  refine lv_iconst (v := 1) hx hb dX5_back_20 (by decide) ?_
  exact xk_zret hx hb hr hlocks hP hD hS (rfl) (rfl) (rfl) dX5_back_21

abbrev rm_X5_net_no : Room := { frames := 2, cells := 0, slots := 0, locals := 43 }
theorem in_X5_net_no_X5 : ∀ w ∈ u_ws RX5 TX5 19, w ∈ wsX5_net := by decide +kernel
set_option maxHeartbeats 4000000 in
set_option maxRecDepth 100000 in
theorem ct_X5_net_no (l : Launch) (D : va_G) (cyI cyZ : ClassId) (a0 a1 a2 a3 a4 a5 a6 a7 : Nat) (sz : Nat) (th : Int32) (Wd Hh nn : Nat) (na nb rk pr bk lo : Int32) (bt bb : Int64) (x y : Int32) (hno : ¬ nt_ok x y) : Met l yX5_net wsX5_net rm_X5_net_no (xk_Pc D cyI cyZ [.ref a0, .int x, .int y] [(a0, .inr (5, [.int th, .int (nI Wd), .int (nI Hh), .int (nI nn), .int na, .int nb, .int rk, .int pr, .int bk, .ref a1, .ref a2, .ref a3, .ref a4, .ref a5, .ref a6, .ref a7, .int lo, .long bt, .long bb]))] sz) (xk_Qi D (va_A [(a0, .inr (5, [.int th, .int (nI Wd), .int (nI Hh), .int (nI nn), .int na, .int nb, .int rk, .int pr, .int bk, .ref a1, .ref a2, .ref a3, .ref a4, .ref a5, .ref a6, .ref a7, .int lo, .long bt, .long bb]))] sz) 0 [(a0, .inr (5, [.int 0, .int (nI Wd), .int (nI Hh), .int (nI nn), .int na, .int nb, .int rk, .int pr, .int bk, .ref a1, .ref a2, .ref a3, .ref a4, .ref a5, .ref a6, .ref a7, .int lo, .long bt, .long bb]))]) 0 0 (va_A [(a0, .inr (5, [.int th, .int (nI Wd), .int (nI Hh), .int (nI nn), .int na, .int nb, .int rk, .int pr, .int bk, .ref a1, .ref a2, .ref a3, .ref a4, .ref a5, .ref a6, .ref a7, .int lo, .long bt, .long bb]))] sz) := by
  refine xk_of (own := RX5) (cc := cX5_net) (maxL := 3) (ret := (some .boolean)) (Qc := fun A => xk_Qi D A 0 [(a0, .inr (5, [.int 0, .int (nI Wd), .int (nI Hh), .int (nI nn), .int na, .int nb, .int rk, .int pr, .int bk, .ref a1, .ref a2, .ref a3, .ref a4, .ref a5, .ref a6, .ref a7, .int lo, .long bt, .long bb]))]) (by decide) rfl rfl (Nat.le_of_ble_eq_true rfl) ?_
  intro p e s m below meth c A ls hx hb hr hml hown hlocks hin hts hA hP hK hN hD hS hl
  have hC0 := xk_fix hx hb hml hown hts
  have hl : lv_has ls 3 [(0, .ref a0), (1, .int x), (2, .int y)] := hl
  have hf51 := hts (.fieldLink RX5 51 "DotPressModel" "thrown" "I") (by decide +kernel)
  refine lv_aload_n hx hb dX5_net_0 rfl (lv_at hl 0 rfl) ?_
  refine lv_iconst (v := 0) hx hb dX5_net_1 (by decide) ?_
  refine va_put (D := D) (ci := 5) (v := .int 0) (ty := .int) (C := RX5) (T := TX5) (N := 19) hx hb hts in_X5_net_no_X5 tyX5 tyX5_ok nmX5 hown hK hP hD hS 0 rfl rfl 0 (by decide) hf51 (fun _ h9 => h9) rfl (by decide +kernel) (rfl) (rfl) (Nat.le_of_ble_eq_true rfl) dX5_net_2 (fun H locs hP hD hS => ?_)
  have hP : va_P D vwCl [(a0, .inr (5, [.int 0, .int (nI Wd), .int (nI Hh), .int (nI nn), .int na, .int nb, .int rk, .int pr, .int bk, .ref a1, .ref a2, .ref a3, .ref a4, .ref a5, .ref a6, .ref a7, .int lo, .long bt, .long bb]))] H := hP
  have hD : va_D A [(a0, .inr (5, [.int 0, .int (nI Wd), .int (nI Hh), .int (nI nn), .int na, .int nb, .int rk, .int pr, .int bk, .ref a1, .ref a2, .ref a3, .ref a4, .ref a5, .ref a6, .ref a7, .int lo, .long bt, .long bb]))] := hD
  refine lv_iload_n hx hb dX5_net_5 rfl (lv_at hl 1 rfl) ?_
  refine lv_iload_n hx hb dX5_net_6 rfl (lv_at hl 2 rfl) ?_
  have hPc := hP.sub (ws' := []) [] rfl
  have hDc := hD.sub (ws' := []) [] (by decide) rfl
  refine xk_calli (wr := [(a0, .inr (5, [.int 0, .int (nI Wd), .int (nI Hh), .int (nI nn), .int na, .int nb, .int rk, .int pr, .int bk, .ref a1, .ref a2, .ref a3, .ref a4, .ref a5, .ref a6, .ref a7, .int lo, .long bt, .long bb]))]) (w2 := [(a0, .inr (5, [.int 0, .int (nI Wd), .int (nI Hh), .int (nI nn), .int na, .int nb, .int rk, .int pr, .int bk, .ref a1, .ref a2, .ref a3, .ref a4, .ref a5, .ref a6, .ref a7, .int lo, .long bt, .long bb]))]) (va_runS (As := [.int x, .int y]) (rest := []) hC0 (ct_X5_isNet l D cyI cyZ  _ x y ) (va_cwS 2 hts gX5_net_X5_isNet rfl rfl rfl (by decide +kernel) ⟨Nat.le_of_ble_eq_true rfl, Nat.le_of_ble_eq_true rfl⟩) ⟨xk_blind, xk_pre hK hN hPc hDc⟩ rfl rfl hl.1 rfl (lv_room (Nat.le_of_ble_eq_true rfl)) dX5_net_7 ⟨Nat.le_of_ble_eq_true rfl, Nat.le_of_ble_eq_true rfl⟩) hP hD hS hA [] [0] [0] rfl rfl (by decide) (by decide) rfl (by decide) (fun H locs hP hD hS => ?_)
  refine lv_if_ne (tgt := 15) hx hb dX5_net_10 (by decide) (fun c_10 => xk_ba c_10 (bI_z.mpr hno)) (fun c_10 => ?_)
  have c_10 := bI_z.mp c_10
  refine lv_iconst (v := 0) hx hb dX5_net_13 (by decide) ?_
  exact xk_zret hx hb hr hlocks hP hD hS (rfl) (rfl) (rfl) dX5_net_14

abbrev rm_X5_net_ok : Room := { frames := 2, cells := 0, slots := 0, locals := 43 }
theorem in_X5_net_ok_X5 : ∀ w ∈ u_ws RX5 TX5 19, w ∈ wsX5_net := by decide +kernel
set_option maxHeartbeats 4000000 in
set_option maxRecDepth 100000 in
theorem ct_X5_net_ok (l : Launch) (D : va_G) (cyI cyZ : ClassId) (a0 a1 a2 a3 a4 a5 a6 a7 : Nat) (sz : Nat) (th : Int32) (Wd Hh nn : Nat) (na nb rk pr bk lo : Int32) (bt bb : Int64) (x y : Int32) (hno : nt_ok x y) : Met l yX5_net wsX5_net rm_X5_net_ok (xk_Pc D cyI cyZ [.ref a0, .int x, .int y] [(a0, .inr (5, [.int th, .int (nI Wd), .int (nI Hh), .int (nI nn), .int na, .int nb, .int rk, .int pr, .int bk, .ref a1, .ref a2, .ref a3, .ref a4, .ref a5, .ref a6, .ref a7, .int lo, .long bt, .long bb]))] sz) (xk_Qi D (va_A [(a0, .inr (5, [.int th, .int (nI Wd), .int (nI Hh), .int (nI nn), .int na, .int nb, .int rk, .int pr, .int bk, .ref a1, .ref a2, .ref a3, .ref a4, .ref a5, .ref a6, .ref a7, .int lo, .long bt, .long bb]))] sz) 1 [(a0, .inr (5, [.int 0, .int (nI Wd), .int (nI Hh), .int (nI nn), .int x, .int y, .int (-1), .int pr, .int bk, .ref a1, .ref a2, .ref a3, .ref a4, .ref a5, .ref a6, .ref a7, .int lo, .long bt, .long bb]))]) 0 0 (va_A [(a0, .inr (5, [.int th, .int (nI Wd), .int (nI Hh), .int (nI nn), .int na, .int nb, .int rk, .int pr, .int bk, .ref a1, .ref a2, .ref a3, .ref a4, .ref a5, .ref a6, .ref a7, .int lo, .long bt, .long bb]))] sz) := by
  refine xk_of (own := RX5) (cc := cX5_net) (maxL := 3) (ret := (some .boolean)) (Qc := fun A => xk_Qi D A 1 [(a0, .inr (5, [.int 0, .int (nI Wd), .int (nI Hh), .int (nI nn), .int x, .int y, .int (-1), .int pr, .int bk, .ref a1, .ref a2, .ref a3, .ref a4, .ref a5, .ref a6, .ref a7, .int lo, .long bt, .long bb]))]) (by decide) rfl rfl (Nat.le_of_ble_eq_true rfl) ?_
  intro p e s m below meth c A ls hx hb hr hml hown hlocks hin hts hA hP hK hN hD hS hl
  have hC0 := xk_fix hx hb hml hown hts
  have hl : lv_has ls 3 [(0, .ref a0), (1, .int x), (2, .int y)] := hl
  have hf19 := hts (.fieldLink RX5 19 "DotPressModel" "a" "I") (by decide +kernel)
  have hf22 := hts (.fieldLink RX5 22 "DotPressModel" "b" "I") (by decide +kernel)
  have hf25 := hts (.fieldLink RX5 25 "DotPressModel" "ranked" "I") (by decide +kernel)
  have hf51 := hts (.fieldLink RX5 51 "DotPressModel" "thrown" "I") (by decide +kernel)
  refine lv_aload_n hx hb dX5_net_0 rfl (lv_at hl 0 rfl) ?_
  refine lv_iconst (v := 0) hx hb dX5_net_1 (by decide) ?_
  refine va_put (D := D) (ci := 5) (v := .int 0) (ty := .int) (C := RX5) (T := TX5) (N := 19) hx hb hts in_X5_net_ok_X5 tyX5 tyX5_ok nmX5 hown hK hP hD hS 0 rfl rfl 0 (by decide) hf51 (fun _ h9 => h9) rfl (by decide +kernel) (rfl) (rfl) (Nat.le_of_ble_eq_true rfl) dX5_net_2 (fun H locs hP hD hS => ?_)
  have hP : va_P D vwCl [(a0, .inr (5, [.int 0, .int (nI Wd), .int (nI Hh), .int (nI nn), .int na, .int nb, .int rk, .int pr, .int bk, .ref a1, .ref a2, .ref a3, .ref a4, .ref a5, .ref a6, .ref a7, .int lo, .long bt, .long bb]))] H := hP
  have hD : va_D A [(a0, .inr (5, [.int 0, .int (nI Wd), .int (nI Hh), .int (nI nn), .int na, .int nb, .int rk, .int pr, .int bk, .ref a1, .ref a2, .ref a3, .ref a4, .ref a5, .ref a6, .ref a7, .int lo, .long bt, .long bb]))] := hD
  refine lv_iload_n hx hb dX5_net_5 rfl (lv_at hl 1 rfl) ?_
  refine lv_iload_n hx hb dX5_net_6 rfl (lv_at hl 2 rfl) ?_
  have hPc := hP.sub (ws' := []) [] rfl
  have hDc := hD.sub (ws' := []) [] (by decide) rfl
  refine xk_calli (wr := [(a0, .inr (5, [.int 0, .int (nI Wd), .int (nI Hh), .int (nI nn), .int na, .int nb, .int rk, .int pr, .int bk, .ref a1, .ref a2, .ref a3, .ref a4, .ref a5, .ref a6, .ref a7, .int lo, .long bt, .long bb]))]) (w2 := [(a0, .inr (5, [.int 0, .int (nI Wd), .int (nI Hh), .int (nI nn), .int na, .int nb, .int rk, .int pr, .int bk, .ref a1, .ref a2, .ref a3, .ref a4, .ref a5, .ref a6, .ref a7, .int lo, .long bt, .long bb]))]) (va_runS (As := [.int x, .int y]) (rest := []) hC0 (ct_X5_isNet l D cyI cyZ  _ x y ) (va_cwS 2 hts gX5_net_X5_isNet rfl rfl rfl (by decide +kernel) ⟨Nat.le_of_ble_eq_true rfl, Nat.le_of_ble_eq_true rfl⟩) ⟨xk_blind, xk_pre hK hN hPc hDc⟩ rfl rfl hl.1 rfl (lv_room (Nat.le_of_ble_eq_true rfl)) dX5_net_7 ⟨Nat.le_of_ble_eq_true rfl, Nat.le_of_ble_eq_true rfl⟩) hP hD hS hA [] [0] [0] rfl rfl (by decide) (by decide) rfl (by decide) (fun H locs hP hD hS => ?_)
  refine lv_if_ne (tgt := 15) hx hb dX5_net_10 (by decide) (fun c_10 => ?_) (fun c_10 => xk_ab c_10 (bI_nz.mpr hno))
  have c_10 := bI_nz.mp c_10
  refine lv_aload_n hx hb dX5_net_15 rfl (lv_at hl 0 rfl) ?_
  refine lv_iload_n hx hb dX5_net_16 rfl (lv_at hl 1 rfl) ?_
  refine va_put (D := D) (ci := 5) (v := .int x) (ty := .int) (C := RX5) (T := TX5) (N := 19) hx hb hts in_X5_net_ok_X5 tyX5 tyX5_ok nmX5 hown hK hP hD hS 0 rfl rfl 4 (by decide) hf19 (fun _ h9 => h9) rfl (by decide +kernel) (rfl) (rfl) (Nat.le_of_ble_eq_true rfl) dX5_net_17 (fun H locs hP hD hS => ?_)
  have hP : va_P D vwCl [(a0, .inr (5, [.int 0, .int (nI Wd), .int (nI Hh), .int (nI nn), .int x, .int nb, .int rk, .int pr, .int bk, .ref a1, .ref a2, .ref a3, .ref a4, .ref a5, .ref a6, .ref a7, .int lo, .long bt, .long bb]))] H := hP
  have hD : va_D A [(a0, .inr (5, [.int 0, .int (nI Wd), .int (nI Hh), .int (nI nn), .int x, .int nb, .int rk, .int pr, .int bk, .ref a1, .ref a2, .ref a3, .ref a4, .ref a5, .ref a6, .ref a7, .int lo, .long bt, .long bb]))] := hD
  refine lv_aload_n hx hb dX5_net_20 rfl (lv_at hl 0 rfl) ?_
  refine lv_iload_n hx hb dX5_net_21 rfl (lv_at hl 2 rfl) ?_
  refine va_put (D := D) (ci := 5) (v := .int y) (ty := .int) (C := RX5) (T := TX5) (N := 19) hx hb hts in_X5_net_ok_X5 tyX5 tyX5_ok nmX5 hown hK hP hD hS 0 rfl rfl 5 (by decide) hf22 (fun _ h9 => h9) rfl (by decide +kernel) (rfl) (rfl) (Nat.le_of_ble_eq_true rfl) dX5_net_22 (fun H locs hP hD hS => ?_)
  have hP : va_P D vwCl [(a0, .inr (5, [.int 0, .int (nI Wd), .int (nI Hh), .int (nI nn), .int x, .int y, .int rk, .int pr, .int bk, .ref a1, .ref a2, .ref a3, .ref a4, .ref a5, .ref a6, .ref a7, .int lo, .long bt, .long bb]))] H := hP
  have hD : va_D A [(a0, .inr (5, [.int 0, .int (nI Wd), .int (nI Hh), .int (nI nn), .int x, .int y, .int rk, .int pr, .int bk, .ref a1, .ref a2, .ref a3, .ref a4, .ref a5, .ref a6, .ref a7, .int lo, .long bt, .long bb]))] := hD
  refine lv_aload_n hx hb dX5_net_25 rfl (lv_at hl 0 rfl) ?_
  refine lv_iconst (v := (-1)) hx hb dX5_net_26 (by decide) ?_
  refine va_put (D := D) (ci := 5) (v := .int (-1)) (ty := .int) (C := RX5) (T := TX5) (N := 19) hx hb hts in_X5_net_ok_X5 tyX5 tyX5_ok nmX5 hown hK hP hD hS 0 rfl rfl 6 (by decide) hf25 (fun _ h9 => h9) rfl (by decide +kernel) (rfl) (rfl) (Nat.le_of_ble_eq_true rfl) dX5_net_27 (fun H locs hP hD hS => ?_)
  have hP : va_P D vwCl [(a0, .inr (5, [.int 0, .int (nI Wd), .int (nI Hh), .int (nI nn), .int x, .int y, .int (-1), .int pr, .int bk, .ref a1, .ref a2, .ref a3, .ref a4, .ref a5, .ref a6, .ref a7, .int lo, .long bt, .long bb]))] H := hP
  have hD : va_D A [(a0, .inr (5, [.int 0, .int (nI Wd), .int (nI Hh), .int (nI nn), .int x, .int y, .int (-1), .int pr, .int bk, .ref a1, .ref a2, .ref a3, .ref a4, .ref a5, .ref a6, .ref a7, .int lo, .long bt, .long bb]))] := hD
  refine lv_iconst (v := 1) hx hb dX5_net_30 (by decide) ?_
  exact xk_zret hx hb hr hlocks hP hD hS (rfl) (rfl) (rfl) dX5_net_31

abbrev rm_X5_ramp_no : Room := { frames := 3, cells := 0, slots := 0, locals := 68 }
theorem in_X5_ramp_no_X5 : ∀ w ∈ u_ws RX5 TX5 19, w ∈ wsX5_ramp := by decide +kernel
set_option maxHeartbeats 4000000 in
set_option maxRecDepth 100000 in
theorem ct_X5_ramp_no (l : Launch) (D : va_G) (cyI cyZ : ClassId) (a0 a1 a2 a3 a4 a5 a6 a7 : Nat) (sz : Nat) (th : Int32) (Wd Hh nn : Nat) (na nb rk pr bk lo : Int32) (bt bb : Int64) (g : Nat → Int32) (x y w h v v1 : Int32) (hw1 : 1 ≤ Wd) (hw2 : Wd ≤ 24) (hh1 : 1 ≤ Hh) (hh2 : Hh ≤ 24) (hno : ¬ (sh_box Wd Hh x y w h ∧ (¬ v < 0 ∧ ¬ 255 < v) ∧ ¬ v1 < (-255) ∧ ¬ 255 < v1)) : Met l yX5_ramp wsX5_ramp rm_X5_ramp_no (xk_Pc D cyI cyZ [.ref a0, .int x, .int y, .int w, .int h, .int v, .int v1] [(a0, .inr (5, [.int th, .int (nI Wd), .int (nI Hh), .int (nI nn), .int na, .int nb, .int rk, .int pr, .int bk, .ref a1, .ref a2, .ref a3, .ref a4, .ref a5, .ref a6, .ref a7, .int lo, .long bt, .long bb])), (a1, .inl (cyI, 576, .inl g))] sz) (xk_Qi D (va_A [(a0, .inr (5, [.int th, .int (nI Wd), .int (nI Hh), .int (nI nn), .int na, .int nb, .int rk, .int pr, .int bk, .ref a1, .ref a2, .ref a3, .ref a4, .ref a5, .ref a6, .ref a7, .int lo, .long bt, .long bb])), (a1, .inl (cyI, 576, .inl g))] sz) 0 [(a0, .inr (5, [.int 0, .int (nI Wd), .int (nI Hh), .int (nI nn), .int na, .int nb, .int rk, .int pr, .int bk, .ref a1, .ref a2, .ref a3, .ref a4, .ref a5, .ref a6, .ref a7, .int lo, .long bt, .long bb])), (a1, .inl (cyI, 576, .inl g))]) 0 0 (va_A [(a0, .inr (5, [.int th, .int (nI Wd), .int (nI Hh), .int (nI nn), .int na, .int nb, .int rk, .int pr, .int bk, .ref a1, .ref a2, .ref a3, .ref a4, .ref a5, .ref a6, .ref a7, .int lo, .long bt, .long bb])), (a1, .inl (cyI, 576, .inl g))] sz) := by
  refine xk_of (own := RX5) (cc := cX5_ramp) (maxL := 9) (ret := (some .boolean)) (Qc := fun A => xk_Qi D A 0 [(a0, .inr (5, [.int 0, .int (nI Wd), .int (nI Hh), .int (nI nn), .int na, .int nb, .int rk, .int pr, .int bk, .ref a1, .ref a2, .ref a3, .ref a4, .ref a5, .ref a6, .ref a7, .int lo, .long bt, .long bb])), (a1, .inl (cyI, 576, .inl g))]) (by decide) rfl rfl (Nat.le_of_ble_eq_true rfl) ?_
  intro p e s m below meth c A ls hx hb hr hml hown hlocks hin hts hA hP hK hN hD hS hl
  have hC0 := xk_fix hx hb hml hown hts
  have hl : lv_has ls 9 [(0, .ref a0), (1, .int x), (2, .int y), (3, .int w), (4, .int h), (5, .int v), (6, .int v1)] := hl
  have hf51 := hts (.fieldLink RX5 51 "DotPressModel" "thrown" "I") (by decide +kernel)
  refine lv_aload_n hx hb dX5_ramp_0 rfl (lv_at hl 0 rfl) ?_
  refine lv_iconst (v := 0) hx hb dX5_ramp_1 (by decide) ?_
  refine va_put (D := D) (ci := 5) (v := .int 0) (ty := .int) (C := RX5) (T := TX5) (N := 19) hx hb hts in_X5_ramp_no_X5 tyX5 tyX5_ok nmX5 hown hK hP hD hS 0 rfl rfl 0 (by decide) hf51 (fun _ h9 => h9) rfl (by decide +kernel) (rfl) (rfl) (Nat.le_of_ble_eq_true rfl) dX5_ramp_2 (fun H locs hP hD hS => ?_)
  have hP : va_P D vwCl [(a0, .inr (5, [.int 0, .int (nI Wd), .int (nI Hh), .int (nI nn), .int na, .int nb, .int rk, .int pr, .int bk, .ref a1, .ref a2, .ref a3, .ref a4, .ref a5, .ref a6, .ref a7, .int lo, .long bt, .long bb])), (a1, .inl (cyI, 576, .inl g))] H := hP
  have hD : va_D A [(a0, .inr (5, [.int 0, .int (nI Wd), .int (nI Hh), .int (nI nn), .int na, .int nb, .int rk, .int pr, .int bk, .ref a1, .ref a2, .ref a3, .ref a4, .ref a5, .ref a6, .ref a7, .int lo, .long bt, .long bb])), (a1, .inl (cyI, 576, .inl g))] := hD
  refine lv_aload_n hx hb dX5_ramp_5 rfl (lv_at hl 0 rfl) ?_
  refine lv_iload_n hx hb dX5_ramp_6 rfl (lv_at hl 1 rfl) ?_
  refine lv_iload_n hx hb dX5_ramp_7 rfl (lv_at hl 2 rfl) ?_
  refine lv_iload_n hx hb dX5_ramp_8 rfl (lv_at hl 3 rfl) ?_
  refine lv_iload hx hb dX5_ramp_9 (lv_at hl 4 rfl) ?_
  have hPc := hP.sub (ws' := [(a0, .inr (5, [.int 0, .int (nI Wd), .int (nI Hh), .int (nI nn), .int na, .int nb, .int rk, .int pr, .int bk, .ref a1, .ref a2, .ref a3, .ref a4, .ref a5, .ref a6, .ref a7, .int lo, .long bt, .long bb]))]) [0] rfl
  have hDc := hD.sub (ws' := [(a0, .inr (5, [.int 0, .int (nI Wd), .int (nI Hh), .int (nI nn), .int na, .int nb, .int rk, .int pr, .int bk, .ref a1, .ref a2, .ref a3, .ref a4, .ref a5, .ref a6, .ref a7, .int lo, .long bt, .long bb]))]) [0] (by decide) rfl
  refine xk_calli (wr := [(a1, .inl (cyI, 576, .inl g))]) (w2 := [(a0, .inr (5, [.int 0, .int (nI Wd), .int (nI Hh), .int (nI nn), .int na, .int nb, .int rk, .int pr, .int bk, .ref a1, .ref a2, .ref a3, .ref a4, .ref a5, .ref a6, .ref a7, .int lo, .long bt, .long bb])), (a1, .inl (cyI, 576, .inl g))]) (va_runV (As := [.int x, .int y, .int w, .int h]) (rest := []) hC0 (ct_X5_isBox l D cyI cyZ a0 a1 a2 a3 a4 a5 a6 a7 _ 0 Wd Hh nn na nb rk pr bk lo bt bb x y w h (by first | assumption | omega) (by first | assumption | omega) (by first | assumption | omega) (by first | assumption | omega)) (cwV 4 hts gX5_ramp_X5_isBox rfl rfl rfl (by decide +kernel) ⟨Nat.le_of_ble_eq_true rfl, Nat.le_of_ble_eq_true rfl⟩) ⟨xk_blind, va_recv hK hPc (ci := 5) (q0 := 0) rfl rfl, xk_pre hK hN hPc hDc⟩ rfl rfl hl.1 rfl (lv_room (Nat.le_of_ble_eq_true rfl)) dX5_ramp_11 ⟨Nat.le_of_ble_eq_true rfl, Nat.le_of_ble_eq_true rfl⟩) hP hD hS hA [0] [1] [1, 0] rfl rfl (by decide) (by decide) rfl (by decide) (fun H locs hP hD hS => ?_)
  refine lv_if_eq (tgt := 43) hx hb dX5_ramp_14 (by decide) (fun c_14 => ?_) (fun c_14 => ?_)
  · have c_14 := bI_z.mp c_14
    refine lv_iconst (v := 0) hx hb dX5_ramp_43 (by decide) ?_
    exact xk_zret hx hb hr hlocks hP hD hS (rfl) (rfl) (rfl) dX5_ramp_44
  · have c_14 := bI_nz.mp c_14
    refine lv_iload hx hb dX5_ramp_17 (lv_at hl 5 rfl) ?_
    refine lv_iconst (v := 0) hx hb dX5_ramp_19 (by decide) ?_
    refine lv_sipush (v := 255) hx hb dX5_ramp_20 (by decide) ?_
    have hPc := hP.sub (ws' := []) [] rfl
    have hDc := hD.sub (ws' := []) [] (by decide) rfl
    refine xk_calli (wr := [(a0, .inr (5, [.int 0, .int (nI Wd), .int (nI Hh), .int (nI nn), .int na, .int nb, .int rk, .int pr, .int bk, .ref a1, .ref a2, .ref a3, .ref a4, .ref a5, .ref a6, .ref a7, .int lo, .long bt, .long bb])), (a1, .inl (cyI, 576, .inl g))]) (w2 := [(a0, .inr (5, [.int 0, .int (nI Wd), .int (nI Hh), .int (nI nn), .int na, .int nb, .int rk, .int pr, .int bk, .ref a1, .ref a2, .ref a3, .ref a4, .ref a5, .ref a6, .ref a7, .int lo, .long bt, .long bb])), (a1, .inl (cyI, 576, .inl g))]) (va_runS (As := [.int v, .int 0, .int 255]) (rest := []) hC0 (ct_X5_isIn l D cyI cyZ  _ v 0 255 ) (va_cwS 3 hts gX5_ramp_X5_isIn rfl rfl rfl (by decide +kernel) ⟨Nat.le_of_ble_eq_true rfl, Nat.le_of_ble_eq_true rfl⟩) ⟨xk_blind, xk_pre hK hN hPc hDc⟩ rfl rfl hl.1 rfl (lv_room (Nat.le_of_ble_eq_true rfl)) dX5_ramp_23 ⟨Nat.le_of_ble_eq_true rfl, Nat.le_of_ble_eq_true rfl⟩) hP hD hS hA [] [0, 1] [0, 1] rfl rfl (by decide) (by decide) rfl (by decide) (fun H locs hP hD hS => ?_)
    refine lv_if_eq (tgt := 43) hx hb dX5_ramp_26 (by decide) (fun c_26 => ?_) (fun c_26 => ?_)
    · have c_26 := bI_z.mp c_26
      refine lv_iconst (v := 0) hx hb dX5_ramp_43 (by decide) ?_
      exact xk_zret hx hb hr hlocks hP hD hS (rfl) (rfl) (rfl) dX5_ramp_44
    · have c_26 := bI_nz.mp c_26
      refine lv_iload hx hb dX5_ramp_29 (lv_at hl 6 rfl) ?_
      refine lv_sipush (v := (-255)) hx hb dX5_ramp_31 (by decide) ?_
      refine lv_sipush (v := 255) hx hb dX5_ramp_34 (by decide) ?_
      have hPc := hP.sub (ws' := []) [] rfl
      have hDc := hD.sub (ws' := []) [] (by decide) rfl
      refine xk_calli (wr := [(a0, .inr (5, [.int 0, .int (nI Wd), .int (nI Hh), .int (nI nn), .int na, .int nb, .int rk, .int pr, .int bk, .ref a1, .ref a2, .ref a3, .ref a4, .ref a5, .ref a6, .ref a7, .int lo, .long bt, .long bb])), (a1, .inl (cyI, 576, .inl g))]) (w2 := [(a0, .inr (5, [.int 0, .int (nI Wd), .int (nI Hh), .int (nI nn), .int na, .int nb, .int rk, .int pr, .int bk, .ref a1, .ref a2, .ref a3, .ref a4, .ref a5, .ref a6, .ref a7, .int lo, .long bt, .long bb])), (a1, .inl (cyI, 576, .inl g))]) (va_runS (As := [.int v1, .int (-255), .int 255]) (rest := []) hC0 (ct_X5_isIn l D cyI cyZ  _ v1 (-255) 255 ) (va_cwS 3 hts gX5_ramp_X5_isIn rfl rfl rfl (by decide +kernel) ⟨Nat.le_of_ble_eq_true rfl, Nat.le_of_ble_eq_true rfl⟩) ⟨xk_blind, xk_pre hK hN hPc hDc⟩ rfl rfl hl.1 rfl (lv_room (Nat.le_of_ble_eq_true rfl)) dX5_ramp_37 ⟨Nat.le_of_ble_eq_true rfl, Nat.le_of_ble_eq_true rfl⟩) hP hD hS hA [] [0, 1] [0, 1] rfl rfl (by decide) (by decide) rfl (by decide) (fun H locs hP hD hS => ?_)
      refine lv_if_ne (tgt := 45) hx hb dX5_ramp_40 (by decide) (fun c_40 => ?_) (fun c_40 => ?_)
      · have c_40 := bI_nz.mp c_40
        exact absurd ⟨c_14, c_26, c_40⟩ hno
      · have c_40 := bI_z.mp c_40
        refine lv_iconst (v := 0) hx hb dX5_ramp_43 (by decide) ?_
        exact xk_zret hx hb hr hlocks hP hD hS (rfl) (rfl) (rfl) dX5_ramp_44

abbrev rm_X5_ramp_ok : Room := { frames := 3, cells := 0, slots := 0, locals := 68 }
theorem in_X5_ramp_ok_X5 : ∀ w ∈ u_ws RX5 TX5 19, w ∈ wsX5_ramp := by decide +kernel
set_option maxHeartbeats 4000000 in
set_option maxRecDepth 100000 in
theorem ct_X5_ramp_ok (l : Launch) (D : va_G) (cyI cyZ : ClassId) (a0 a1 a2 a3 a4 a5 a6 a7 : Nat) (sz : Nat) (th : Int32) (Wd Hh nn : Nat) (na nb rk pr bk lo : Int32) (bt bb : Int64) (g : Nat → Int32) (jx jy bw bh : Nat) (v v1 : Int32) (hw1 : 1 ≤ Wd) (hw2 : Wd ≤ 24) (hh1 : 1 ≤ Hh) (hh2 : Hh ≤ 24) (b1 : 1 ≤ bw) (b2 : jx + bw ≤ Wd) (b3 : 1 ≤ bh) (b4 : jy + bh ≤ Hh) (hv : ¬ v < 0 ∧ ¬ 255 < v) (hv1 : ¬ v1 < (-255) ∧ ¬ 255 < v1) : Met l yX5_ramp wsX5_ramp rm_X5_ramp_ok (xk_Pc D cyI cyZ [.ref a0, .int (nI jx), .int (nI jy), .int (nI bw), .int (nI bh), .int v, .int v1] [(a0, .inr (5, [.int th, .int (nI Wd), .int (nI Hh), .int (nI nn), .int na, .int nb, .int rk, .int pr, .int bk, .ref a1, .ref a2, .ref a3, .ref a4, .ref a5, .ref a6, .ref a7, .int lo, .long bt, .long bb])), (a1, .inl (cyI, 576, .inl g))] sz) (xk_Qi D (va_A [(a0, .inr (5, [.int th, .int (nI Wd), .int (nI Hh), .int (nI nn), .int na, .int nb, .int rk, .int pr, .int bk, .ref a1, .ref a2, .ref a3, .ref a4, .ref a5, .ref a6, .ref a7, .int lo, .long bt, .long bb])), (a1, .inl (cyI, 576, .inl g))] sz) 1 [(a0, .inr (5, [.int 0, .int (nI Wd), .int (nI Hh), .int (nI nn), .int na, .int nb, .int rk, .int pr, .int bk, .ref a1, .ref a2, .ref a3, .ref a4, .ref a5, .ref a6, .ref a7, .int lo, .long bt, .long bb])), (a1, .inl (cyI, 576, .inl (rpo g jx jy bh v v1 bw)))]) 0 0 (va_A [(a0, .inr (5, [.int th, .int (nI Wd), .int (nI Hh), .int (nI nn), .int na, .int nb, .int rk, .int pr, .int bk, .ref a1, .ref a2, .ref a3, .ref a4, .ref a5, .ref a6, .ref a7, .int lo, .long bt, .long bb])), (a1, .inl (cyI, 576, .inl g))] sz) := by
  refine xk_of (own := RX5) (cc := cX5_ramp) (maxL := 9) (ret := (some .boolean)) (Qc := fun A => xk_Qi D A 1 [(a0, .inr (5, [.int 0, .int (nI Wd), .int (nI Hh), .int (nI nn), .int na, .int nb, .int rk, .int pr, .int bk, .ref a1, .ref a2, .ref a3, .ref a4, .ref a5, .ref a6, .ref a7, .int lo, .long bt, .long bb])), (a1, .inl (cyI, 576, .inl (rpo g jx jy bh v v1 bw)))]) (by decide) rfl rfl (Nat.le_of_ble_eq_true rfl) ?_
  intro p e s m below meth c A ls hx hb hr hml hown hlocks hin hts hA hP hK hN hD hS hl
  have hC0 := xk_fix hx hb hml hown hts
  have hl : lv_has ls 9 [(0, .ref a0), (1, .int (nI jx)), (2, .int (nI jy)), (3, .int (nI bw)), (4, .int (nI bh)), (5, .int v), (6, .int v1)] := hl
  have hf28 := hts (.fieldLink RX5 28 "DotPressModel" "shade" "[I") (by decide +kernel)
  have hf51 := hts (.fieldLink RX5 51 "DotPressModel" "thrown" "I") (by decide +kernel)
  refine lv_aload_n hx hb dX5_ramp_0 rfl (lv_at hl 0 rfl) ?_
  refine lv_iconst (v := 0) hx hb dX5_ramp_1 (by decide) ?_
  refine va_put (D := D) (ci := 5) (v := .int 0) (ty := .int) (C := RX5) (T := TX5) (N := 19) hx hb hts in_X5_ramp_ok_X5 tyX5 tyX5_ok nmX5 hown hK hP hD hS 0 rfl rfl 0 (by decide) hf51 (fun _ h9 => h9) rfl (by decide +kernel) (rfl) (rfl) (Nat.le_of_ble_eq_true rfl) dX5_ramp_2 (fun H locs hP hD hS => ?_)
  have hP : va_P D vwCl [(a0, .inr (5, [.int 0, .int (nI Wd), .int (nI Hh), .int (nI nn), .int na, .int nb, .int rk, .int pr, .int bk, .ref a1, .ref a2, .ref a3, .ref a4, .ref a5, .ref a6, .ref a7, .int lo, .long bt, .long bb])), (a1, .inl (cyI, 576, .inl g))] H := hP
  have hD : va_D A [(a0, .inr (5, [.int 0, .int (nI Wd), .int (nI Hh), .int (nI nn), .int na, .int nb, .int rk, .int pr, .int bk, .ref a1, .ref a2, .ref a3, .ref a4, .ref a5, .ref a6, .ref a7, .int lo, .long bt, .long bb])), (a1, .inl (cyI, 576, .inl g))] := hD
  refine lv_aload_n hx hb dX5_ramp_5 rfl (lv_at hl 0 rfl) ?_
  refine lv_iload_n hx hb dX5_ramp_6 rfl (lv_at hl 1 rfl) ?_
  refine lv_iload_n hx hb dX5_ramp_7 rfl (lv_at hl 2 rfl) ?_
  refine lv_iload_n hx hb dX5_ramp_8 rfl (lv_at hl 3 rfl) ?_
  refine lv_iload hx hb dX5_ramp_9 (lv_at hl 4 rfl) ?_
  have hPc := hP.sub (ws' := [(a0, .inr (5, [.int 0, .int (nI Wd), .int (nI Hh), .int (nI nn), .int na, .int nb, .int rk, .int pr, .int bk, .ref a1, .ref a2, .ref a3, .ref a4, .ref a5, .ref a6, .ref a7, .int lo, .long bt, .long bb]))]) [0] rfl
  have hDc := hD.sub (ws' := [(a0, .inr (5, [.int 0, .int (nI Wd), .int (nI Hh), .int (nI nn), .int na, .int nb, .int rk, .int pr, .int bk, .ref a1, .ref a2, .ref a3, .ref a4, .ref a5, .ref a6, .ref a7, .int lo, .long bt, .long bb]))]) [0] (by decide) rfl
  refine xk_calli (wr := [(a1, .inl (cyI, 576, .inl g))]) (w2 := [(a0, .inr (5, [.int 0, .int (nI Wd), .int (nI Hh), .int (nI nn), .int na, .int nb, .int rk, .int pr, .int bk, .ref a1, .ref a2, .ref a3, .ref a4, .ref a5, .ref a6, .ref a7, .int lo, .long bt, .long bb])), (a1, .inl (cyI, 576, .inl g))]) (va_runV (As := [.int (nI jx), .int (nI jy), .int (nI bw), .int (nI bh)]) (rest := []) hC0 (ct_X5_isBox l D cyI cyZ a0 a1 a2 a3 a4 a5 a6 a7 _ 0 Wd Hh nn na nb rk pr bk lo bt bb (nI jx) (nI jy) (nI bw) (nI bh) (by first | assumption | omega) (by first | assumption | omega) (by first | assumption | omega) (by first | assumption | omega)) (cwV 4 hts gX5_ramp_X5_isBox rfl rfl rfl (by decide +kernel) ⟨Nat.le_of_ble_eq_true rfl, Nat.le_of_ble_eq_true rfl⟩) ⟨xk_blind, va_recv hK hPc (ci := 5) (q0 := 0) rfl rfl, xk_pre hK hN hPc hDc⟩ rfl rfl hl.1 rfl (lv_room (Nat.le_of_ble_eq_true rfl)) dX5_ramp_11 ⟨Nat.le_of_ble_eq_true rfl, Nat.le_of_ble_eq_true rfl⟩) hP hD hS hA [0] [1] [1, 0] rfl rfl (by decide) (by decide) rfl (by decide) (fun H locs hP hD hS => ?_)
  refine lv_if_eq (tgt := 43) hx hb dX5_ramp_14 (by decide) (fun c_14 => xk_ab c_14 (bI_nz.mpr (sh_box_in hw2 hh2 b1 b2 b3 b4))) (fun c_14 => ?_)
  have c_14 := bI_nz.mp c_14
  refine lv_iload hx hb dX5_ramp_17 (lv_at hl 5 rfl) ?_
  refine lv_iconst (v := 0) hx hb dX5_ramp_19 (by decide) ?_
  refine lv_sipush (v := 255) hx hb dX5_ramp_20 (by decide) ?_
  have hPc := hP.sub (ws' := []) [] rfl
  have hDc := hD.sub (ws' := []) [] (by decide) rfl
  refine xk_calli (wr := [(a0, .inr (5, [.int 0, .int (nI Wd), .int (nI Hh), .int (nI nn), .int na, .int nb, .int rk, .int pr, .int bk, .ref a1, .ref a2, .ref a3, .ref a4, .ref a5, .ref a6, .ref a7, .int lo, .long bt, .long bb])), (a1, .inl (cyI, 576, .inl g))]) (w2 := [(a0, .inr (5, [.int 0, .int (nI Wd), .int (nI Hh), .int (nI nn), .int na, .int nb, .int rk, .int pr, .int bk, .ref a1, .ref a2, .ref a3, .ref a4, .ref a5, .ref a6, .ref a7, .int lo, .long bt, .long bb])), (a1, .inl (cyI, 576, .inl g))]) (va_runS (As := [.int v, .int 0, .int 255]) (rest := []) hC0 (ct_X5_isIn l D cyI cyZ  _ v 0 255 ) (va_cwS 3 hts gX5_ramp_X5_isIn rfl rfl rfl (by decide +kernel) ⟨Nat.le_of_ble_eq_true rfl, Nat.le_of_ble_eq_true rfl⟩) ⟨xk_blind, xk_pre hK hN hPc hDc⟩ rfl rfl hl.1 rfl (lv_room (Nat.le_of_ble_eq_true rfl)) dX5_ramp_23 ⟨Nat.le_of_ble_eq_true rfl, Nat.le_of_ble_eq_true rfl⟩) hP hD hS hA [] [0, 1] [0, 1] rfl rfl (by decide) (by decide) rfl (by decide) (fun H locs hP hD hS => ?_)
  refine lv_if_eq (tgt := 43) hx hb dX5_ramp_26 (by decide) (fun c_26 => xk_ab c_26 (bI_nz.mpr hv)) (fun c_26 => ?_)
  have c_26 := bI_nz.mp c_26
  refine lv_iload hx hb dX5_ramp_29 (lv_at hl 6 rfl) ?_
  refine lv_sipush (v := (-255)) hx hb dX5_ramp_31 (by decide) ?_
  refine lv_sipush (v := 255) hx hb dX5_ramp_34 (by decide) ?_
  have hPc := hP.sub (ws' := []) [] rfl
  have hDc := hD.sub (ws' := []) [] (by decide) rfl
  refine xk_calli (wr := [(a0, .inr (5, [.int 0, .int (nI Wd), .int (nI Hh), .int (nI nn), .int na, .int nb, .int rk, .int pr, .int bk, .ref a1, .ref a2, .ref a3, .ref a4, .ref a5, .ref a6, .ref a7, .int lo, .long bt, .long bb])), (a1, .inl (cyI, 576, .inl g))]) (w2 := [(a0, .inr (5, [.int 0, .int (nI Wd), .int (nI Hh), .int (nI nn), .int na, .int nb, .int rk, .int pr, .int bk, .ref a1, .ref a2, .ref a3, .ref a4, .ref a5, .ref a6, .ref a7, .int lo, .long bt, .long bb])), (a1, .inl (cyI, 576, .inl g))]) (va_runS (As := [.int v1, .int (-255), .int 255]) (rest := []) hC0 (ct_X5_isIn l D cyI cyZ  _ v1 (-255) 255 ) (va_cwS 3 hts gX5_ramp_X5_isIn rfl rfl rfl (by decide +kernel) ⟨Nat.le_of_ble_eq_true rfl, Nat.le_of_ble_eq_true rfl⟩) ⟨xk_blind, xk_pre hK hN hPc hDc⟩ rfl rfl hl.1 rfl (lv_room (Nat.le_of_ble_eq_true rfl)) dX5_ramp_37 ⟨Nat.le_of_ble_eq_true rfl, Nat.le_of_ble_eq_true rfl⟩) hP hD hS hA [] [0, 1] [0, 1] rfl rfl (by decide) (by decide) rfl (by decide) (fun H locs hP hD hS => ?_)
  refine lv_if_ne (tgt := 45) hx hb dX5_ramp_40 (by decide) (fun c_40 => ?_) (fun c_40 => xk_ab c_40 (bI_nz.mpr hv1))
  have c_40 := bI_nz.mp c_40
  refine lv_iconst (v := 0) hx hb dX5_ramp_45 (by decide) ?_
  refine lv_istore (lv' := [(7, .int 0), (0, .ref a0), (1, .int (nI jx)), (2, .int (nI jy)), (3, .int (nI bw)), (4, .int (nI bh)), (5, .int v), (6, .int v1)]) hx hb dX5_ramp_46 hl (by decide) rfl (fun ls hl => ?_)
  have L48 : ∀ (n i : Nat), i + n = bw → ∀ (H : Heap) (locs : List Loc) (ls : Array Slot), va_P D vwCl [(a0, .inr (5, [.int 0, .int (nI Wd), .int (nI Hh), .int (nI nn), .int na, .int nb, .int rk, .int pr, .int bk, .ref a1, .ref a2, .ref a3, .ref a4, .ref a5, .ref a6, .ref a7, .int lo, .long bt, .long bb])), (a1, .inl (cyI, 576, .inl (rpo g jx jy bh v v1 i)))] H → va_D A [(a0, .inr (5, [.int 0, .int (nI Wd), .int (nI Hh), .int (nI nn), .int na, .int nb, .int rk, .int pr, .int bk, .ref a1, .ref a2, .ref a3, .ref a4, .ref a5, .ref a6, .ref a7, .int lo, .long bt, .long bb])), (a1, .inl (cyI, 576, .inl (rpo g jx jy bh v v1 i)))] → va_S A s.heap H locs → lv_has ls 9 [(0, .ref a0), (1, .int (nI jx)), (2, .int (nI jy)), (3, .int (nI bw)), (4, .int (nI bh)), (5, .int v), (6, .int v1), (7, .int (nI i))] → W p l e rm_X5_ramp_ok s m ([.ref a0, .int (nI jx), .int (nI jy), .int (nI bw), .int (nI bh), .int v, .int v1] : List Value).toArray below meth c H locs 0 0 (MQ below (xk_Qi D A 1 [(a0, .inr (5, [.int 0, .int (nI Wd), .int (nI Hh), .int (nI nn), .int na, .int nb, .int rk, .int pr, .int bk, .ref a1, .ref a2, .ref a3, .ref a4, .ref a5, .ref a6, .ref a7, .int lo, .long bt, .long bb])), (a1, .inl (cyI, 576, .inl (rpo g jx jy bh v v1 bw)))]) ([.ref a0, .int (nI jx), .int (nI jy), .int (nI bw), .int (nI bh), .int v, .int v1] : List Value).toArray s 0 0 A) (F0 m 48 ls []) := by
    intro n
    induction n with
    | zero =>
      intro i hk_48  H locs ls hP hD hS hl
      have hz_48 : bw = i := hk_48.symm
      subst hz_48
      refine lv_iload hx hb dX5_ramp_48 (lv_at hl 7 rfl) ?_
      refine lv_iload_n hx hb dX5_ramp_50 rfl (lv_at hl 3 rfl) ?_
      refine lv_icmp_ge (tgt := 111) hx hb dX5_ramp_51 (by decide) (fun c_51 => ?_) (fun c_51 => xk_ba c_51 (nI_le (Nat.le_refl _) (by omega)))
      refine lv_iconst (v := 1) hx hb dX5_ramp_111 (by decide) ?_
      exact xk_zret hx hb hr hlocks hP hD hS (rfl) (rfl) (rfl) dX5_ramp_112
    | succ n ih_48 =>
      intro i hk_48  H locs ls hP hD hS hl
      refine lv_iload hx hb dX5_ramp_48 (lv_at hl 7 rfl) ?_
      refine lv_iload_n hx hb dX5_ramp_50 rfl (lv_at hl 3 rfl) ?_
      refine lv_icmp_ge (tgt := 111) hx hb dX5_ramp_51 (by decide) (fun c_51 => xk_ab c_51 (nI_ge (by omega) (by omega))) (fun c_51 => ?_)
      refine lv_iconst (v := 0) hx hb dX5_ramp_54 (by decide) ?_
      refine lv_istore (lv' := [(8, .int 0), (0, .ref a0), (1, .int (nI jx)), (2, .int (nI jy)), (3, .int (nI bw)), (4, .int (nI bh)), (5, .int v), (6, .int v1), (7, .int (nI i))]) hx hb dX5_ramp_55 hl (by decide) rfl (fun ls hl => ?_)
      have L57 : ∀ (n j : Nat), j + n = bh → ∀ (H : Heap) (locs : List Loc) (ls : Array Slot), va_P D vwCl [(a0, .inr (5, [.int 0, .int (nI Wd), .int (nI Hh), .int (nI nn), .int na, .int nb, .int rk, .int pr, .int bk, .ref a1, .ref a2, .ref a3, .ref a4, .ref a5, .ref a6, .ref a7, .int lo, .long bt, .long bb])), (a1, .inl (cyI, 576, .inl (rpi (rpo g jx jy bh v v1 i) (jx + i) jy (rpv v v1 i) j)))] H → va_D A [(a0, .inr (5, [.int 0, .int (nI Wd), .int (nI Hh), .int (nI nn), .int na, .int nb, .int rk, .int pr, .int bk, .ref a1, .ref a2, .ref a3, .ref a4, .ref a5, .ref a6, .ref a7, .int lo, .long bt, .long bb])), (a1, .inl (cyI, 576, .inl (rpi (rpo g jx jy bh v v1 i) (jx + i) jy (rpv v v1 i) j)))] → va_S A s.heap H locs → lv_has ls 9 [(0, .ref a0), (1, .int (nI jx)), (2, .int (nI jy)), (3, .int (nI bw)), (4, .int (nI bh)), (5, .int v), (6, .int v1), (7, .int (nI i)), (8, .int (nI j))] → W p l e rm_X5_ramp_ok s m ([.ref a0, .int (nI jx), .int (nI jy), .int (nI bw), .int (nI bh), .int v, .int v1] : List Value).toArray below meth c H locs 0 0 (MQ below (xk_Qi D A 1 [(a0, .inr (5, [.int 0, .int (nI Wd), .int (nI Hh), .int (nI nn), .int na, .int nb, .int rk, .int pr, .int bk, .ref a1, .ref a2, .ref a3, .ref a4, .ref a5, .ref a6, .ref a7, .int lo, .long bt, .long bb])), (a1, .inl (cyI, 576, .inl (rpo g jx jy bh v v1 bw)))]) ([.ref a0, .int (nI jx), .int (nI jy), .int (nI bw), .int (nI bh), .int v, .int v1] : List Value).toArray s 0 0 A) (F0 m 57 ls []) := by
        intro n
        induction n with
        | zero =>
          intro j hk_57  H locs ls hP hD hS hl
          have hz_57 : bh = j := hk_57.symm
          subst hz_57
          refine lv_iload hx hb dX5_ramp_57 (lv_at hl 8 rfl) ?_
          refine lv_iload hx hb dX5_ramp_59 (lv_at hl 4 rfl) ?_
          refine lv_icmp_ge (tgt := 105) hx hb dX5_ramp_61 (by decide) (fun c_61 => ?_) (fun c_61 => xk_ba c_61 (nI_le (Nat.le_refl _) (by omega)))
          refine lv_iinc (v := nI (i + 1)) (lv' := [(7, .int (nI (i + 1))), (0, .ref a0), (1, .int (nI jx)), (2, .int (nI jy)), (3, .int (nI bw)), (4, .int (nI bh)), (5, .int v), (6, .int v1), (8, .int (nI bh))]) hx hb dX5_ramp_105 hl (k := 7) rfl (nI_1 _) (by decide) rfl (fun ls hl => ?_)
          refine lv_goto (tgt := 48) hx hb dX5_ramp_108 (by decide) ?_
          have eq_64 : (rpi (rpo g jx jy bh v v1 i) (jx + i) jy (rpv v v1 i) bh : Nat → Int32) = rpo g jx jy bh v v1 (i + 1) := rfl
          have eW : ([(a0, .inr (5, [.int 0, .int (nI Wd), .int (nI Hh), .int (nI nn), .int na, .int nb, .int rk, .int pr, .int bk, .ref a1, .ref a2, .ref a3, .ref a4, .ref a5, .ref a6, .ref a7, .int lo, .long bt, .long bb])), (a1, .inl (cyI, 576, .inl (rpi (rpo g jx jy bh v v1 i) (jx + i) jy (rpv v v1 i) bh)))] : va_W) = [(a0, .inr (5, [.int 0, .int (nI Wd), .int (nI Hh), .int (nI nn), .int na, .int nb, .int rk, .int pr, .int bk, .ref a1, .ref a2, .ref a3, .ref a4, .ref a5, .ref a6, .ref a7, .int lo, .long bt, .long bb])), (a1, .inl (cyI, 576, .inl (rpo g jx jy bh v v1 (i + 1))))] := (congrArg (List.cons _) (congr (congrArg List.cons (congrArg (fun z => ((a1, (Sum.inl (cyI, 576, Sum.inl z) : va_E)) : Nat × va_E)) eq_64)) rfl))
          rw [eW] at hP hD
          have hl := lv_sub (l' := [(0, .ref a0), (1, .int (nI jx)), (2, .int (nI jy)), (3, .int (nI bw)), (4, .int (nI bh)), (5, .int v), (6, .int v1), (7, .int (nI (i + 1)))]) hl [1, 2, 3, 4, 5, 6, 7, 0] rfl
          exact ih_48 (i + 1) (by omega)  _ _ _ hP hD hS hl
        | succ n ih_57 =>
          intro j hk_57  H locs ls hP hD hS hl
          refine lv_iload hx hb dX5_ramp_57 (lv_at hl 8 rfl) ?_
          refine lv_iload hx hb dX5_ramp_59 (lv_at hl 4 rfl) ?_
          refine lv_icmp_ge (tgt := 105) hx hb dX5_ramp_61 (by decide) (fun c_61 => xk_ab c_61 (nI_ge (by omega) (by omega))) (fun c_61 => ?_)
          refine lv_aload_n hx hb dX5_ramp_64 rfl (lv_at hl 0 rfl) ?_
          refine va_get (D := D) (ci := 5) (v := .ref a1) (C := RX5) (T := TX5) (N := 19) hx hb hts in_X5_ramp_ok_X5 hown hK hP 0 rfl rfl 9 (by decide) hf28 (fun _ h9 => h9) rfl dX5_ramp_65 ?_
          refine lv_bipush (v := 24) hx hb dX5_ramp_68 (by decide) ?_
          refine lv_iload_n hx hb dX5_ramp_70 rfl (lv_at hl 2 rfl) ?_
          refine lv_iload hx hb dX5_ramp_71 (lv_at hl 8 rfl) ?_
          refine lv_iadd hx hb dX5_ramp_73 ?_
          refine lv_imul hx hb dX5_ramp_74 ?_
          refine lv_iload_n hx hb dX5_ramp_75 rfl (lv_at hl 1 rfl) ?_
          refine lv_iadd hx hb dX5_ramp_76 ?_
          refine lv_iload hx hb dX5_ramp_77 (lv_at hl 7 rfl) ?_
          refine lv_iadd hx hb dX5_ramp_79 ?_
          refine lv_iconst (v := 0) hx hb dX5_ramp_80 (by decide) ?_
          refine lv_sipush (v := 255) hx hb dX5_ramp_81 (by decide) ?_
          refine lv_iload hx hb dX5_ramp_84 (lv_at hl 5 rfl) ?_
          refine lv_iload hx hb dX5_ramp_86 (lv_at hl 6 rfl) ?_
          refine lv_iload hx hb dX5_ramp_88 (lv_at hl 7 rfl) ?_
          refine lv_imul hx hb dX5_ramp_90 ?_
          refine lv_iadd hx hb dX5_ramp_91 ?_
          refine va_mmin hx hb (hml.trans hl.1.symm) hown (hts (.methodLink RX5 66 Lib.Math.min.name) (by decide +kernel)) (hts (.static Lib.Math.min.name) (by decide +kernel)) (hts (.initialized "java/lang/Math") (by decide +kernel)) (hts (.code Lib.Math.min.name Lib.Math.min.code 2 (some .int)) (by decide +kernel)) (Nat.le_of_ble_eq_true rfl) (Nat.le_of_ble_eq_true rfl) (Nat.zero_le _) (Nat.zero_le _) dX5_ramp_92 ?_
          refine va_mmax hx hb (hml.trans hl.1.symm) hown (hts (.methodLink RX5 72 Lib.Math.max.name) (by decide +kernel)) (hts (.static Lib.Math.max.name) (by decide +kernel)) (hts (.initialized "java/lang/Math") (by decide +kernel)) (hts (.code Lib.Math.max.name Lib.Math.max.code 2 (some .int)) (by decide +kernel)) (Nat.le_of_ble_eq_true rfl) (Nat.le_of_ble_eq_true rfl) (Nat.zero_le _) (Nat.zero_le _) dX5_ramp_95 ?_
          refine xk_topi (y := (rpv v v1 i)) (rfl) ?_
          refine xk_iast (w2 := [(a0, .inr (5, [.int 0, .int (nI Wd), .int (nI Hh), .int (nI nn), .int na, .int nb, .int rk, .int pr, .int bk, .ref a1, .ref a2, .ref a3, .ref a4, .ref a5, .ref a6, .ref a7, .int lo, .long bt, .long bb])), (a1, .inl (cyI, 576, .inl (upd (rpi (rpo g jx jy bh v v1 i) (jx + i) jy (rpv v v1 i) j) ((jy + j) * 24 + (jx + i)) (rpv v v1 i))))]) hx hb hK hP hD hS 1 rfl ((jy + j) * 24 + (jx + i)) (md_spot4 jx jy i j) (by omega) (by decide) rfl dX5_ramp_98 (fun H locs hP hD hS => ?_)
          refine lv_iinc (v := nI (j + 1)) (lv' := [(8, .int (nI (j + 1))), (0, .ref a0), (1, .int (nI jx)), (2, .int (nI jy)), (3, .int (nI bw)), (4, .int (nI bh)), (5, .int v), (6, .int v1), (7, .int (nI i))]) hx hb dX5_ramp_99 hl (k := 8) rfl (nI_1 _) (by decide) rfl (fun ls hl => ?_)
          refine lv_goto (tgt := 57) hx hb dX5_ramp_102 (by decide) ?_
          have eq_98 : (upd (rpi (rpo g jx jy bh v v1 i) (jx + i) jy (rpv v v1 i) j) ((jy + j) * 24 + (jx + i)) (rpv v v1 i) : Nat → Int32) = rpi (rpo g jx jy bh v v1 i) (jx + i) jy (rpv v v1 i) (j + 1) := rfl
          have eW : ([(a0, .inr (5, [.int 0, .int (nI Wd), .int (nI Hh), .int (nI nn), .int na, .int nb, .int rk, .int pr, .int bk, .ref a1, .ref a2, .ref a3, .ref a4, .ref a5, .ref a6, .ref a7, .int lo, .long bt, .long bb])), (a1, .inl (cyI, 576, .inl (upd (rpi (rpo g jx jy bh v v1 i) (jx + i) jy (rpv v v1 i) j) ((jy + j) * 24 + (jx + i)) (rpv v v1 i))))] : va_W) = [(a0, .inr (5, [.int 0, .int (nI Wd), .int (nI Hh), .int (nI nn), .int na, .int nb, .int rk, .int pr, .int bk, .ref a1, .ref a2, .ref a3, .ref a4, .ref a5, .ref a6, .ref a7, .int lo, .long bt, .long bb])), (a1, .inl (cyI, 576, .inl (rpi (rpo g jx jy bh v v1 i) (jx + i) jy (rpv v v1 i) (j + 1))))] := (congrArg (List.cons _) (congr (congrArg List.cons (congrArg (fun z => ((a1, (Sum.inl (cyI, 576, Sum.inl z) : va_E)) : Nat × va_E)) eq_98)) rfl))
          rw [eW] at hP hD
          have hl := lv_sub (l' := [(0, .ref a0), (1, .int (nI jx)), (2, .int (nI jy)), (3, .int (nI bw)), (4, .int (nI bh)), (5, .int v), (6, .int v1), (7, .int (nI i)), (8, .int (nI (j + 1)))]) hl [1, 2, 3, 4, 5, 6, 7, 8, 0] rfl
          exact ih_57 (j + 1) (by omega)  _ _ _ hP hD hS hl
      have eq_103 : (0 : Int32) = nI 0 := rfl
      have eq_104 : (rpo g jx jy bh v v1 i : Nat → Int32) = rpi (rpo g jx jy bh v v1 i) (jx + i) jy (rpv v v1 i) 0 := rfl
      have eW : ([(a0, .inr (5, [.int 0, .int (nI Wd), .int (nI Hh), .int (nI nn), .int na, .int nb, .int rk, .int pr, .int bk, .ref a1, .ref a2, .ref a3, .ref a4, .ref a5, .ref a6, .ref a7, .int lo, .long bt, .long bb])), (a1, .inl (cyI, 576, .inl (rpo g jx jy bh v v1 i)))] : va_W) = [(a0, .inr (5, [.int 0, .int (nI Wd), .int (nI Hh), .int (nI nn), .int na, .int nb, .int rk, .int pr, .int bk, .ref a1, .ref a2, .ref a3, .ref a4, .ref a5, .ref a6, .ref a7, .int lo, .long bt, .long bb])), (a1, .inl (cyI, 576, .inl (rpi (rpo g jx jy bh v v1 i) (jx + i) jy (rpv v v1 i) 0)))] := (congrArg (List.cons _) (congr (congrArg List.cons (congrArg (fun z => ((a1, (Sum.inl (cyI, 576, Sum.inl z) : va_E)) : Nat × va_E)) eq_104)) rfl))
      rw [eW] at hP hD
      have hl := lv_sub (l' := [(0, .ref a0), (1, .int (nI jx)), (2, .int (nI jy)), (3, .int (nI bw)), (4, .int (nI bh)), (5, .int v), (6, .int v1), (7, .int (nI i)), (8, .int 0)]) hl [1, 2, 3, 4, 5, 6, 7, 8, 0] rfl
      have eL : ([(0, .ref a0), (1, .int (nI jx)), (2, .int (nI jy)), (3, .int (nI bw)), (4, .int (nI bh)), (5, .int v), (6, .int v1), (7, .int (nI i)), (8, .int 0)] : List (Nat × Value)) = [(0, .ref a0), (1, .int (nI jx)), (2, .int (nI jy)), (3, .int (nI bw)), (4, .int (nI bh)), (5, .int v), (6, .int v1), (7, .int (nI i)), (8, .int (nI 0))] := (congrArg (List.cons _) (congrArg (List.cons _) (congrArg (List.cons _) (congrArg (List.cons _) (congrArg (List.cons _) (congrArg (List.cons _) (congrArg (List.cons _) (congrArg (List.cons _) (congr (congrArg List.cons (congrArg (fun z => (((8 : Nat), Value.int z) : Nat × Value)) eq_103)) rfl)))))))))
      rw [eL] at hl
      exact L57 _ 0 (Nat.zero_add _)  _ _ _ hP hD hS hl
  have eq_111 : (0 : Int32) = nI 0 := rfl
  have eq_112 : (g : Nat → Int32) = rpo g jx jy bh v v1 0 := rfl
  have eW : ([(a0, .inr (5, [.int 0, .int (nI Wd), .int (nI Hh), .int (nI nn), .int na, .int nb, .int rk, .int pr, .int bk, .ref a1, .ref a2, .ref a3, .ref a4, .ref a5, .ref a6, .ref a7, .int lo, .long bt, .long bb])), (a1, .inl (cyI, 576, .inl g))] : va_W) = [(a0, .inr (5, [.int 0, .int (nI Wd), .int (nI Hh), .int (nI nn), .int na, .int nb, .int rk, .int pr, .int bk, .ref a1, .ref a2, .ref a3, .ref a4, .ref a5, .ref a6, .ref a7, .int lo, .long bt, .long bb])), (a1, .inl (cyI, 576, .inl (rpo g jx jy bh v v1 0)))] := (congrArg (List.cons _) (congr (congrArg List.cons (congrArg (fun z => ((a1, (Sum.inl (cyI, 576, Sum.inl z) : va_E)) : Nat × va_E)) eq_112)) rfl))
  rw [eW] at hP hD
  have hl := lv_sub (l' := [(0, .ref a0), (1, .int (nI jx)), (2, .int (nI jy)), (3, .int (nI bw)), (4, .int (nI bh)), (5, .int v), (6, .int v1), (7, .int 0)]) hl [1, 2, 3, 4, 5, 6, 7, 0] rfl
  have eL : ([(0, .ref a0), (1, .int (nI jx)), (2, .int (nI jy)), (3, .int (nI bw)), (4, .int (nI bh)), (5, .int v), (6, .int v1), (7, .int 0)] : List (Nat × Value)) = [(0, .ref a0), (1, .int (nI jx)), (2, .int (nI jy)), (3, .int (nI bw)), (4, .int (nI bh)), (5, .int v), (6, .int v1), (7, .int (nI 0))] := (congrArg (List.cons _) (congrArg (List.cons _) (congrArg (List.cons _) (congrArg (List.cons _) (congrArg (List.cons _) (congrArg (List.cons _) (congrArg (List.cons _) (congr (congrArg List.cons (congrArg (fun z => (((7 : Nat), Value.int z) : Nat × Value)) eq_111)) rfl))))))))
  rw [eL] at hl
  exact L48 _ 0 (Nat.zero_add _)  _ _ _ hP hD hS hl
