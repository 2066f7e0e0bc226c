/-! the reference: counts, best -/
abbrev rm_X5_count_0 : Room := { frames := 0, cells := 0, slots := 0, locals := 0 }
theorem in_X5_count_0_X5 : ∀ w ∈ u_ws RX5 TX5 19, w ∈ wsX5_count := by decide +kernel
set_option maxHeartbeats 4000000 in
set_option maxRecDepth 100000 in
theorem ct_X5_count_0 (l : Launch) (D : va_G) (cyI cyZ : ClassId) (a0 a1 a2 a3 a4 a5 a6 a7 : Nat) (sz : Nat) (th : Int32) (Wd Hh nn : Nat) (na nb rk pr bk lo : Int32) (bt bb : Int64)  : Met l yX5_count wsX5_count rm_X5_count_0 (xk_Pc D cyI cyZ [.ref a0, .int 0] [(a0, .inr (5, [.int th, .int (nI Wd), .int (nI Hh), .int (nI nn), .int na, .int nb, .int rk, .int pr, .int bk, .ref a1, .ref a2, .ref a3, .ref a4, .ref a5, .ref a6, .ref a7, .int lo, .long bt, .long bb]))] sz) (xk_Qi D (va_A [(a0, .inr (5, [.int th, .int (nI Wd), .int (nI Hh), .int (nI nn), .int na, .int nb, .int rk, .int pr, .int bk, .ref a1, .ref a2, .ref a3, .ref a4, .ref a5, .ref a6, .ref a7, .int lo, .long bt, .long bb]))] sz) (nI Wd) [(a0, .inr (5, [.int 0, .int (nI Wd), .int (nI Hh), .int (nI nn), .int na, .int nb, .int rk, .int pr, .int bk, .ref a1, .ref a2, .ref a3, .ref a4, .ref a5, .ref a6, .ref a7, .int lo, .long bt, .long bb]))]) 0 0 (va_A [(a0, .inr (5, [.int th, .int (nI Wd), .int (nI Hh), .int (nI nn), .int na, .int nb, .int rk, .int pr, .int bk, .ref a1, .ref a2, .ref a3, .ref a4, .ref a5, .ref a6, .ref a7, .int lo, .long bt, .long bb]))] sz) := by
  refine xk_of (own := RX5) (cc := cX5_count) (maxL := 5) (ret := (some .int)) (Qc := fun A => xk_Qi D A (nI Wd) [(a0, .inr (5, [.int 0, .int (nI Wd), .int (nI Hh), .int (nI nn), .int na, .int nb, .int rk, .int pr, .int bk, .ref a1, .ref a2, .ref a3, .ref a4, .ref a5, .ref a6, .ref a7, .int lo, .long bt, .long bb]))]) (by decide) rfl rfl (Nat.le_of_ble_eq_true rfl) ?_
  intro p e s m below meth c A ls hx hb hr hml hown hlocks hin hts hA hP hK hN hD hS hl
  have hC0 := xk_fix hx hb hml hown hts
  have hl : lv_has ls 5 [(0, .ref a0), (1, .int 0)] := hl
  have hf7 := hts (.fieldLink RX5 7 "DotPressModel" "wide" "I") (by decide +kernel)
  have hf51 := hts (.fieldLink RX5 51 "DotPressModel" "thrown" "I") (by decide +kernel)
  refine lv_aload_n hx hb dX5_count_0 rfl (lv_at hl 0 rfl) ?_
  refine lv_iconst (v := 0) hx hb dX5_count_1 (by decide) ?_
  refine va_put (D := D) (ci := 5) (v := .int 0) (ty := .int) (C := RX5) (T := TX5) (N := 19) hx hb hts in_X5_count_0_X5 tyX5 tyX5_ok nmX5 hown hK hP hD hS 0 rfl rfl 0 (by decide) hf51 (fun _ h9 => h9) rfl (by decide +kernel) (rfl) (rfl) (Nat.le_of_ble_eq_true rfl) dX5_count_2 (fun H locs hP hD hS => ?_)
  have hP : va_P D vwCl [(a0, .inr (5, [.int 0, .int (nI Wd), .int (nI Hh), .int (nI nn), .int na, .int nb, .int rk, .int pr, .int bk, .ref a1, .ref a2, .ref a3, .ref a4, .ref a5, .ref a6, .ref a7, .int lo, .long bt, .long bb]))] H := hP
  have hD : va_D A [(a0, .inr (5, [.int 0, .int (nI Wd), .int (nI Hh), .int (nI nn), .int na, .int nb, .int rk, .int pr, .int bk, .ref a1, .ref a2, .ref a3, .ref a4, .ref a5, .ref a6, .ref a7, .int lo, .long bt, .long bb]))] := hD
  refine lv_iconst (v := 0) hx hb dX5_count_5 (by decide) ?_
  refine lv_istore_n (lv' := [(2, .int 0), (0, .ref a0), (1, .int 0)]) hx hb dX5_count_6 rfl hl (by decide) rfl (fun ls hl => ?_)
  refine lv_iload_n hx hb dX5_count_7 rfl (lv_at hl 2 rfl) ?_
  refine lv_tableIn (off := 48) (tgt := 56) hx hb dX5_count_8 (by decide) (by decide) (by decide) (by decide) ?_
  refine lv_aload_n hx hb dX5_count_56 rfl (lv_at hl 1 rfl) ?_
  refine va_get (D := D) (ci := 5) (v := .int (nI Wd)) (C := RX5) (T := TX5) (N := 19) hx hb hts in_X5_count_0_X5 hown hK hP 0 rfl rfl 1 (by decide) hf7 (fun _ h9 => h9) rfl dX5_count_57 ?_
  exact xk_iret hx hb hr hlocks hP hD hS (rfl) (rfl) dX5_count_60

abbrev rm_X5_count_1 : Room := { frames := 0, cells := 0, slots := 0, locals := 0 }
theorem in_X5_count_1_X5 : ∀ w ∈ u_ws RX5 TX5 19, w ∈ wsX5_count := by decide +kernel
set_option maxHeartbeats 4000000 in
set_option maxRecDepth 100000 in
theorem ct_X5_count_1 (l : Launch) (D : va_G) (cyI cyZ : ClassId) (a0 a1 a2 a3 a4 a5 a6 a7 : Nat) (sz : Nat) (th : Int32) (Wd Hh nn : Nat) (na nb rk pr bk lo : Int32) (bt bb : Int64)  : Met l yX5_count wsX5_count rm_X5_count_1 (xk_Pc D cyI cyZ [.ref a0, .int 1] [(a0, .inr (5, [.int th, .int (nI Wd), .int (nI Hh), .int (nI nn), .int na, .int nb, .int rk, .int pr, .int bk, .ref a1, .ref a2, .ref a3, .ref a4, .ref a5, .ref a6, .ref a7, .int lo, .long bt, .long bb]))] sz) (xk_Qi D (va_A [(a0, .inr (5, [.int th, .int (nI Wd), .int (nI Hh), .int (nI nn), .int na, .int nb, .int rk, .int pr, .int bk, .ref a1, .ref a2, .ref a3, .ref a4, .ref a5, .ref a6, .ref a7, .int lo, .long bt, .long bb]))] sz) (nI Hh) [(a0, .inr (5, [.int 0, .int (nI Wd), .int (nI Hh), .int (nI nn), .int na, .int nb, .int rk, .int pr, .int bk, .ref a1, .ref a2, .ref a3, .ref a4, .ref a5, .ref a6, .ref a7, .int lo, .long bt, .long bb]))]) 0 0 (va_A [(a0, .inr (5, [.int th, .int (nI Wd), .int (nI Hh), .int (nI nn), .int na, .int nb, .int rk, .int pr, .int bk, .ref a1, .ref a2, .ref a3, .ref a4, .ref a5, .ref a6, .ref a7, .int lo, .long bt, .long bb]))] sz) := by
  refine xk_of (own := RX5) (cc := cX5_count) (maxL := 5) (ret := (some .int)) (Qc := fun A => xk_Qi D A (nI Hh) [(a0, .inr (5, [.int 0, .int (nI Wd), .int (nI Hh), .int (nI nn), .int na, .int nb, .int rk, .int pr, .int bk, .ref a1, .ref a2, .ref a3, .ref a4, .ref a5, .ref a6, .ref a7, .int lo, .long bt, .long bb]))]) (by decide) rfl rfl (Nat.le_of_ble_eq_true rfl) ?_
  intro p e s m below meth c A ls hx hb hr hml hown hlocks hin hts hA hP hK hN hD hS hl
  have hC0 := xk_fix hx hb hml hown hts
  have hl : lv_has ls 5 [(0, .ref a0), (1, .int 1)] := hl
  have hf13 := hts (.fieldLink RX5 13 "DotPressModel" "high" "I") (by decide +kernel)
  have hf51 := hts (.fieldLink RX5 51 "DotPressModel" "thrown" "I") (by decide +kernel)
  refine lv_aload_n hx hb dX5_count_0 rfl (lv_at hl 0 rfl) ?_
  refine lv_iconst (v := 0) hx hb dX5_count_1 (by decide) ?_
  refine va_put (D := D) (ci := 5) (v := .int 0) (ty := .int) (C := RX5) (T := TX5) (N := 19) hx hb hts in_X5_count_1_X5 tyX5 tyX5_ok nmX5 hown hK hP hD hS 0 rfl rfl 0 (by decide) hf51 (fun _ h9 => h9) rfl (by decide +kernel) (rfl) (rfl) (Nat.le_of_ble_eq_true rfl) dX5_count_2 (fun H locs hP hD hS => ?_)
  have hP : va_P D vwCl [(a0, .inr (5, [.int 0, .int (nI Wd), .int (nI Hh), .int (nI nn), .int na, .int nb, .int rk, .int pr, .int bk, .ref a1, .ref a2, .ref a3, .ref a4, .ref a5, .ref a6, .ref a7, .int lo, .long bt, .long bb]))] H := hP
  have hD : va_D A [(a0, .inr (5, [.int 0, .int (nI Wd), .int (nI Hh), .int (nI nn), .int na, .int nb, .int rk, .int pr, .int bk, .ref a1, .ref a2, .ref a3, .ref a4, .ref a5, .ref a6, .ref a7, .int lo, .long bt, .long bb]))] := hD
  refine lv_iconst (v := 0) hx hb dX5_count_5 (by decide) ?_
  refine lv_istore_n (lv' := [(2, .int 0), (0, .ref a0), (1, .int 1)]) hx hb dX5_count_6 rfl hl (by decide) rfl (fun ls hl => ?_)
  refine lv_iload_n hx hb dX5_count_7 rfl (lv_at hl 2 rfl) ?_
  refine lv_tableIn (off := 53) (tgt := 61) hx hb dX5_count_8 (by decide) (by decide) (by decide) (by decide) ?_
  refine lv_aload_n hx hb dX5_count_61 rfl (lv_at hl 1 rfl) ?_
  refine va_get (D := D) (ci := 5) (v := .int (nI Hh)) (C := RX5) (T := TX5) (N := 19) hx hb hts in_X5_count_1_X5 hown hK hP 0 rfl rfl 2 (by decide) hf13 (fun _ h9 => h9) rfl dX5_count_62 ?_
  exact xk_iret hx hb hr hlocks hP hD hS (rfl) (rfl) dX5_count_65

abbrev rm_X5_count_2 : Room := { frames := 0, cells := 0, slots := 0, locals := 0 }
theorem in_X5_count_2_X5 : ∀ w ∈ u_ws RX5 TX5 19, w ∈ wsX5_count := by decide +kernel
set_option maxHeartbeats 4000000 in
set_option maxRecDepth 100000 in
theorem ct_X5_count_2 (l : Launch) (D : va_G) (cyI cyZ : ClassId) (a0 a1 a2 a3 a4 a5 a6 a7 : Nat) (sz : Nat) (th : Int32) (Wd Hh nn : Nat) (na nb rk pr bk lo : Int32) (bt bb : Int64) (ln : Nat → Int32) (hw1 : 1 ≤ Wd) (hw2 : Wd ≤ 24) (hh1 : 1 ≤ Hh) (hh2 : Hh ≤ 24) : Met l yX5_count wsX5_count rm_X5_count_2 (xk_Pc D cyI cyZ [.ref a0, .int 2] [(a0, .inr (5, [.int th, .int (nI Wd), .int (nI Hh), .int (nI nn), .int na, .int nb, .int rk, .int pr, .int bk, .ref a1, .ref a2, .ref a3, .ref a4, .ref a5, .ref a6, .ref a7, .int lo, .long bt, .long bb])), (a4, .inl (cyZ, 576, .inl ln))] sz) (xk_Qi D (va_A [(a0, .inr (5, [.int th, .int (nI Wd), .int (nI Hh), .int (nI nn), .int na, .int nb, .int rk, .int pr, .int bk, .ref a1, .ref a2, .ref a3, .ref a4, .ref a5, .ref a6, .ref a7, .int lo, .long bt, .long bb])), (a4, .inl (cyZ, 576, .inl ln))] sz) (l2O ln Wd Hh) [(a0, .inr (5, [.int 0, .int (nI Wd), .int (nI Hh), .int (nI nn), .int na, .int nb, .int rk, .int pr, .int bk, .ref a1, .ref a2, .ref a3, .ref a4, .ref a5, .ref a6, .ref a7, .int lo, .long bt, .long bb])), (a4, .inl (cyZ, 576, .inl ln))]) 0 0 (va_A [(a0, .inr (5, [.int th, .int (nI Wd), .int (nI Hh), .int (nI nn), .int na, .int nb, .int rk, .int pr, .int bk, .ref a1, .ref a2, .ref a3, .ref a4, .ref a5, .ref a6, .ref a7, .int lo, .long bt, .long bb])), (a4, .inl (cyZ, 576, .inl ln))] sz) := by
  refine xk_of (own := RX5) (cc := cX5_count) (maxL := 5) (ret := (some .int)) (Qc := fun A => xk_Qi D A (l2O ln Wd Hh) [(a0, .inr (5, [.int 0, .int (nI Wd), .int (nI Hh), .int (nI nn), .int na, .int nb, .int rk, .int pr, .int bk, .ref a1, .ref a2, .ref a3, .ref a4, .ref a5, .ref a6, .ref a7, .int lo, .long bt, .long bb])), (a4, .inl (cyZ, 576, .inl ln))]) (by decide) rfl rfl (Nat.le_of_ble_eq_true rfl) ?_
  intro p e s m below meth c A ls hx hb hr hml hown hlocks hin hts hA hP hK hN hD hS hl
  have hC0 := xk_fix hx hb hml hown hts
  have hl : lv_has ls 5 [(0, .ref a0), (1, .int 2)] := hl
  have hf7 := hts (.fieldLink RX5 7 "DotPressModel" "wide" "I") (by decide +kernel)
  have hf13 := hts (.fieldLink RX5 13 "DotPressModel" "high" "I") (by decide +kernel)
  have hf38 := hts (.fieldLink RX5 38 "DotPressModel" "isLine" "[Z") (by decide +kernel)
  have hf51 := hts (.fieldLink RX5 51 "DotPressModel" "thrown" "I") (by decide +kernel)
  refine lv_aload_n hx hb dX5_count_0 rfl (lv_at hl 0 rfl) ?_
  refine lv_iconst (v := 0) hx hb dX5_count_1 (by decide) ?_
  refine va_put (D := D) (ci := 5) (v := .int 0) (ty := .int) (C := RX5) (T := TX5) (N := 19) hx hb hts in_X5_count_2_X5 tyX5 tyX5_ok nmX5 hown hK hP hD hS 0 rfl rfl 0 (by decide) hf51 (fun _ h9 => h9) rfl (by decide +kernel) (rfl) (rfl) (Nat.le_of_ble_eq_true rfl) dX5_count_2 (fun H locs hP hD hS => ?_)
  have hP : va_P D vwCl [(a0, .inr (5, [.int 0, .int (nI Wd), .int (nI Hh), .int (nI nn), .int na, .int nb, .int rk, .int pr, .int bk, .ref a1, .ref a2, .ref a3, .ref a4, .ref a5, .ref a6, .ref a7, .int lo, .long bt, .long bb])), (a4, .inl (cyZ, 576, .inl ln))] H := hP
  have hD : va_D A [(a0, .inr (5, [.int 0, .int (nI Wd), .int (nI Hh), .int (nI nn), .int na, .int nb, .int rk, .int pr, .int bk, .ref a1, .ref a2, .ref a3, .ref a4, .ref a5, .ref a6, .ref a7, .int lo, .long bt, .long bb])), (a4, .inl (cyZ, 576, .inl ln))] := hD
  refine lv_iconst (v := 0) hx hb dX5_count_5 (by decide) ?_
  refine lv_istore_n (lv' := [(2, .int 0), (0, .ref a0), (1, .int 2)]) hx hb dX5_count_6 rfl hl (by decide) rfl (fun ls hl => ?_)
  refine lv_iload_n hx hb dX5_count_7 rfl (lv_at hl 2 rfl) ?_
  refine lv_tableIn (off := 58) (tgt := 66) hx hb dX5_count_8 (by decide) (by decide) (by decide) (by decide) ?_
  refine lv_iconst (v := 0) hx hb dX5_count_66 (by decide) ?_
  refine lv_istore_n (lv' := [(3, .int 0), (2, .int 0), (0, .ref a0), (1, .int 2)]) hx hb dX5_count_67 rfl hl (by decide) rfl (fun ls hl => ?_)
  have L68 : ∀ (n y : Nat), y + n = Hh → ∀ (H : Heap) (locs : List Loc) (ls : Array Slot), va_P D vwCl [(a0, .inr (5, [.int 0, .int (nI Wd), .int (nI Hh), .int (nI nn), .int na, .int nb, .int rk, .int pr, .int bk, .ref a1, .ref a2, .ref a3, .ref a4, .ref a5, .ref a6, .ref a7, .int lo, .long bt, .long bb])), (a4, .inl (cyZ, 576, .inl ln))] H → va_D A [(a0, .inr (5, [.int 0, .int (nI Wd), .int (nI Hh), .int (nI nn), .int na, .int nb, .int rk, .int pr, .int bk, .ref a1, .ref a2, .ref a3, .ref a4, .ref a5, .ref a6, .ref a7, .int lo, .long bt, .long bb])), (a4, .inl (cyZ, 576, .inl ln))] → va_S A s.heap H locs → lv_has ls 5 [(0, .ref a0), (1, .int 2), (2, .int (l2O ln Wd y)), (3, .int (nI y))] → W p l e rm_X5_count_2 s m ([.ref a0, .int 2] : List Value).toArray below meth c H locs 0 0 (MQ below (xk_Qi D A (l2O ln Wd Hh) [(a0, .inr (5, [.int 0, .int (nI Wd), .int (nI Hh), .int (nI nn), .int na, .int nb, .int rk, .int pr, .int bk, .ref a1, .ref a2, .ref a3, .ref a4, .ref a5, .ref a6, .ref a7, .int lo, .long bt, .long bb])), (a4, .inl (cyZ, 576, .inl ln))]) ([.ref a0, .int 2] : List Value).toArray s 0 0 A) (F0 m 68 ls []) := by
    intro n
    induction n with
    | zero =>
      intro y hk_68  H locs ls hP hD hS hl
      have hz_68 : Hh = y := hk_68.symm
      subst hz_68
      refine lv_iload_n hx hb dX5_count_68 rfl (lv_at hl 3 rfl) ?_
      refine lv_aload_n hx hb dX5_count_69 rfl (lv_at hl 0 rfl) ?_
      refine va_get (D := D) (ci := 5) (v := .int (nI Hh)) (C := RX5) (T := TX5) (N := 19) hx hb hts in_X5_count_2_X5 hown hK hP 0 rfl rfl 2 (by decide) hf13 (fun _ h9 => h9) rfl dX5_count_70 ?_
      refine lv_icmp_ge (tgt := 162) hx hb dX5_count_73 (by decide) (fun c_73 => ?_) (fun c_73 => xk_ba c_73 (nI_le (Nat.le_refl _) (by omega)))
      refine lv_iload_n hx hb dX5_count_162 rfl (lv_at hl 2 rfl) ?_
      exact xk_iret hx hb hr hlocks hP hD hS (rfl) (rfl) dX5_count_163
    | succ n ih_68 =>
      intro y hk_68  H locs ls hP hD hS hl
      refine lv_iload_n hx hb dX5_count_68 rfl (lv_at hl 3 rfl) ?_
      refine lv_aload_n hx hb dX5_count_69 rfl (lv_at hl 0 rfl) ?_
      refine va_get (D := D) (ci := 5) (v := .int (nI Hh)) (C := RX5) (T := TX5) (N := 19) hx hb hts in_X5_count_2_X5 hown hK hP 0 rfl rfl 2 (by decide) hf13 (fun _ h9 => h9) rfl dX5_count_70 ?_
      refine lv_icmp_ge (tgt := 162) hx hb dX5_count_73 (by decide) (fun c_73 => xk_ab c_73 (nI_ge (by omega) (by omega))) (fun c_73 => ?_)
      refine lv_iconst (v := 0) hx hb dX5_count_76 (by decide) ?_
      refine lv_istore (lv' := [(4, .int 0), (0, .ref a0), (1, .int 2), (2, .int (l2O ln Wd y)), (3, .int (nI y))]) hx hb dX5_count_77 hl (by decide) rfl (fun ls hl => ?_)
      have L79 : ∀ (n x : Nat), x + n = Wd → ∀ (H : Heap) (locs : List Loc) (ls : Array Slot), va_P D vwCl [(a0, .inr (5, [.int 0, .int (nI Wd), .int (nI Hh), .int (nI nn), .int na, .int nb, .int rk, .int pr, .int bk, .ref a1, .ref a2, .ref a3, .ref a4, .ref a5, .ref a6, .ref a7, .int lo, .long bt, .long bb])), (a4, .inl (cyZ, 576, .inl ln))] H → va_D A [(a0, .inr (5, [.int 0, .int (nI Wd), .int (nI Hh), .int (nI nn), .int na, .int nb, .int rk, .int pr, .int bk, .ref a1, .ref a2, .ref a3, .ref a4, .ref a5, .ref a6, .ref a7, .int lo, .long bt, .long bb])), (a4, .inl (cyZ, 576, .inl ln))] → va_S A s.heap H locs → lv_has ls 5 [(0, .ref a0), (1, .int 2), (2, .int (l2I ln y (l2O ln Wd y) x)), (3, .int (nI y)), (4, .int (nI x))] → W p l e rm_X5_count_2 s m ([.ref a0, .int 2] : List Value).toArray below meth c H locs 0 0 (MQ below (xk_Qi D A (l2O ln Wd Hh) [(a0, .inr (5, [.int 0, .int (nI Wd), .int (nI Hh), .int (nI nn), .int na, .int nb, .int rk, .int pr, .int bk, .ref a1, .ref a2, .ref a3, .ref a4, .ref a5, .ref a6, .ref a7, .int lo, .long bt, .long bb])), (a4, .inl (cyZ, 576, .inl ln))]) ([.ref a0, .int 2] : List Value).toArray s 0 0 A) (F0 m 79 ls []) := by
        intro n
        induction n with
        | zero =>
          intro x hk_79  H locs ls hP hD hS hl
          have hz_79 : Wd = x := hk_79.symm
          subst hz_79
          refine lv_iload hx hb dX5_count_79 (lv_at hl 4 rfl) ?_
          refine lv_aload_n hx hb dX5_count_81 rfl (lv_at hl 0 rfl) ?_
          refine va_get (D := D) (ci := 5) (v := .int (nI Wd)) (C := RX5) (T := TX5) (N := 19) hx hb hts in_X5_count_2_X5 hown hK hP 0 rfl rfl 1 (by decide) hf7 (fun _ h9 => h9) rfl dX5_count_82 ?_
          refine lv_icmp_ge (tgt := 156) hx hb dX5_count_85 (by decide) (fun c_85 => ?_) (fun c_85 => xk_ba c_85 (nI_le (Nat.le_refl _) (by omega)))
          refine lv_iinc (v := nI (y + 1)) (lv' := [(3, .int (nI (y + 1))), (0, .ref a0), (1, .int 2), (2, .int (l2I ln y (l2O ln Wd y) Wd)), (4, .int (nI Wd))]) hx hb dX5_count_156 hl (k := 3) rfl (nI_1 _) (by decide) rfl (fun ls hl => ?_)
          refine lv_goto (tgt := 68) hx hb dX5_count_159 (by decide) ?_
          have eq_45 : (l2I ln y (l2O ln Wd y) Wd : Int32) = l2O ln Wd (y + 1) := rfl
          have hl := lv_sub (l' := [(0, .ref a0), (1, .int 2), (2, .int (l2I ln y (l2O ln Wd y) Wd)), (3, .int (nI (y + 1)))]) hl [1, 2, 3, 0] rfl
          have eL : ([(0, .ref a0), (1, .int 2), (2, .int (l2I ln y (l2O ln Wd y) Wd)), (3, .int (nI (y + 1)))] : List (Nat × Value)) = [(0, .ref a0), (1, .int 2), (2, .int (l2O ln Wd (y + 1))), (3, .int (nI (y + 1)))] := (congrArg (List.cons _) (congrArg (List.cons _) (congr (congrArg List.cons (congrArg (fun z => (((2 : Nat), Value.int z) : Nat × Value)) eq_45)) (congrArg (List.cons _) rfl))))
          rw [eL] at hl
          exact ih_68 (y + 1) (by omega)  _ _ _ hP hD hS hl
        | succ n ih_79 =>
          intro x hk_79  H locs ls hP hD hS hl
          refine lv_iload hx hb dX5_count_79 (lv_at hl 4 rfl) ?_
          refine lv_aload_n hx hb dX5_count_81 rfl (lv_at hl 0 rfl) ?_
          refine va_get (D := D) (ci := 5) (v := .int (nI Wd)) (C := RX5) (T := TX5) (N := 19) hx hb hts in_X5_count_2_X5 hown hK hP 0 rfl rfl 1 (by decide) hf7 (fun _ h9 => h9) rfl dX5_count_82 ?_
          refine lv_icmp_ge (tgt := 156) hx hb dX5_count_85 (by decide) (fun c_85 => xk_ab c_85 (nI_ge (by omega) (by omega))) (fun c_85 => ?_)
          refine lv_iload_n hx hb dX5_count_88 rfl (lv_at hl 2 rfl) ?_
          refine lv_iload_n hx hb dX5_count_89 rfl (lv_at hl 1 rfl) ?_
          refine lv_iconst (v := 2) hx hb dX5_count_90 (by decide) ?_
          refine lv_icmp_ne (tgt := 117) hx hb dX5_count_91 (by decide) (fun c_91 => xk_ba c_91 ((rfl : (2 : Int32) = 2))) (fun c_91 => ?_)
          refine lv_aload_n hx hb dX5_count_94 rfl (lv_at hl 0 rfl) ?_
          refine va_get (D := D) (ci := 5) (v := .ref a4) (C := RX5) (T := TX5) (N := 19) hx hb hts in_X5_count_2_X5 hown hK hP 0 rfl rfl 12 (by decide) hf38 (fun _ h9 => h9) rfl dX5_count_95 ?_
          refine lv_bipush (v := 24) hx hb dX5_count_98 (by decide) ?_
          refine lv_iload_n hx hb dX5_count_100 rfl (lv_at hl 3 rfl) ?_
          refine lv_imul hx hb dX5_count_101 ?_
          refine lv_iload hx hb dX5_count_102 (lv_at hl 4 rfl) ?_
          refine lv_iadd hx hb dX5_count_104 ?_
          refine xk_topi (y := nI (y * 24 + x)) (md_spot _ _) ?_
          refine xk_zald hx hb hK hP 1 rfl (y * 24 + x) (rfl) (by omega) (by decide) dX5_count_105 ?_
          refine lv_if_eq (tgt := 113) hx hb dX5_count_106 (by decide) (fun c_106 => ?_) (fun c_106 => ?_)
          · refine lv_iconst (v := 0) hx hb dX5_count_113 (by decide) ?_
            refine lv_goto (tgt := 148) hx hb dX5_count_114 (by decide) ?_
            refine lv_iadd hx hb dX5_count_148 ?_
            refine lv_istore_n (lv' := [(2, .int (l2I ln y (l2O ln Wd y) x + 0)), (0, .ref a0), (1, .int 2), (3, .int (nI y)), (4, .int (nI x))]) hx hb dX5_count_149 rfl hl (by decide) rfl (fun ls hl => ?_)
            refine lv_iinc (v := nI (x + 1)) (lv' := [(4, .int (nI (x + 1))), (2, .int (l2I ln y (l2O ln Wd y) x + 0)), (0, .ref a0), (1, .int 2), (3, .int (nI y))]) hx hb dX5_count_150 hl (k := 4) rfl (nI_1 _) (by decide) rfl (fun ls hl => ?_)
            refine lv_goto (tgt := 79) hx hb dX5_count_153 (by decide) ?_
            have eq_76 : (l2I ln y (l2O ln Wd y) x + 0 : Int32) = l2I ln y (l2O ln Wd y) (x + 1) := l2I_a c_106
            have hl := lv_sub (l' := [(0, .ref a0), (1, .int 2), (2, .int (l2I ln y (l2O ln Wd y) x + 0)), (3, .int (nI y)), (4, .int (nI (x + 1)))]) hl [2, 3, 1, 4, 0] rfl
            have eL : ([(0, .ref a0), (1, .int 2), (2, .int (l2I ln y (l2O ln Wd y) x + 0)), (3, .int (nI y)), (4, .int (nI (x + 1)))] : List (Nat × Value)) = [(0, .ref a0), (1, .int 2), (2, .int (l2I ln y (l2O ln Wd y) (x + 1))), (3, .int (nI y)), (4, .int (nI (x + 1)))] := (congrArg (List.cons _) (congrArg (List.cons _) (congr (congrArg List.cons (congrArg (fun z => (((2 : Nat), Value.int z) : Nat × Value)) eq_76)) (congrArg (List.cons _) (congrArg (List.cons _) rfl)))))
            rw [eL] at hl
            exact ih_79 (x + 1) (by omega)  _ _ _ hP hD hS hl
          · refine lv_iconst (v := 1) hx hb dX5_count_109 (by decide) ?_
            refine lv_goto (tgt := 148) hx hb dX5_count_110 (by decide) ?_
            refine lv_iadd hx hb dX5_count_148 ?_
            refine lv_istore_n (lv' := [(2, .int (l2I ln y (l2O ln Wd y) x + 1)), (0, .ref a0), (1, .int 2), (3, .int (nI y)), (4, .int (nI x))]) hx hb dX5_count_149 rfl hl (by decide) rfl (fun ls hl => ?_)
            refine lv_iinc (v := nI (x + 1)) (lv' := [(4, .int (nI (x + 1))), (2, .int (l2I ln y (l2O ln Wd y) x + 1)), (0, .ref a0), (1, .int 2), (3, .int (nI y))]) hx hb dX5_count_150 hl (k := 4) rfl (nI_1 _) (by decide) rfl (fun ls hl => ?_)
            refine lv_goto (tgt := 79) hx hb dX5_count_153 (by decide) ?_
            have eq_87 : (l2I ln y (l2O ln Wd y) x + 1 : Int32) = l2I ln y (l2O ln Wd y) (x + 1) := l2I_b c_106
            have hl := lv_sub (l' := [(0, .ref a0), (1, .int 2), (2, .int (l2I ln y (l2O ln Wd y) x + 1)), (3, .int (nI y)), (4, .int (nI (x + 1)))]) hl [2, 3, 1, 4, 0] rfl
            have eL : ([(0, .ref a0), (1, .int 2), (2, .int (l2I ln y (l2O ln Wd y) x + 1)), (3, .int (nI y)), (4, .int (nI (x + 1)))] : List (Nat × Value)) = [(0, .ref a0), (1, .int 2), (2, .int (l2I ln y (l2O ln Wd y) (x + 1))), (3, .int (nI y)), (4, .int (nI (x + 1)))] := (congrArg (List.cons _) (congrArg (List.cons _) (congr (congrArg List.cons (congrArg (fun z => (((2 : Nat), Value.int z) : Nat × Value)) eq_87)) (congrArg (List.cons _) (congrArg (List.cons _) rfl)))))
            rw [eL] at hl
            exact ih_79 (x + 1) (by omega)  _ _ _ hP hD hS hl
      have eq_92 : (l2O ln Wd y : Int32) = l2I ln y (l2O ln Wd y) 0 := rfl
      have eq_93 : (0 : Int32) = nI 0 := rfl
      have hl := lv_sub (l' := [(0, .ref a0), (1, .int 2), (2, .int (l2O ln Wd y)), (3, .int (nI y)), (4, .int 0)]) hl [1, 2, 3, 4, 0] rfl
      have eL : ([(0, .ref a0), (1, .int 2), (2, .int (l2O ln Wd y)), (3, .int (nI y)), (4, .int 0)] : List (Nat × Value)) = [(0, .ref a0), (1, .int 2), (2, .int (l2I ln y (l2O ln Wd y) 0)), (3, .int (nI y)), (4, .int (nI 0))] := (congrArg (List.cons _) (congrArg (List.cons _) (congr (congrArg List.cons (congrArg (fun z => (((2 : Nat), Value.int z) : Nat × Value)) eq_92)) (congrArg (List.cons _) (congr (congrArg List.cons (congrArg (fun z => (((4 : Nat), Value.int z) : Nat × Value)) eq_93)) rfl)))))
      rw [eL] at hl
      exact L79 _ 0 (Nat.zero_add _)  _ _ _ hP hD hS hl
  have eq_98 : (0 : Int32) = l2O ln Wd 0 := rfl
  have eq_99 : (0 : Int32) = nI 0 := rfl
  have hl := lv_sub (l' := [(0, .ref a0), (1, .int 2), (2, .int 0), (3, .int 0)]) hl [2, 3, 1, 0] rfl
  have eL : ([(0, .ref a0), (1, .int 2), (2, .int 0), (3, .int 0)] : List (Nat × Value)) = [(0, .ref a0), (1, .int 2), (2, .int (l2O ln Wd 0)), (3, .int (nI 0))] := (congrArg (List.cons _) (congrArg (List.cons _) (congr (congrArg List.cons (congrArg (fun z => (((2 : Nat), Value.int z) : Nat × Value)) eq_98)) (congr (congrArg List.cons (congrArg (fun z => (((3 : Nat), Value.int z) : Nat × Value)) eq_99)) rfl))))
  rw [eL] at hl
  exact L68 _ 0 (Nat.zero_add _)  _ _ _ hP hD hS hl

abbrev rm_X5_count_3 : Room := { frames := 0, cells := 0, slots := 0, locals := 0 }
theorem in_X5_count_3_X5 : ∀ w ∈ u_ws RX5 TX5 19, w ∈ wsX5_count := by decide +kernel
set_option maxHeartbeats 4000000 in
set_option maxRecDepth 100000 in
theorem ct_X5_count_3 (l : Launch) (D : va_G) (cyI cyZ : ClassId) (a0 a1 a2 a3 a4 a5 a6 a7 : Nat) (sz : Nat) (th : Int32) (Wd Hh nn : Nat) (na nb rk pr bk lo : Int32) (bt bb : Int64) (g ln : Nat → Int32) (hw1 : 1 ≤ Wd) (hw2 : Wd ≤ 24) (hh1 : 1 ≤ Hh) (hh2 : Hh ≤ 24) : Met l yX5_count wsX5_count rm_X5_count_3 (xk_Pc D cyI cyZ [.ref a0, .int 3] [(a0, .inr (5, [.int th, .int (nI Wd), .int (nI Hh), .int (nI nn), .int na, .int nb, .int rk, .int pr, .int bk, .ref a1, .ref a2, .ref a3, .ref a4, .ref a5, .ref a6, .ref a7, .int lo, .long bt, .long bb])), (a1, .inl (cyI, 576, .inl g)), (a4, .inl (cyZ, 576, .inl ln))] sz) (xk_Qi D (va_A [(a0, .inr (5, [.int th, .int (nI Wd), .int (nI Hh), .int (nI nn), .int na, .int nb, .int rk, .int pr, .int bk, .ref a1, .ref a2, .ref a3, .ref a4, .ref a5, .ref a6, .ref a7, .int lo, .long bt, .long bb])), (a1, .inl (cyI, 576, .inl g)), (a4, .inl (cyZ, 576, .inl ln))] sz) (l3O g ln Wd Hh) [(a0, .inr (5, [.int 0, .int (nI Wd), .int (nI Hh), .int (nI nn), .int na, .int nb, .int rk, .int pr, .int bk, .ref a1, .ref a2, .ref a3, .ref a4, .ref a5, .ref a6, .ref a7, .int lo, .long bt, .long bb])), (a1, .inl (cyI, 576, .inl g)), (a4, .inl (cyZ, 576, .inl ln))]) 0 0 (va_A [(a0, .inr (5, [.int th, .int (nI Wd), .int (nI Hh), .int (nI nn), .int na, .int nb, .int rk, .int pr, .int bk, .ref a1, .ref a2, .ref a3, .ref a4, .ref a5, .ref a6, .ref a7, .int lo, .long bt, .long bb])), (a1, .inl (cyI, 576, .inl g)), (a4, .inl (cyZ, 576, .inl ln))] sz) := by
  refine xk_of (own := RX5) (cc := cX5_count) (maxL := 5) (ret := (some .int)) (Qc := fun A => xk_Qi D A (l3O g ln Wd Hh) [(a0, .inr (5, [.int 0, .int (nI Wd), .int (nI Hh), .int (nI nn), .int na, .int nb, .int rk, .int pr, .int bk, .ref a1, .ref a2, .ref a3, .ref a4, .ref a5, .ref a6, .ref a7, .int lo, .long bt, .long bb])), (a1, .inl (cyI, 576, .inl g)), (a4, .inl (cyZ, 576, .inl ln))]) (by decide) rfl rfl (Nat.le_of_ble_eq_true rfl) ?_
  intro p e s m below meth c A ls hx hb hr hml hown hlocks hin hts hA hP hK hN hD hS hl
  have hC0 := xk_fix hx hb hml hown hts
  have hl : lv_has ls 5 [(0, .ref a0), (1, .int 3)] := hl
  have hf7 := hts (.fieldLink RX5 7 "DotPressModel" "wide" "I") (by decide +kernel)
  have hf13 := hts (.fieldLink RX5 13 "DotPressModel" "high" "I") (by decide +kernel)
  have hf28 := hts (.fieldLink RX5 28 "DotPressModel" "shade" "[I") (by decide +kernel)
  have hf38 := hts (.fieldLink RX5 38 "DotPressModel" "isLine" "[Z") (by decide +kernel)
  have hf51 := hts (.fieldLink RX5 51 "DotPressModel" "thrown" "I") (by decide +kernel)
  refine lv_aload_n hx hb dX5_count_0 rfl (lv_at hl 0 rfl) ?_
  refine lv_iconst (v := 0) hx hb dX5_count_1 (by decide) ?_
  refine va_put (D := D) (ci := 5) (v := .int 0) (ty := .int) (C := RX5) (T := TX5) (N := 19) hx hb hts in_X5_count_3_X5 tyX5 tyX5_ok nmX5 hown hK hP hD hS 0 rfl rfl 0 (by decide) hf51 (fun _ h9 => h9) rfl (by decide +kernel) (rfl) (rfl) (Nat.le_of_ble_eq_true rfl) dX5_count_2 (fun H locs hP hD hS => ?_)
  have hP : va_P D vwCl [(a0, .inr (5, [.int 0, .int (nI Wd), .int (nI Hh), .int (nI nn), .int na, .int nb, .int rk, .int pr, .int bk, .ref a1, .ref a2, .ref a3, .ref a4, .ref a5, .ref a6, .ref a7, .int lo, .long bt, .long bb])), (a1, .inl (cyI, 576, .inl g)), (a4, .inl (cyZ, 576, .inl ln))] H := hP
  have hD : va_D A [(a0, .inr (5, [.int 0, .int (nI Wd), .int (nI Hh), .int (nI nn), .int na, .int nb, .int rk, .int pr, .int bk, .ref a1, .ref a2, .ref a3, .ref a4, .ref a5, .ref a6, .ref a7, .int lo, .long bt, .long bb])), (a1, .inl (cyI, 576, .inl g)), (a4, .inl (cyZ, 576, .inl ln))] := hD
  refine lv_iconst (v := 0) hx hb dX5_count_5 (by decide) ?_
  refine lv_istore_n (lv' := [(2, .int 0), (0, .ref a0), (1, .int 3)]) hx hb dX5_count_6 rfl hl (by decide) rfl (fun ls hl => ?_)
  refine lv_iload_n hx hb dX5_count_7 rfl (lv_at hl 2 rfl) ?_
  refine lv_tableIn (off := 58) (tgt := 66) hx hb dX5_count_8 (by decide) (by decide) (by decide) (by decide) ?_
  refine lv_iconst (v := 0) hx hb dX5_count_66 (by decide) ?_
  refine lv_istore_n (lv' := [(3, .int 0), (2, .int 0), (0, .ref a0), (1, .int 3)]) hx hb dX5_count_67 rfl hl (by decide) rfl (fun ls hl => ?_)
  have L68 : ∀ (n y : Nat), y + n = Hh → ∀ (H : Heap) (locs : List Loc) (ls : Array Slot), va_P D vwCl [(a0, .inr (5, [.int 0, .int (nI Wd), .int (nI Hh), .int (nI nn), .int na, .int nb, .int rk, .int pr, .int bk, .ref a1, .ref a2, .ref a3, .ref a4, .ref a5, .ref a6, .ref a7, .int lo, .long bt, .long bb])), (a1, .inl (cyI, 576, .inl g)), (a4, .inl (cyZ, 576, .inl ln))] H → va_D A [(a0, .inr (5, [.int 0, .int (nI Wd), .int (nI Hh), .int (nI nn), .int na, .int nb, .int rk, .int pr, .int bk, .ref a1, .ref a2, .ref a3, .ref a4, .ref a5, .ref a6, .ref a7, .int lo, .long bt, .long bb])), (a1, .inl (cyI, 576, .inl g)), (a4, .inl (cyZ, 576, .inl ln))] → va_S A s.heap H locs → lv_has ls 5 [(0, .ref a0), (1, .int 3), (2, .int (l3O g ln Wd y)), (3, .int (nI y))] → W p l e rm_X5_count_3 s m ([.ref a0, .int 3] : List Value).toArray below meth c H locs 0 0 (MQ below (xk_Qi D A (l3O g ln Wd Hh) [(a0, .inr (5, [.int 0, .int (nI Wd), .int (nI Hh), .int (nI nn), .int na, .int nb, .int rk, .int pr, .int bk, .ref a1, .ref a2, .ref a3, .ref a4, .ref a5, .ref a6, .ref a7, .int lo, .long bt, .long bb])), (a1, .inl (cyI, 576, .inl g)), (a4, .inl (cyZ, 576, .inl ln))]) ([.ref a0, .int 3] : List Value).toArray s 0 0 A) (F0 m 68 ls []) := by
    intro n
    induction n with
    | zero =>
      intro y hk_68  H locs ls hP hD hS hl
      have hz_68 : Hh = y := hk_68.symm
      subst hz_68
      refine lv_iload_n hx hb dX5_count_68 rfl (lv_at hl 3 rfl) ?_
      refine lv_aload_n hx hb dX5_count_69 rfl (lv_at hl 0 rfl) ?_
      refine va_get (D := D) (ci := 5) (v := .int (nI Hh)) (C := RX5) (T := TX5) (N := 19) hx hb hts in_X5_count_3_X5 hown hK hP 0 rfl rfl 2 (by decide) hf13 (fun _ h9 => h9) rfl dX5_count_70 ?_
      refine lv_icmp_ge (tgt := 162) hx hb dX5_count_73 (by decide) (fun c_73 => ?_) (fun c_73 => xk_ba c_73 (nI_le (Nat.le_refl _) (by omega)))
      refine lv_iload_n hx hb dX5_count_162 rfl (lv_at hl 2 rfl) ?_
      exact xk_iret hx hb hr hlocks hP hD hS (rfl) (rfl) dX5_count_163
    | succ n ih_68 =>
      intro y hk_68  H locs ls hP hD hS hl
      refine lv_iload_n hx hb dX5_count_68 rfl (lv_at hl 3 rfl) ?_
      refine lv_aload_n hx hb dX5_count_69 rfl (lv_at hl 0 rfl) ?_
      refine va_get (D := D) (ci := 5) (v := .int (nI Hh)) (C := RX5) (T := TX5) (N := 19) hx hb hts in_X5_count_3_X5 hown hK hP 0 rfl rfl 2 (by decide) hf13 (fun _ h9 => h9) rfl dX5_count_70 ?_
      refine lv_icmp_ge (tgt := 162) hx hb dX5_count_73 (by decide) (fun c_73 => xk_ab c_73 (nI_ge (by omega) (by omega))) (fun c_73 => ?_)
      refine lv_iconst (v := 0) hx hb dX5_count_76 (by decide) ?_
      refine lv_istore (lv' := [(4, .int 0), (0, .ref a0), (1, .int 3), (2, .int (l3O g ln Wd y)), (3, .int (nI y))]) hx hb dX5_count_77 hl (by decide) rfl (fun ls hl => ?_)
      have L79 : ∀ (n x : Nat), x + n = Wd → ∀ (H : Heap) (locs : List Loc) (ls : Array Slot), va_P D vwCl [(a0, .inr (5, [.int 0, .int (nI Wd), .int (nI Hh), .int (nI nn), .int na, .int nb, .int rk, .int pr, .int bk, .ref a1, .ref a2, .ref a3, .ref a4, .ref a5, .ref a6, .ref a7, .int lo, .long bt, .long bb])), (a1, .inl (cyI, 576, .inl g)), (a4, .inl (cyZ, 576, .inl ln))] H → va_D A [(a0, .inr (5, [.int 0, .int (nI Wd), .int (nI Hh), .int (nI nn), .int na, .int nb, .int rk, .int pr, .int bk, .ref a1, .ref a2, .ref a3, .ref a4, .ref a5, .ref a6, .ref a7, .int lo, .long bt, .long bb])), (a1, .inl (cyI, 576, .inl g)), (a4, .inl (cyZ, 576, .inl ln))] → va_S A s.heap H locs → lv_has ls 5 [(0, .ref a0), (1, .int 3), (2, .int (l3I g ln y (l3O g ln Wd y) x)), (3, .int (nI y)), (4, .int (nI x))] → W p l e rm_X5_count_3 s m ([.ref a0, .int 3] : List Value).toArray below meth c H locs 0 0 (MQ below (xk_Qi D A (l3O g ln Wd Hh) [(a0, .inr (5, [.int 0, .int (nI Wd), .int (nI Hh), .int (nI nn), .int na, .int nb, .int rk, .int pr, .int bk, .ref a1, .ref a2, .ref a3, .ref a4, .ref a5, .ref a6, .ref a7, .int lo, .long bt, .long bb])), (a1, .inl (cyI, 576, .inl g)), (a4, .inl (cyZ, 576, .inl ln))]) ([.ref a0, .int 3] : List Value).toArray s 0 0 A) (F0 m 79 ls []) := by
        intro n
        induction n with
        | zero =>
          intro x hk_79  H locs ls hP hD hS hl
          have hz_79 : Wd = x := hk_79.symm
          subst hz_79
          refine lv_iload hx hb dX5_count_79 (lv_at hl 4 rfl) ?_
          refine lv_aload_n hx hb dX5_count_81 rfl (lv_at hl 0 rfl) ?_
          refine va_get (D := D) (ci := 5) (v := .int (nI Wd)) (C := RX5) (T := TX5) (N := 19) hx hb hts in_X5_count_3_X5 hown hK hP 0 rfl rfl 1 (by decide) hf7 (fun _ h9 => h9) rfl dX5_count_82 ?_
          refine lv_icmp_ge (tgt := 156) hx hb dX5_count_85 (by decide) (fun c_85 => ?_) (fun c_85 => xk_ba c_85 (nI_le (Nat.le_refl _) (by omega)))
          refine lv_iinc (v := nI (y + 1)) (lv' := [(3, .int (nI (y + 1))), (0, .ref a0), (1, .int 3), (2, .int (l3I g ln y (l3O g ln Wd y) Wd)), (4, .int (nI Wd))]) hx hb dX5_count_156 hl (k := 3) rfl (nI_1 _) (by decide) rfl (fun ls hl => ?_)
          refine lv_goto (tgt := 68) hx hb dX5_count_159 (by decide) ?_
          have eq_45 : (l3I g ln y (l3O g ln Wd y) Wd : Int32) = l3O g ln Wd (y + 1) := rfl
          have hl := lv_sub (l' := [(0, .ref a0), (1, .int 3), (2, .int (l3I g ln y (l3O g ln Wd y) Wd)), (3, .int (nI (y + 1)))]) hl [1, 2, 3, 0] rfl
          have eL : ([(0, .ref a0), (1, .int 3), (2, .int (l3I g ln y (l3O g ln Wd y) Wd)), (3, .int (nI (y + 1)))] : List (Nat × Value)) = [(0, .ref a0), (1, .int 3), (2, .int (l3O g ln Wd (y + 1))), (3, .int (nI (y + 1)))] := (congrArg (List.cons _) (congrArg (List.cons _) (congr (congrArg List.cons (congrArg (fun z => (((2 : Nat), Value.int z) : Nat × Value)) eq_45)) (congrArg (List.cons _) rfl))))
          rw [eL] at hl
          exact ih_68 (y + 1) (by omega)  _ _ _ hP hD hS hl
        | succ n ih_79 =>
          intro x hk_79  H locs ls hP hD hS hl
          refine lv_iload hx hb dX5_count_79 (lv_at hl 4 rfl) ?_
          refine lv_aload_n hx hb dX5_count_81 rfl (lv_at hl 0 rfl) ?_
          refine va_get (D := D) (ci := 5) (v := .int (nI Wd)) (C := RX5) (T := TX5) (N := 19) hx hb hts in_X5_count_3_X5 hown hK hP 0 rfl rfl 1 (by decide) hf7 (fun _ h9 => h9) rfl dX5_count_82 ?_
          refine lv_icmp_ge (tgt := 156) hx hb dX5_count_85 (by decide) (fun c_85 => xk_ab c_85 (nI_ge (by omega) (by omega))) (fun c_85 => ?_)
          refine lv_iload_n hx hb dX5_count_88 rfl (lv_at hl 2 rfl) ?_
          refine lv_iload_n hx hb dX5_count_89 rfl (lv_at hl 1 rfl) ?_
          refine lv_iconst (v := 2) hx hb dX5_count_90 (by decide) ?_
          refine lv_icmp_ne (tgt := 117) hx hb dX5_count_91 (by decide) (fun c_91 => ?_) (fun c_91 => xk_ab c_91 ((by decide : ¬ (3 : Int32) = 2)))
          refine lv_aload_n hx hb dX5_count_117 rfl (lv_at hl 0 rfl) ?_
          refine va_get (D := D) (ci := 5) (v := .ref a4) (C := RX5) (T := TX5) (N := 19) hx hb hts in_X5_count_3_X5 hown hK hP 0 rfl rfl 12 (by decide) hf38 (fun _ h9 => h9) rfl dX5_count_118 ?_
          refine lv_bipush (v := 24) hx hb dX5_count_121 (by decide) ?_
          refine lv_iload_n hx hb dX5_count_123 rfl (lv_at hl 3 rfl) ?_
          refine lv_imul hx hb dX5_count_124 ?_
          refine lv_iload hx hb dX5_count_125 (lv_at hl 4 rfl) ?_
          refine lv_iadd hx hb dX5_count_127 ?_
          refine xk_topi (y := nI (y * 24 + x)) (md_spot _ _) ?_
          refine xk_zald hx hb hK hP 2 rfl (y * 24 + x) (rfl) (by omega) (by decide) dX5_count_128 ?_
          refine lv_if_eq (tgt := 136) hx hb dX5_count_129 (by decide) (fun c_129 => ?_) (fun c_129 => ?_)
          · refine lv_aload_n hx hb dX5_count_136 rfl (lv_at hl 0 rfl) ?_
            refine va_get (D := D) (ci := 5) (v := .ref a1) (C := RX5) (T := TX5) (N := 19) hx hb hts in_X5_count_3_X5 hown hK hP 0 rfl rfl 9 (by decide) hf28 (fun _ h9 => h9) rfl dX5_count_137 ?_
            refine lv_bipush (v := 24) hx hb dX5_count_140 (by decide) ?_
            refine lv_iload_n hx hb dX5_count_142 rfl (lv_at hl 3 rfl) ?_
            refine lv_imul hx hb dX5_count_143 ?_
            refine lv_iload hx hb dX5_count_144 (lv_at hl 4 rfl) ?_
            refine lv_iadd hx hb dX5_count_146 ?_
            refine xk_topi (y := nI (y * 24 + x)) (md_spot _ _) ?_
            refine xk_iald hx hb hK hP 1 rfl (y * 24 + x) (rfl) (by omega) (by decide) dX5_count_147 ?_
            refine lv_iadd hx hb dX5_count_148 ?_
            refine lv_istore_n (lv' := [(2, .int (l3I g ln y (l3O g ln Wd y) x + (g (y * 24 + x)))), (0, .ref a0), (1, .int 3), (3, .int (nI y)), (4, .int (nI x))]) hx hb dX5_count_149 rfl hl (by decide) rfl (fun ls hl => ?_)
            refine lv_iinc (v := nI (x + 1)) (lv' := [(4, .int (nI (x + 1))), (2, .int (l3I g ln y (l3O g ln Wd y) x + (g (y * 24 + x)))), (0, .ref a0), (1, .int 3), (3, .int (nI y))]) hx hb dX5_count_150 hl (k := 4) rfl (nI_1 _) (by decide) rfl (fun ls hl => ?_)
            refine lv_goto (tgt := 79) hx hb dX5_count_153 (by decide) ?_
            have eq_83 : (l3I g ln y (l3O g ln Wd y) x + (g (y * 24 + x)) : Int32) = l3I g ln y (l3O g ln Wd y) (x + 1) := l3I_a c_129
            have hl := lv_sub (l' := [(0, .ref a0), (1, .int 3), (2, .int (l3I g ln y (l3O g ln Wd y) x + (g (y * 24 + x)))), (3, .int (nI y)), (4, .int (nI (x + 1)))]) hl [2, 3, 1, 4, 0] rfl
            have eL : ([(0, .ref a0), (1, .int 3), (2, .int (l3I g ln y (l3O g ln Wd y) x + (g (y * 24 + x)))), (3, .int (nI y)), (4, .int (nI (x + 1)))] : List (Nat × Value)) = [(0, .ref a0), (1, .int 3), (2, .int (l3I g ln y (l3O g ln Wd y) (x + 1))), (3, .int (nI y)), (4, .int (nI (x + 1)))] := (congrArg (List.cons _) (congrArg (List.cons _) (congr (congrArg List.cons (congrArg (fun z => (((2 : Nat), Value.int z) : Nat × Value)) eq_83)) (congrArg (List.cons _) (congrArg (List.cons _) rfl)))))
            rw [eL] at hl
            exact ih_79 (x + 1) (by omega)  _ _ _ hP hD hS hl
          · refine lv_iconst (v := 0) hx hb dX5_count_132 (by decide) ?_
            refine lv_goto (tgt := 148) hx hb dX5_count_133 (by decide) ?_
            refine lv_iadd hx hb dX5_count_148 ?_
            refine lv_istore_n (lv' := [(2, .int (l3I g ln y (l3O g ln Wd y) x + 0)), (0, .ref a0), (1, .int 3), (3, .int (nI y)), (4, .int (nI x))]) hx hb dX5_count_149 rfl hl (by decide) rfl (fun ls hl => ?_)
            refine lv_iinc (v := nI (x + 1)) (lv' := [(4, .int (nI (x + 1))), (2, .int (l3I g ln y (l3O g ln Wd y) x + 0)), (0, .ref a0), (1, .int 3), (3, .int (nI y))]) hx hb dX5_count_150 hl (k := 4) rfl (nI_1 _) (by decide) rfl (fun ls hl => ?_)
            refine lv_goto (tgt := 79) hx hb dX5_count_153 (by decide) ?_
            have eq_94 : (l3I g ln y (l3O g ln Wd y) x + 0 : Int32) = l3I g ln y (l3O g ln Wd y) (x + 1) := l3I_b c_129
            have hl := lv_sub (l' := [(0, .ref a0), (1, .int 3), (2, .int (l3I g ln y (l3O g ln Wd y) x + 0)), (3, .int (nI y)), (4, .int (nI (x + 1)))]) hl [2, 3, 1, 4, 0] rfl
            have eL : ([(0, .ref a0), (1, .int 3), (2, .int (l3I g ln y (l3O g ln Wd y) x + 0)), (3, .int (nI y)), (4, .int (nI (x + 1)))] : List (Nat × Value)) = [(0, .ref a0), (1, .int 3), (2, .int (l3I g ln y (l3O g ln Wd y) (x + 1))), (3, .int (nI y)), (4, .int (nI (x + 1)))] := (congrArg (List.cons _) (congrArg (List.cons _) (congr (congrArg List.cons (congrArg (fun z => (((2 : Nat), Value.int z) : Nat × Value)) eq_94)) (congrArg (List.cons _) (congrArg (List.cons _) rfl)))))
            rw [eL] at hl
            exact ih_79 (x + 1) (by omega)  _ _ _ hP hD hS hl
      have eq_99 : (l3O g ln Wd y : Int32) = l3I g ln y (l3O g ln Wd y) 0 := rfl
      have eq_100 : (0 : Int32) = nI 0 := rfl
      have hl := lv_sub (l' := [(0, .ref a0), (1, .int 3), (2, .int (l3O g ln Wd y)), (3, .int (nI y)), (4, .int 0)]) hl [1, 2, 3, 4, 0] rfl
      have eL : ([(0, .ref a0), (1, .int 3), (2, .int (l3O g ln Wd y)), (3, .int (nI y)), (4, .int 0)] : List (Nat × Value)) = [(0, .ref a0), (1, .int 3), (2, .int (l3I g ln y (l3O g ln Wd y) 0)), (3, .int (nI y)), (4, .int (nI 0))] := (congrArg (List.cons _) (congrArg (List.cons _) (congr (congrArg List.cons (congrArg (fun z => (((2 : Nat), Value.int z) : Nat × Value)) eq_99)) (congrArg (List.cons _) (congr (congrArg List.cons (congrArg (fun z => (((4 : Nat), Value.int z) : Nat × Value)) eq_100)) rfl)))))
      rw [eL] at hl
      exact L79 _ 0 (Nat.zero_add _)  _ _ _ hP hD hS hl
  have eq_105 : (0 : Int32) = l3O g ln Wd 0 := rfl
  have eq_106 : (0 : Int32) = nI 0 := rfl
  have hl := lv_sub (l' := [(0, .ref a0), (1, .int 3), (2, .int 0), (3, .int 0)]) hl [2, 3, 1, 0] rfl
  have eL : ([(0, .ref a0), (1, .int 3), (2, .int 0), (3, .int 0)] : List (Nat × Value)) = [(0, .ref a0), (1, .int 3), (2, .int (l3O g ln Wd 0)), (3, .int (nI 0))] := (congrArg (List.cons _) (congrArg (List.cons _) (congr (congrArg List.cons (congrArg (fun z => (((2 : Nat), Value.int z) : Nat × Value)) eq_105)) (congr (congrArg List.cons (congrArg (fun z => (((3 : Nat), Value.int z) : Nat × Value)) eq_106)) rfl))))
  rw [eL] at hl
  exact L68 _ 0 (Nat.zero_add _)  _ _ _ hP hD hS hl

abbrev rm_X5_count_4 : Room := { frames := 0, cells := 0, slots := 0, locals := 0 }
theorem in_X5_count_4_X5 : ∀ w ∈ u_ws RX5 TX5 19, w ∈ wsX5_count := by decide +kernel
set_option maxHeartbeats 4000000 in
set_option maxRecDepth 100000 in
theorem ct_X5_count_4 (l : Launch) (D : va_G) (cyI cyZ : ClassId) (a0 a1 a2 a3 a4 a5 a6 a7 : Nat) (sz : Nat) (th : Int32) (Wd Hh nn : Nat) (na nb rk pr bk lo : Int32) (bt bb : Int64)  : Met l yX5_count wsX5_count rm_X5_count_4 (xk_Pc D cyI cyZ [.ref a0, .int 4] [(a0, .inr (5, [.int th, .int (nI Wd), .int (nI Hh), .int (nI nn), .int na, .int nb, .int rk, .int pr, .int bk, .ref a1, .ref a2, .ref a3, .ref a4, .ref a5, .ref a6, .ref a7, .int lo, .long bt, .long bb]))] sz) (xk_Qi D (va_A [(a0, .inr (5, [.int th, .int (nI Wd), .int (nI Hh), .int (nI nn), .int na, .int nb, .int rk, .int pr, .int bk, .ref a1, .ref a2, .ref a3, .ref a4, .ref a5, .ref a6, .ref a7, .int lo, .long bt, .long bb]))] sz) (nI nn) [(a0, .inr (5, [.int 0, .int (nI Wd), .int (nI Hh), .int (nI nn), .int na, .int nb, .int rk, .int pr, .int bk, .ref a1, .ref a2, .ref a3, .ref a4, .ref a5, .ref a6, .ref a7, .int lo, .long bt, .long bb]))]) 0 0 (va_A [(a0, .inr (5, [.int th, .int (nI Wd), .int (nI Hh), .int (nI nn), .int na, .int nb, .int rk, .int pr, .int bk, .ref a1, .ref a2, .ref a3, .ref a4, .ref a5, .ref a6, .ref a7, .int lo, .long bt, .long bb]))] sz) := by
  refine xk_of (own := RX5) (cc := cX5_count) (maxL := 5) (ret := (some .int)) (Qc := fun A => xk_Qi D A (nI nn) [(a0, .inr (5, [.int 0, .int (nI Wd), .int (nI Hh), .int (nI nn), .int na, .int nb, .int rk, .int pr, .int bk, .ref a1, .ref a2, .ref a3, .ref a4, .ref a5, .ref a6, .ref a7, .int lo, .long bt, .long bb]))]) (by decide) rfl rfl (Nat.le_of_ble_eq_true rfl) ?_
  intro p e s m below meth c A ls hx hb hr hml hown hlocks hin hts hA hP hK hN hD hS hl
  have hC0 := xk_fix hx hb hml hown hts
  have hl : lv_has ls 5 [(0, .ref a0), (1, .int 4)] := hl
  have hf16 := hts (.fieldLink RX5 16 "DotPressModel" "n" "I") (by decide +kernel)
  have hf51 := hts (.fieldLink RX5 51 "DotPressModel" "thrown" "I") (by decide +kernel)
  refine lv_aload_n hx hb dX5_count_0 rfl (lv_at hl 0 rfl) ?_
  refine lv_iconst (v := 0) hx hb dX5_count_1 (by decide) ?_
  refine va_put (D := D) (ci := 5) (v := .int 0) (ty := .int) (C := RX5) (T := TX5) (N := 19) hx hb hts in_X5_count_4_X5 tyX5 tyX5_ok nmX5 hown hK hP hD hS 0 rfl rfl 0 (by decide) hf51 (fun _ h9 => h9) rfl (by decide +kernel) (rfl) (rfl) (Nat.le_of_ble_eq_true rfl) dX5_count_2 (fun H locs hP hD hS => ?_)
  have hP : va_P D vwCl [(a0, .inr (5, [.int 0, .int (nI Wd), .int (nI Hh), .int (nI nn), .int na, .int nb, .int rk, .int pr, .int bk, .ref a1, .ref a2, .ref a3, .ref a4, .ref a5, .ref a6, .ref a7, .int lo, .long bt, .long bb]))] H := hP
  have hD : va_D A [(a0, .inr (5, [.int 0, .int (nI Wd), .int (nI Hh), .int (nI nn), .int na, .int nb, .int rk, .int pr, .int bk, .ref a1, .ref a2, .ref a3, .ref a4, .ref a5, .ref a6, .ref a7, .int lo, .long bt, .long bb]))] := hD
  refine lv_iconst (v := 0) hx hb dX5_count_5 (by decide) ?_
  refine lv_istore_n (lv' := [(2, .int 0), (0, .ref a0), (1, .int 4)]) hx hb dX5_count_6 rfl hl (by decide) rfl (fun ls hl => ?_)
  refine lv_iload_n hx hb dX5_count_7 rfl (lv_at hl 2 rfl) ?_
  refine lv_tableIn (off := 156) (tgt := 164) hx hb dX5_count_8 (by decide) (by decide) (by decide) (by decide) ?_
  refine lv_aload_n hx hb dX5_count_164 rfl (lv_at hl 1 rfl) ?_
  refine va_get (D := D) (ci := 5) (v := .int (nI nn)) (C := RX5) (T := TX5) (N := 19) hx hb hts in_X5_count_4_X5 hown hK hP 0 rfl rfl 3 (by decide) hf16 (fun _ h9 => h9) rfl dX5_count_165 ?_
  exact xk_iret hx hb hr hlocks hP hD hS (rfl) (rfl) dX5_count_168

abbrev rm_X5_count_5 : Room := { frames := 1, cells := 0, slots := 0, locals := 20 }
theorem in_X5_count_5_X5 : ∀ w ∈ u_ws RX5 TX5 19, w ∈ wsX5_count := by decide +kernel
set_option maxHeartbeats 4000000 in
set_option maxRecDepth 100000 in
theorem ct_X5_count_5 (l : Launch) (D : va_G) (cyI cyZ : ClassId) (a0 a1 a2 a3 a4 a5 a6 a7 : Nat) (sz : Nat) (th : Int32) (Wd Hh nn : Nat) (na nb rk pr bk lo : Int32) (bt bb : Int64) (mm : Nat) (hmq : na * na + nb * nb = nI mm) (hm1 : 1 ≤ mm) (hm2 : mm ≤ 128) : Met l yX5_count wsX5_count rm_X5_count_5 (xk_Pc D cyI cyZ [.ref a0, .int 5] [(a0, .inr (5, [.int th, .int (nI Wd), .int (nI Hh), .int (nI nn), .int na, .int nb, .int rk, .int pr, .int bk, .ref a1, .ref a2, .ref a3, .ref a4, .ref a5, .ref a6, .ref a7, .int lo, .long bt, .long bb]))] sz) (xk_Qi D (va_A [(a0, .inr (5, [.int th, .int (nI Wd), .int (nI Hh), .int (nI nn), .int na, .int nb, .int rk, .int pr, .int bk, .ref a1, .ref a2, .ref a3, .ref a4, .ref a5, .ref a6, .ref a7, .int lo, .long bt, .long bb]))] sz) (nI mm) [(a0, .inr (5, [.int 0, .int (nI Wd), .int (nI Hh), .int (nI nn), .int na, .int nb, .int rk, .int pr, .int bk, .ref a1, .ref a2, .ref a3, .ref a4, .ref a5, .ref a6, .ref a7, .int lo, .long bt, .long bb]))]) 0 0 (va_A [(a0, .inr (5, [.int th, .int (nI Wd), .int (nI Hh), .int (nI nn), .int na, .int nb, .int rk, .int pr, .int bk, .ref a1, .ref a2, .ref a3, .ref a4, .ref a5, .ref a6, .ref a7, .int lo, .long bt, .long bb]))] sz) := by
  refine xk_of (own := RX5) (cc := cX5_count) (maxL := 5) (ret := (some .int)) (Qc := fun A => xk_Qi D A (nI mm) [(a0, .inr (5, [.int 0, .int (nI Wd), .int (nI Hh), .int (nI nn), .int na, .int nb, .int rk, .int pr, .int bk, .ref a1, .ref a2, .ref a3, .ref a4, .ref a5, .ref a6, .ref a7, .int lo, .long bt, .long bb]))]) (by decide) rfl rfl (Nat.le_of_ble_eq_true rfl) ?_
  intro p e s m below meth c A ls hx hb hr hml hown hlocks hin hts hA hP hK hN hD hS hl
  have hC0 := xk_fix hx hb hml hown hts
  have hl : lv_has ls 5 [(0, .ref a0), (1, .int 5)] := hl
  have hf51 := hts (.fieldLink RX5 51 "DotPressModel" "thrown" "I") (by decide +kernel)
  refine lv_aload_n hx hb dX5_count_0 rfl (lv_at hl 0 rfl) ?_
  refine lv_iconst (v := 0) hx hb dX5_count_1 (by decide) ?_
  refine va_put (D := D) (ci := 5) (v := .int 0) (ty := .int) (C := RX5) (T := TX5) (N := 19) hx hb hts in_X5_count_5_X5 tyX5 tyX5_ok nmX5 hown hK hP hD hS 0 rfl rfl 0 (by decide) hf51 (fun _ h9 => h9) rfl (by decide +kernel) (rfl) (rfl) (Nat.le_of_ble_eq_true rfl) dX5_count_2 (fun H locs hP hD hS => ?_)
  have hP : va_P D vwCl [(a0, .inr (5, [.int 0, .int (nI Wd), .int (nI Hh), .int (nI nn), .int na, .int nb, .int rk, .int pr, .int bk, .ref a1, .ref a2, .ref a3, .ref a4, .ref a5, .ref a6, .ref a7, .int lo, .long bt, .long bb]))] H := hP
  have hD : va_D A [(a0, .inr (5, [.int 0, .int (nI Wd), .int (nI Hh), .int (nI nn), .int na, .int nb, .int rk, .int pr, .int bk, .ref a1, .ref a2, .ref a3, .ref a4, .ref a5, .ref a6, .ref a7, .int lo, .long bt, .long bb]))] := hD
  refine lv_iconst (v := 0) hx hb dX5_count_5 (by decide) ?_
  refine lv_istore_n (lv' := [(2, .int 0), (0, .ref a0), (1, .int 5)]) hx hb dX5_count_6 rfl hl (by decide) rfl (fun ls hl => ?_)
  refine lv_iload_n hx hb dX5_count_7 rfl (lv_at hl 2 rfl) ?_
  refine lv_tableIn (off := 161) (tgt := 169) hx hb dX5_count_8 (by decide) (by decide) (by decide) (by decide) ?_
  refine lv_aload_n hx hb dX5_count_169 rfl (lv_at hl 1 rfl) ?_
  have hPc := hP.sub (ws' := [(a0, .inr (5, [.int 0, .int (nI Wd), .int (nI Hh), .int (nI nn), .int na, .int nb, .int rk, .int pr, .int bk, .ref a1, .ref a2, .ref a3, .ref a4, .ref a5, .ref a6, .ref a7, .int lo, .long bt, .long bb]))]) [0] rfl
  have hDc := hD.sub (ws' := [(a0, .inr (5, [.int 0, .int (nI Wd), .int (nI Hh), .int (nI nn), .int na, .int nb, .int rk, .int pr, .int bk, .ref a1, .ref a2, .ref a3, .ref a4, .ref a5, .ref a6, .ref a7, .int lo, .long bt, .long bb]))]) [0] (by decide) rfl
  refine xk_calli (wr := []) (w2 := [(a0, .inr (5, [.int 0, .int (nI Wd), .int (nI Hh), .int (nI nn), .int na, .int nb, .int rk, .int pr, .int bk, .ref a1, .ref a2, .ref a3, .ref a4, .ref a5, .ref a6, .ref a7, .int lo, .long bt, .long bb]))]) (va_runV (As := []) (rest := []) hC0 (ct_X5_m l D cyI cyZ a0 a1 a2 a3 a4 a5 a6 a7 _ 0 Wd Hh nn na nb rk pr bk lo bt bb ) (cwV 0 hts gX5_count_X5_m rfl rfl rfl (by decide +kernel) ⟨Nat.le_of_ble_eq_true rfl, Nat.le_of_ble_eq_true rfl⟩) ⟨xk_blind, va_recv hK hPc (ci := 5) (q0 := 0) rfl rfl, xk_pre hK hN hPc hDc⟩ rfl rfl hl.1 rfl (lv_room (Nat.le_of_ble_eq_true rfl)) dX5_count_170 ⟨Nat.le_of_ble_eq_true rfl, Nat.le_of_ble_eq_true rfl⟩) hP hD hS hA [0] [] [0] rfl rfl (by decide) (by decide) rfl (by decide) (fun H locs hP hD hS => ?_)
  refine xk_topi (y := nI mm) (hmq) ?_
  exact xk_iret hx hb hr hlocks hP hD hS (rfl) (rfl) dX5_count_173

abbrev rm_X5_count_6s : Room := { frames := 3, cells := 0, slots := 0, locals := 68 }
theorem in_X5_count_6s_X5 : ∀ w ∈ u_ws RX5 TX5 19, w ∈ wsX5_count := by decide +kernel
set_option maxHeartbeats 4000000 in
set_option maxRecDepth 100000 in
theorem ct_X5_count_6s (l : Launch) (D : va_G) (cyI cyZ : ClassId) (a0 a1 a2 a3 a4 a5 a6 a7 : Nat) (sz : Nat) (th : Int32) (Wd Hh nn : Nat) (na nb rk pr bk lo : Int32) (bt bb : Int64) (tr rn : Nat → Int32) (hrk : rk = 20 * na + nb + 1000) : Met l yX5_count wsX5_count rm_X5_count_6s (xk_Pc D cyI cyZ [.ref a0, .int 6] [(a0, .inr (5, [.int th, .int (nI Wd), .int (nI Hh), .int (nI nn), .int na, .int nb, .int rk, .int pr, .int bk, .ref a1, .ref a2, .ref a3, .ref a4, .ref a5, .ref a6, .ref a7, .int lo, .long bt, .long bb])), (a6, .inl (cyZ, 16384, .inl tr)), (a7, .inl (cyI, 16384, .inl rn))] sz) (xk_Qi D (va_A [(a0, .inr (5, [.int th, .int (nI Wd), .int (nI Hh), .int (nI nn), .int na, .int nb, .int rk, .int pr, .int bk, .ref a1, .ref a2, .ref a3, .ref a4, .ref a5, .ref a6, .ref a7, .int lo, .long bt, .long bb])), (a6, .inl (cyZ, 16384, .inl tr)), (a7, .inl (cyI, 16384, .inl rn))] sz) pr [(a0, .inr (5, [.int 0, .int (nI Wd), .int (nI Hh), .int (nI nn), .int na, .int nb, .int rk, .int pr, .int bk, .ref a1, .ref a2, .ref a3, .ref a4, .ref a5, .ref a6, .ref a7, .int lo, .long bt, .long bb])), (a6, .inl (cyZ, 16384, .inl tr)), (a7, .inl (cyI, 16384, .inl rn))]) 0 0 (va_A [(a0, .inr (5, [.int th, .int (nI Wd), .int (nI Hh), .int (nI nn), .int na, .int nb, .int rk, .int pr, .int bk, .ref a1, .ref a2, .ref a3, .ref a4, .ref a5, .ref a6, .ref a7, .int lo, .long bt, .long bb])), (a6, .inl (cyZ, 16384, .inl tr)), (a7, .inl (cyI, 16384, .inl rn))] sz) := by
  refine xk_of (own := RX5) (cc := cX5_count) (maxL := 5) (ret := (some .int)) (Qc := fun A => xk_Qi D A pr [(a0, .inr (5, [.int 0, .int (nI Wd), .int (nI Hh), .int (nI nn), .int na, .int nb, .int rk, .int pr, .int bk, .ref a1, .ref a2, .ref a3, .ref a4, .ref a5, .ref a6, .ref a7, .int lo, .long bt, .long bb])), (a6, .inl (cyZ, 16384, .inl tr)), (a7, .inl (cyI, 16384, .inl rn))]) (by decide) rfl rfl (Nat.le_of_ble_eq_true rfl) ?_
  intro p e s m below meth c A ls hx hb hr hml hown hlocks hin hts hA hP hK hN hD hS hl
  have hC0 := xk_fix hx hb hml hown hts
  have hl : lv_has ls 5 [(0, .ref a0), (1, .int 6)] := hl
  have hf51 := hts (.fieldLink RX5 51 "DotPressModel" "thrown" "I") (by decide +kernel)
  have hf114 := hts (.fieldLink RX5 114 "DotPressModel" "pairs" "I") (by decide +kernel)
  refine lv_aload_n hx hb dX5_count_0 rfl (lv_at hl 0 rfl) ?_
  refine lv_iconst (v := 0) hx hb dX5_count_1 (by decide) ?_
  refine va_put (D := D) (ci := 5) (v := .int 0) (ty := .int) (C := RX5) (T := TX5) (N := 19) hx hb hts in_X5_count_6s_X5 tyX5 tyX5_ok nmX5 hown hK hP hD hS 0 rfl rfl 0 (by decide) hf51 (fun _ h9 => h9) rfl (by decide +kernel) (rfl) (rfl) (Nat.le_of_ble_eq_true rfl) dX5_count_2 (fun H locs hP hD hS => ?_)
  have hP : va_P D vwCl [(a0, .inr (5, [.int 0, .int (nI Wd), .int (nI Hh), .int (nI nn), .int na, .int nb, .int rk, .int pr, .int bk, .ref a1, .ref a2, .ref a3, .ref a4, .ref a5, .ref a6, .ref a7, .int lo, .long bt, .long bb])), (a6, .inl (cyZ, 16384, .inl tr)), (a7, .inl (cyI, 16384, .inl rn))] H := hP
  have hD : va_D A [(a0, .inr (5, [.int 0, .int (nI Wd), .int (nI Hh), .int (nI nn), .int na, .int nb, .int rk, .int pr, .int bk, .ref a1, .ref a2, .ref a3, .ref a4, .ref a5, .ref a6, .ref a7, .int lo, .long bt, .long bb])), (a6, .inl (cyZ, 16384, .inl tr)), (a7, .inl (cyI, 16384, .inl rn))] := hD
  refine lv_iconst (v := 0) hx hb dX5_count_5 (by decide) ?_
  refine lv_istore_n (lv' := [(2, .int 0), (0, .ref a0), (1, .int 6)]) hx hb dX5_count_6 rfl hl (by decide) rfl (fun ls hl => ?_)
  refine lv_iload_n hx hb dX5_count_7 rfl (lv_at hl 2 rfl) ?_
  refine lv_tableIn (off := 166) (tgt := 174) hx hb dX5_count_8 (by decide) (by decide) (by decide) (by decide) ?_
  refine lv_aload_n hx hb dX5_count_174 rfl (lv_at hl 1 rfl) ?_
  have hPc := hP.sub (ws' := [(a0, .inr (5, [.int 0, .int (nI Wd), .int (nI Hh), .int (nI nn), .int na, .int nb, .int rk, .int pr, .int bk, .ref a1, .ref a2, .ref a3, .ref a4, .ref a5, .ref a6, .ref a7, .int lo, .long bt, .long bb])), (a6, .inl (cyZ, 16384, .inl tr)), (a7, .inl (cyI, 16384, .inl rn))]) [0, 1, 2] rfl
  have hDc := hD.sub (ws' := [(a0, .inr (5, [.int 0, .int (nI Wd), .int (nI Hh), .int (nI nn), .int na, .int nb, .int rk, .int pr, .int bk, .ref a1, .ref a2, .ref a3, .ref a4, .ref a5, .ref a6, .ref a7, .int lo, .long bt, .long bb])), (a6, .inl (cyZ, 16384, .inl tr)), (a7, .inl (cyI, 16384, .inl rn))]) [0, 1, 2] (by decide) rfl
  refine xk_callv (wr := []) (w2 := [(a0, .inr (5, [.int 0, .int (nI Wd), .int (nI Hh), .int (nI nn), .int na, .int nb, .int rk, .int pr, .int bk, .ref a1, .ref a2, .ref a3, .ref a4, .ref a5, .ref a6, .ref a7, .int lo, .long bt, .long bb])), (a6, .inl (cyZ, 16384, .inl tr)), (a7, .inl (cyI, 16384, .inl rn))]) (va_runV (As := []) (rest := []) hC0 (ct_X5_rankAll_so l D cyI cyZ a0 a1 a2 a3 a4 a5 a6 a7 _ 0 Wd Hh nn na nb rk pr bk lo bt bb tr rn (by first | assumption | omega)) (cwV 0 hts gX5_count_X5_rankAll rfl rfl rfl (by decide +kernel) ⟨Nat.le_of_ble_eq_true rfl, Nat.le_of_ble_eq_true rfl⟩) ⟨xk_blind, va_recv hK hPc (ci := 5) (q0 := 0) rfl rfl, xk_pre hK hN hPc hDc⟩ rfl rfl hl.1 rfl (lv_room (Nat.le_of_ble_eq_true rfl)) dX5_count_175 ⟨Nat.le_of_ble_eq_true rfl, Nat.le_of_ble_eq_true rfl⟩) hP hD hS hA [0, 1, 2] [] [0, 1, 2] rfl rfl (by decide) (by decide) rfl (by decide) (fun H locs hP hD hS => ?_)
  refine lv_aload_n hx hb dX5_count_178 rfl (lv_at hl 1 rfl) ?_
  refine va_get (D := D) (ci := 5) (v := .int pr) (C := RX5) (T := TX5) (N := 19) hx hb hts in_X5_count_6s_X5 hown hK hP 0 rfl rfl 7 (by decide) hf114 (fun _ h9 => h9) rfl dX5_count_179 ?_
  exact xk_iret hx hb hr hlocks hP hD hS (rfl) (rfl) dX5_count_182

abbrev rm_X5_count_6d : Room := { frames := 3, cells := 0, slots := 0, locals := 68 }
theorem in_X5_count_6d_X5 : ∀ w ∈ u_ws RX5 TX5 19, w ∈ wsX5_count := by decide +kernel
set_option maxHeartbeats 4000000 in
set_option maxRecDepth 100000 in
theorem ct_X5_count_6d (l : Launch) (D : va_G) (cyI cyZ : ClassId) (a0 a1 a2 a3 a4 a5 a6 a7 : Nat) (sz : Nat) (th : Int32) (Wd Hh nn : Nat) (na nb rk pr bk lo : Int32) (bt bb : Int64) (tr rn : Nat → Int32) (mm : Nat) (hmq : na * na + nb * nb = nI mm) (hm1 : 1 ≤ mm) (hm2 : mm ≤ 128) (hrk : ¬ rk = 20 * na + nb + 1000) : Met l yX5_count wsX5_count rm_X5_count_6d (xk_Pc D cyI cyZ [.ref a0, .int 6] [(a0, .inr (5, [.int th, .int (nI Wd), .int (nI Hh), .int (nI nn), .int na, .int nb, .int rk, .int pr, .int bk, .ref a1, .ref a2, .ref a3, .ref a4, .ref a5, .ref a6, .ref a7, .int lo, .long bt, .long bb])), (a6, .inl (cyZ, 16384, .inl tr)), (a7, .inl (cyI, 16384, .inl rn))] sz) (xk_Qi D (va_A [(a0, .inr (5, [.int th, .int (nI Wd), .int (nI Hh), .int (nI nn), .int na, .int nb, .int rk, .int pr, .int bk, .ref a1, .ref a2, .ref a3, .ref a4, .ref a5, .ref a6, .ref a7, .int lo, .long bt, .long bb])), (a6, .inl (cyZ, 16384, .inl tr)), (a7, .inl (cyI, 16384, .inl rn))] sz) (cL (thF na nb mm tr) (mm * mm)) [(a0, .inr (5, [.int 0, .int (nI Wd), .int (nI Hh), .int (nI nn), .int na, .int nb, .int (20 * na + nb + 1000), .int (cL (thF na nb mm tr) (mm * mm)), .int bk, .ref a1, .ref a2, .ref a3, .ref a4, .ref a5, .ref a6, .ref a7, .int lo, .long bt, .long bb])), (a6, .inl (cyZ, 16384, .inl (thF na nb mm tr))), (a7, .inl (cyI, 16384, .inl (rnO mm (thF na nb mm tr) rn (mm * mm))))]) 0 0 (va_A [(a0, .inr (5, [.int th, .int (nI Wd), .int (nI Hh), .int (nI nn), .int na, .int nb, .int rk, .int pr, .int bk, .ref a1, .ref a2, .ref a3, .ref a4, .ref a5, .ref a6, .ref a7, .int lo, .long bt, .long bb])), (a6, .inl (cyZ, 16384, .inl tr)), (a7, .inl (cyI, 16384, .inl rn))] sz) := by
  refine xk_of (own := RX5) (cc := cX5_count) (maxL := 5) (ret := (some .int)) (Qc := fun A => xk_Qi D A (cL (thF na nb mm tr) (mm * mm)) [(a0, .inr (5, [.int 0, .int (nI Wd), .int (nI Hh), .int (nI nn), .int na, .int nb, .int (20 * na + nb + 1000), .int (cL (thF na nb mm tr) (mm * mm)), .int bk, .ref a1, .ref a2, .ref a3, .ref a4, .ref a5, .ref a6, .ref a7, .int lo, .long bt, .long bb])), (a6, .inl (cyZ, 16384, .inl (thF na nb mm tr))), (a7, .inl (cyI, 16384, .inl (rnO mm (thF na nb mm tr) rn (mm * mm))))]) (by decide) rfl rfl (Nat.le_of_ble_eq_true rfl) ?_
  intro p e s m below meth c A ls hx hb hr hml hown hlocks hin hts hA hP hK hN hD hS hl
  have hC0 := xk_fix hx hb hml hown hts
  have hl : lv_has ls 5 [(0, .ref a0), (1, .int 6)] := hl
  have hf51 := hts (.fieldLink RX5 51 "DotPressModel" "thrown" "I") (by decide +kernel)
  have hf114 := hts (.fieldLink RX5 114 "DotPressModel" "pairs" "I") (by decide +kernel)
  refine lv_aload_n hx hb dX5_count_0 rfl (lv_at hl 0 rfl) ?_
  refine lv_iconst (v := 0) hx hb dX5_count_1 (by decide) ?_
  refine va_put (D := D) (ci := 5) (v := .int 0) (ty := .int) (C := RX5) (T := TX5) (N := 19) hx hb hts in_X5_count_6d_X5 tyX5 tyX5_ok nmX5 hown hK hP hD hS 0 rfl rfl 0 (by decide) hf51 (fun _ h9 => h9) rfl (by decide +kernel) (rfl) (rfl) (Nat.le_of_ble_eq_true rfl) dX5_count_2 (fun H locs hP hD hS => ?_)
  have hP : va_P D vwCl [(a0, .inr (5, [.int 0, .int (nI Wd), .int (nI Hh), .int (nI nn), .int na, .int nb, .int rk, .int pr, .int bk, .ref a1, .ref a2, .ref a3, .ref a4, .ref a5, .ref a6, .ref a7, .int lo, .long bt, .long bb])), (a6, .inl (cyZ, 16384, .inl tr)), (a7, .inl (cyI, 16384, .inl rn))] H := hP
  have hD : va_D A [(a0, .inr (5, [.int 0, .int (nI Wd), .int (nI Hh), .int (nI nn), .int na, .int nb, .int rk, .int pr, .int bk, .ref a1, .ref a2, .ref a3, .ref a4, .ref a5, .ref a6, .ref a7, .int lo, .long bt, .long bb])), (a6, .inl (cyZ, 16384, .inl tr)), (a7, .inl (cyI, 16384, .inl rn))] := hD
  refine lv_iconst (v := 0) hx hb dX5_count_5 (by decide) ?_
  refine lv_istore_n (lv' := [(2, .int 0), (0, .ref a0), (1, .int 6)]) hx hb dX5_count_6 rfl hl (by decide) rfl (fun ls hl => ?_)
  refine lv_iload_n hx hb dX5_count_7 rfl (lv_at hl 2 rfl) ?_
  refine lv_tableIn (off := 166) (tgt := 174) hx hb dX5_count_8 (by decide) (by decide) (by decide) (by decide) ?_
  refine lv_aload_n hx hb dX5_count_174 rfl (lv_at hl 1 rfl) ?_
  have hPc := hP.sub (ws' := [(a0, .inr (5, [.int 0, .int (nI Wd), .int (nI Hh), .int (nI nn), .int na, .int nb, .int rk, .int pr, .int bk, .ref a1, .ref a2, .ref a3, .ref a4, .ref a5, .ref a6, .ref a7, .int lo, .long bt, .long bb])), (a6, .inl (cyZ, 16384, .inl tr)), (a7, .inl (cyI, 16384, .inl rn))]) [0, 1, 2] rfl
  have hDc := hD.sub (ws' := [(a0, .inr (5, [.int 0, .int (nI Wd), .int (nI Hh), .int (nI nn), .int na, .int nb, .int rk, .int pr, .int bk, .ref a1, .ref a2, .ref a3, .ref a4, .ref a5, .ref a6, .ref a7, .int lo, .long bt, .long bb])), (a6, .inl (cyZ, 16384, .inl tr)), (a7, .inl (cyI, 16384, .inl rn))]) [0, 1, 2] (by decide) rfl
  refine xk_callv (wr := []) (w2 := [(a0, .inr (5, [.int 0, .int (nI Wd), .int (nI Hh), .int (nI nn), .int na, .int nb, .int (20 * na + nb + 1000), .int (cL (thF na nb mm tr) (mm * mm)), .int bk, .ref a1, .ref a2, .ref a3, .ref a4, .ref a5, .ref a6, .ref a7, .int lo, .long bt, .long bb])), (a6, .inl (cyZ, 16384, .inl (thF na nb mm tr))), (a7, .inl (cyI, 16384, .inl (rnO mm (thF na nb mm tr) rn (mm * mm))))]) (va_runV (As := []) (rest := []) hC0 (ct_X5_rankAll_do l D cyI cyZ a0 a1 a2 a3 a4 a5 a6 a7 _ 0 Wd Hh nn na nb rk pr bk lo bt bb tr rn mm (by first | assumption | omega) (by first | assumption | omega) (by first | assumption | omega) (by first | assumption | omega)) (cwV 0 hts gX5_count_X5_rankAll rfl rfl rfl (by decide +kernel) ⟨Nat.le_of_ble_eq_true rfl, Nat.le_of_ble_eq_true rfl⟩) ⟨xk_blind, va_recv hK hPc (ci := 5) (q0 := 0) rfl rfl, xk_pre hK hN hPc hDc⟩ rfl rfl hl.1 rfl (lv_room (Nat.le_of_ble_eq_true rfl)) dX5_count_175 ⟨Nat.le_of_ble_eq_true rfl, Nat.le_of_ble_eq_true rfl⟩) hP hD hS hA [0, 1, 2] [] [0, 1, 2] rfl rfl (by decide) (by decide) rfl (by decide) (fun H locs hP hD hS => ?_)
  refine lv_aload_n hx hb dX5_count_178 rfl (lv_at hl 1 rfl) ?_
  refine va_get (D := D) (ci := 5) (v := .int (cL (thF na nb mm tr) (mm * mm))) (C := RX5) (T := TX5) (N := 19) hx hb hts in_X5_count_6d_X5 hown hK hP 0 rfl rfl 7 (by decide) hf114 (fun _ h9 => h9) rfl dX5_count_179 ?_
  exact xk_iret hx hb hr hlocks hP hD hS (rfl) (rfl) dX5_count_182

abbrev rm_X5_count_7 : Room := { frames := 0, cells := 0, slots := 0, locals := 0 }
theorem in_X5_count_7_X5 : ∀ w ∈ u_ws RX5 TX5 19, w ∈ wsX5_count := by decide +kernel
set_option maxHeartbeats 4000000 in
set_option maxRecDepth 100000 in
theorem ct_X5_count_7 (l : Launch) (D : va_G) (cyI cyZ : ClassId) (a0 a1 a2 a3 a4 a5 a6 a7 : Nat) (sz : Nat) (th : Int32) (Wd Hh nn : Nat) (na nb rk pr bk lo : Int32) (bt bb : Int64)  : Met l yX5_count wsX5_count rm_X5_count_7 (xk_Pc D cyI cyZ [.ref a0, .int 7] [(a0, .inr (5, [.int th, .int (nI Wd), .int (nI Hh), .int (nI nn), .int na, .int nb, .int rk, .int pr, .int bk, .ref a1, .ref a2, .ref a3, .ref a4, .ref a5, .ref a6, .ref a7, .int lo, .long bt, .long bb]))] sz) (xk_Qi D (va_A [(a0, .inr (5, [.int th, .int (nI Wd), .int (nI Hh), .int (nI nn), .int na, .int nb, .int rk, .int pr, .int bk, .ref a1, .ref a2, .ref a3, .ref a4, .ref a5, .ref a6, .ref a7, .int lo, .long bt, .long bb]))] sz) (bI (¬ bk = 0)) [(a0, .inr (5, [.int 0, .int (nI Wd), .int (nI Hh), .int (nI nn), .int na, .int nb, .int rk, .int pr, .int bk, .ref a1, .ref a2, .ref a3, .ref a4, .ref a5, .ref a6, .ref a7, .int lo, .long bt, .long bb]))]) 0 0 (va_A [(a0, .inr (5, [.int th, .int (nI Wd), .int (nI Hh), .int (nI nn), .int na, .int nb, .int rk, .int pr, .int bk, .ref a1, .ref a2, .ref a3, .ref a4, .ref a5, .ref a6, .ref a7, .int lo, .long bt, .long bb]))] sz) := by
  refine xk_of (own := RX5) (cc := cX5_count) (maxL := 5) (ret := (some .int)) (Qc := fun A => xk_Qi D A (bI (¬ bk = 0)) [(a0, .inr (5, [.int 0, .int (nI Wd), .int (nI Hh), .int (nI nn), .int na, .int nb, .int rk, .int pr, .int bk, .ref a1, .ref a2, .ref a3, .ref a4, .ref a5, .ref a6, .ref a7, .int lo, .long bt, .long bb]))]) (by decide) rfl rfl (Nat.le_of_ble_eq_true rfl) ?_
  intro p e s m below meth c A ls hx hb hr hml hown hlocks hin hts hA hP hK hN hD hS hl
  have hC0 := xk_fix hx hb hml hown hts
  have hl : lv_has ls 5 [(0, .ref a0), (1, .int 7)] := hl
  have hf51 := hts (.fieldLink RX5 51 "DotPressModel" "thrown" "I") (by decide +kernel)
  have hf97 := hts (.fieldLink RX5 97 "DotPressModel" "isBack" "Z") (by decide +kernel)
  refine lv_aload_n hx hb dX5_count_0 rfl (lv_at hl 0 rfl) ?_
  refine lv_iconst (v := 0) hx hb dX5_count_1 (by decide) ?_
  refine va_put (D := D) (ci := 5) (v := .int 0) (ty := .int) (C := RX5) (T := TX5) (N := 19) hx hb hts in_X5_count_7_X5 tyX5 tyX5_ok nmX5 hown hK hP hD hS 0 rfl rfl 0 (by decide) hf51 (fun _ h9 => h9) rfl (by decide +kernel) (rfl) (rfl) (Nat.le_of_ble_eq_true rfl) dX5_count_2 (fun H locs hP hD hS => ?_)
  have hP : va_P D vwCl [(a0, .inr (5, [.int 0, .int (nI Wd), .int (nI Hh), .int (nI nn), .int na, .int nb, .int rk, .int pr, .int bk, .ref a1, .ref a2, .ref a3, .ref a4, .ref a5, .ref a6, .ref a7, .int lo, .long bt, .long bb]))] H := hP
  have hD : va_D A [(a0, .inr (5, [.int 0, .int (nI Wd), .int (nI Hh), .int (nI nn), .int na, .int nb, .int rk, .int pr, .int bk, .ref a1, .ref a2, .ref a3, .ref a4, .ref a5, .ref a6, .ref a7, .int lo, .long bt, .long bb]))] := hD
  refine lv_iconst (v := 0) hx hb dX5_count_5 (by decide) ?_
  refine lv_istore_n (lv' := [(2, .int 0), (0, .ref a0), (1, .int 7)]) hx hb dX5_count_6 rfl hl (by decide) rfl (fun ls hl => ?_)
  refine lv_iload_n hx hb dX5_count_7 rfl (lv_at hl 2 rfl) ?_
  refine lv_tableIn (off := 175) (tgt := 183) hx hb dX5_count_8 (by decide) (by decide) (by decide) (by decide) ?_
  refine lv_aload_n hx hb dX5_count_183 rfl (lv_at hl 1 rfl) ?_
  refine va_get (D := D) (ci := 5) (v := .int bk) (C := RX5) (T := TX5) (N := 19) hx hb hts in_X5_count_7_X5 hown hK hP 0 rfl rfl 8 (by decide) hf97 (fun _ h9 => h9) rfl dX5_count_184 ?_
  refine lv_if_eq (tgt := 194) hx hb dX5_count_187 (by decide) (fun c_187 => ?_) (fun c_187 => ?_)
  · refine lv_iconst (v := 0) hx hb dX5_count_194 (by decide) ?_
    exact xk_iret hx hb hr hlocks hP hD hS (bI_0 (fun h => h c_187)) (rfl) dX5_count_195
  · refine lv_iconst (v := 1) hx hb dX5_count_190 (by decide) ?_
    refine lv_goto (tgt := 195) hx hb dX5_count_191 (by decide) ?_
    exact xk_iret hx hb hr hlocks hP hD hS (bI_1 c_187) (rfl) dX5_count_195

abbrev rm_X5_count_no : Room := { frames := 0, cells := 0, slots := 0, locals := 0 }
theorem in_X5_count_no_X5 : ∀ w ∈ u_ws RX5 TX5 19, w ∈ wsX5_count := by decide +kernel
set_option maxHeartbeats 4000000 in
set_option maxRecDepth 100000 in
theorem ct_X5_count_no (l : Launch) (D : va_G) (cyI cyZ : ClassId) (a0 a1 a2 a3 a4 a5 a6 a7 : Nat) (sz : Nat) (th : Int32) (Wd Hh nn : Nat) (na nb rk pr bk lo : Int32) (bt bb : Int64) (v : Int32) (hno : v.toInt < 0 ∨ 7 < v.toInt) : Met l yX5_count wsX5_count rm_X5_count_no (xk_Pc D cyI cyZ [.ref a0, .int v] [(a0, .inr (5, [.int th, .int (nI Wd), .int (nI Hh), .int (nI nn), .int na, .int nb, .int rk, .int pr, .int bk, .ref a1, .ref a2, .ref a3, .ref a4, .ref a5, .ref a6, .ref a7, .int lo, .long bt, .long bb]))] sz) (xk_Qi D (va_A [(a0, .inr (5, [.int th, .int (nI Wd), .int (nI Hh), .int (nI nn), .int na, .int nb, .int rk, .int pr, .int bk, .ref a1, .ref a2, .ref a3, .ref a4, .ref a5, .ref a6, .ref a7, .int lo, .long bt, .long bb]))] sz) (-1) [(a0, .inr (5, [.int 0, .int (nI Wd), .int (nI Hh), .int (nI nn), .int na, .int nb, .int rk, .int pr, .int bk, .ref a1, .ref a2, .ref a3, .ref a4, .ref a5, .ref a6, .ref a7, .int lo, .long bt, .long bb]))]) 0 0 (va_A [(a0, .inr (5, [.int th, .int (nI Wd), .int (nI Hh), .int (nI nn), .int na, .int nb, .int rk, .int pr, .int bk, .ref a1, .ref a2, .ref a3, .ref a4, .ref a5, .ref a6, .ref a7, .int lo, .long bt, .long bb]))] sz) := by
  refine xk_of (own := RX5) (cc := cX5_count) (maxL := 5) (ret := (some .int)) (Qc := fun A => xk_Qi D A (-1) [(a0, .inr (5, [.int 0, .int (nI Wd), .int (nI Hh), .int (nI nn), .int na, .int nb, .int rk, .int pr, .int bk, .ref a1, .ref a2, .ref a3, .ref a4, .ref a5, .ref a6, .ref a7, .int lo, .long bt, .long bb]))]) (by decide) rfl rfl (Nat.le_of_ble_eq_true rfl) ?_
  intro p e s m below meth c A ls hx hb hr hml hown hlocks hin hts hA hP hK hN hD hS hl
  have hC0 := xk_fix hx hb hml hown hts
  have hl : lv_has ls 5 [(0, .ref a0), (1, .int v)] := hl
  have hf51 := hts (.fieldLink RX5 51 "DotPressModel" "thrown" "I") (by decide +kernel)
  refine lv_aload_n hx hb dX5_count_0 rfl (lv_at hl 0 rfl) ?_
  refine lv_iconst (v := 0) hx hb dX5_count_1 (by decide) ?_
  refine va_put (D := D) (ci := 5) (v := .int 0) (ty := .int) (C := RX5) (T := TX5) (N := 19) hx hb hts in_X5_count_no_X5 tyX5 tyX5_ok nmX5 hown hK hP hD hS 0 rfl rfl 0 (by decide) hf51 (fun _ h9 => h9) rfl (by decide +kernel) (rfl) (rfl) (Nat.le_of_ble_eq_true rfl) dX5_count_2 (fun H locs hP hD hS => ?_)
  have hP : va_P D vwCl [(a0, .inr (5, [.int 0, .int (nI Wd), .int (nI Hh), .int (nI nn), .int na, .int nb, .int rk, .int pr, .int bk, .ref a1, .ref a2, .ref a3, .ref a4, .ref a5, .ref a6, .ref a7, .int lo, .long bt, .long bb]))] H := hP
  have hD : va_D A [(a0, .inr (5, [.int 0, .int (nI Wd), .int (nI Hh), .int (nI nn), .int na, .int nb, .int rk, .int pr, .int bk, .ref a1, .ref a2, .ref a3, .ref a4, .ref a5, .ref a6, .ref a7, .int lo, .long bt, .long bb]))] := hD
  refine lv_iconst (v := 0) hx hb dX5_count_5 (by decide) ?_
  refine lv_istore_n (lv' := [(2, .int 0), (0, .ref a0), (1, .int v)]) hx hb dX5_count_6 rfl hl (by decide) rfl (fun ls hl => ?_)
  refine lv_iload_n hx hb dX5_count_7 rfl (lv_at hl 2 rfl) ?_
  refine lv_tableOut (tgt := 196) hx hb dX5_count_8 (hno) (by decide) ?_
  refine lv_iconst (v := (-1)) hx hb dX5_count_196 (by decide) ?_
  exact xk_iret hx hb hr hlocks hP hD hS (rfl) (rfl) dX5_count_197

abbrev rm_X5_best : Room := { frames := 2, cells := 0, slots := 0, locals := 59 }
theorem in_X5_best_X5 : ∀ w ∈ u_ws RX5 TX5 19, w ∈ wsX5_best := by decide +kernel
set_option maxHeartbeats 4000000 in
set_option maxRecDepth 100000 in
theorem ct_X5_best (l : Launch) (D : va_G) (cyI cyZ : ClassId) (a0 a1 a2 a3 a4 a5 a6 a7 : Nat) (sz : Nat) (th : Int32) (Wd Hh nn : Nat) (na nb rk pr bk lo : Int32) (bt bb : Int64) (mm : Nat) (hmq : na * na + nb * nb = nI mm) (hm1 : 1 ≤ mm) (hm2 : mm ≤ 128) : Met l yX5_best wsX5_best rm_X5_best (xk_Pc D cyI cyZ [.ref a0] [(a0, .inr (5, [.int th, .int (nI Wd), .int (nI Hh), .int (nI nn), .int na, .int nb, .int rk, .int pr, .int bk, .ref a1, .ref a2, .ref a3, .ref a4, .ref a5, .ref a6, .ref a7, .int lo, .long bt, .long bb]))] sz) (xk_Qi D (va_A [(a0, .inr (5, [.int th, .int (nI Wd), .int (nI Hh), .int (nI nn), .int na, .int nb, .int rk, .int pr, .int bk, .ref a1, .ref a2, .ref a3, .ref a4, .ref a5, .ref a6, .ref a7, .int lo, .long bt, .long bb]))] sz) ((mbO na nb mm ((-1), 0, 1, bt, bb) 8).1) [(a0, .inr (5, [.int 0, .int (nI Wd), .int (nI Hh), .int (nI nn), .int na, .int nb, .int rk, .int pr, .int bk, .ref a1, .ref a2, .ref a3, .ref a4, .ref a5, .ref a6, .ref a7, .int lo, .long ((mbO na nb mm ((-1), 0, 1, bt, bb) 8).2.2.2.1), .long ((mbO na nb mm ((-1), 0, 1, bt, bb) 8).2.2.2.2)]))]) 0 0 (va_A [(a0, .inr (5, [.int th, .int (nI Wd), .int (nI Hh), .int (nI nn), .int na, .int nb, .int rk, .int pr, .int bk, .ref a1, .ref a2, .ref a3, .ref a4, .ref a5, .ref a6, .ref a7, .int lo, .long bt, .long bb]))] sz) := by
  refine xk_of (own := RX5) (cc := cX5_best) (maxL := 8) (ret := (some .int)) (Qc := fun A => xk_Qi D A ((mbO na nb mm ((-1), 0, 1, bt, bb) 8).1) [(a0, .inr (5, [.int 0, .int (nI Wd), .int (nI Hh), .int (nI nn), .int na, .int nb, .int rk, .int pr, .int bk, .ref a1, .ref a2, .ref a3, .ref a4, .ref a5, .ref a6, .ref a7, .int lo, .long ((mbO na nb mm ((-1), 0, 1, bt, bb) 8).2.2.2.1), .long ((mbO na nb mm ((-1), 0, 1, bt, bb) 8).2.2.2.2)]))]) (by decide) rfl rfl (Nat.le_of_ble_eq_true rfl) ?_
  intro p e s m below meth c A ls hx hb hr hml hown hlocks hin hts hA hP hK hN hD hS hl
  have hC0 := xk_fix hx hb hml hown hts
  have hl : lv_has ls 8 [(0, .ref a0)] := hl
  have hf51 := hts (.fieldLink RX5 51 "DotPressModel" "thrown" "I") (by decide +kernel)
  have hf148 := hts (.fieldLink RX5 148 "DotPressModel" "beatBelow" "J") (by decide +kernel)
  have hf152 := hts (.fieldLink RX5 152 "DotPressModel" "beatTop" "J") (by decide +kernel)
  refine lv_aload_n hx hb dX5_best_0 rfl (lv_at hl 0 rfl) ?_
  refine lv_iconst (v := 0) hx hb dX5_best_1 (by decide) ?_
  refine va_put (D := D) (ci := 5) (v := .int 0) (ty := .int) (C := RX5) (T := TX5) (N := 19) hx hb hts in_X5_best_X5 tyX5 tyX5_ok nmX5 hown hK hP hD hS 0 rfl rfl 0 (by decide) hf51 (fun _ h9 => h9) rfl (by decide +kernel) (rfl) (rfl) (Nat.le_of_ble_eq_true rfl) dX5_best_2 (fun H locs hP hD hS => ?_)
  have hP : va_P D vwCl [(a0, .inr (5, [.int 0, .int (nI Wd), .int (nI Hh), .int (nI nn), .int na, .int nb, .int rk, .int pr, .int bk, .ref a1, .ref a2, .ref a3, .ref a4, .ref a5, .ref a6, .ref a7, .int lo, .long bt, .long bb]))] H := hP
  have hD : va_D A [(a0, .inr (5, [.int 0, .int (nI Wd), .int (nI Hh), .int (nI nn), .int na, .int nb, .int rk, .int pr, .int bk, .ref a1, .ref a2, .ref a3, .ref a4, .ref a5, .ref a6, .ref a7, .int lo, .long bt, .long bb]))] := hD
  refine lv_iconst (v := (-1)) hx hb dX5_best_5 (by decide) ?_
  refine lv_istore_n (lv' := [(1, .int (-1)), (0, .ref a0)]) hx hb dX5_best_6 rfl hl (by decide) rfl (fun ls hl => ?_)
  refine lv_lconst (v := 0) hx hb dX5_best_7 (by decide) ?_
  refine lv_lstore_n (lv' := [(2, .long 0), (1, .int (-1)), (0, .ref a0)]) hx hb dX5_best_8 rfl hl (by decide) rfl (fun ls hl => ?_)
  refine lv_lconst (v := 1) hx hb dX5_best_9 (by decide) ?_
  refine lv_lstore (lv' := [(4, .long 1), (2, .long 0), (1, .int (-1)), (0, .ref a0)]) hx hb dX5_best_10 hl (by decide) rfl (fun ls hl => ?_)
  refine lv_iconst (v := 1) hx hb dX5_best_12 (by decide) ?_
  refine lv_istore (lv' := [(6, .int 1), (4, .long 1), (2, .long 0), (1, .int (-1)), (0, .ref a0)]) hx hb dX5_best_13 hl (by decide) rfl (fun ls hl => ?_)
  have L15 : ∀ (n ci : Nat), ci + n = 8 → ∀ (H : Heap) (locs : List Loc) (ls : Array Slot), va_P D vwCl [(a0, .inr (5, [.int 0, .int (nI Wd), .int (nI Hh), .int (nI nn), .int na, .int nb, .int rk, .int pr, .int bk, .ref a1, .ref a2, .ref a3, .ref a4, .ref a5, .ref a6, .ref a7, .int lo, .long ((mbO na nb mm ((-1), 0, 1, bt, bb) ci).2.2.2.1), .long ((mbO na nb mm ((-1), 0, 1, bt, bb) ci).2.2.2.2)]))] H → va_D A [(a0, .inr (5, [.int 0, .int (nI Wd), .int (nI Hh), .int (nI nn), .int na, .int nb, .int rk, .int pr, .int bk, .ref a1, .ref a2, .ref a3, .ref a4, .ref a5, .ref a6, .ref a7, .int lo, .long ((mbO na nb mm ((-1), 0, 1, bt, bb) ci).2.2.2.1), .long ((mbO na nb mm ((-1), 0, 1, bt, bb) ci).2.2.2.2)]))] → va_S A s.heap H locs → lv_has ls 8 [(0, .ref a0), (1, .int ((mbO na nb mm ((-1), 0, 1, bt, bb) ci).1)), (2, .long ((mbO na nb mm ((-1), 0, 1, bt, bb) ci).2.1)), (4, .long ((mbO na nb mm ((-1), 0, 1, bt, bb) ci).2.2.1)), (6, .int (nI (ci + 1)))] → W p l e rm_X5_best s m ([.ref a0] : List Value).toArray below meth c H locs 0 0 (MQ below (xk_Qi D A ((mbO na nb mm ((-1), 0, 1, bt, bb) 8).1) [(a0, .inr (5, [.int 0, .int (nI Wd), .int (nI Hh), .int (nI nn), .int na, .int nb, .int rk, .int pr, .int bk, .ref a1, .ref a2, .ref a3, .ref a4, .ref a5, .ref a6, .ref a7, .int lo, .long ((mbO na nb mm ((-1), 0, 1, bt, bb) 8).2.2.2.1), .long ((mbO na nb mm ((-1), 0, 1, bt, bb) 8).2.2.2.2)]))]) ([.ref a0] : List Value).toArray s 0 0 A) (F0 m 15 ls []) := by
    intro n
    induction n with
    | zero =>
      intro ci hk_15  H locs ls hP hD hS hl
      have hz_15 : 8 = ci := hk_15.symm
      subst hz_15
      refine lv_iload hx hb dX5_best_15 (lv_at hl 4 rfl) ?_
      refine lv_bipush (v := 8) hx hb dX5_best_17 (by decide) ?_
      refine lv_icmp_gt (tgt := 97) hx hb dX5_best_19 (by decide) (fun c_19 => ?_) (fun c_19 => xk_ba c_19 ((by decide : (8 : Int32) < nI (8 + 1))))
      refine lv_iload_n hx hb dX5_best_97 rfl (lv_at hl 1 rfl) ?_
      exact xk_iret hx hb hr hlocks hP hD hS (rfl) (rfl) dX5_best_98
    | succ n ih_15 =>
      intro ci hk_15  H locs ls hP hD hS hl
      refine lv_iload hx hb dX5_best_15 (lv_at hl 4 rfl) ?_
      refine lv_bipush (v := 8) hx hb dX5_best_17 (by decide) ?_
      refine lv_icmp_gt (tgt := 97) hx hb dX5_best_19 (by decide) (fun c_19 => xk_ab c_19 (rg_hi (hi := 8) (by omega) (by decide))) (fun c_19 => ?_)
      refine lv_iconst (v := 0) hx hb dX5_best_22 (by decide) ?_
      refine lv_istore (lv' := [(7, .int 0), (0, .ref a0), (1, .int ((mbO na nb mm ((-1), 0, 1, bt, bb) ci).1)), (2, .long ((mbO na nb mm ((-1), 0, 1, bt, bb) ci).2.1)), (4, .long ((mbO na nb mm ((-1), 0, 1, bt, bb) ci).2.2.1)), (6, .int (nI (ci + 1)))]) hx hb dX5_best_23 hl (by decide) rfl (fun ls hl => ?_)
      have L25 : ∀ (n di : Nat), di + n = 9 → ∀ (H : Heap) (locs : List Loc) (ls : Array Slot), va_P D vwCl [(a0, .inr (5, [.int 0, .int (nI Wd), .int (nI Hh), .int (nI nn), .int na, .int nb, .int rk, .int pr, .int bk, .ref a1, .ref a2, .ref a3, .ref a4, .ref a5, .ref a6, .ref a7, .int lo, .long ((mbI na nb mm (ci + 1) (mbO na nb mm ((-1), 0, 1, bt, bb) ci) di).2.2.2.1), .long ((mbI na nb mm (ci + 1) (mbO na nb mm ((-1), 0, 1, bt, bb) ci) di).2.2.2.2)]))] H → va_D A [(a0, .inr (5, [.int 0, .int (nI Wd), .int (nI Hh), .int (nI nn), .int na, .int nb, .int rk, .int pr, .int bk, .ref a1, .ref a2, .ref a3, .ref a4, .ref a5, .ref a6, .ref a7, .int lo, .long ((mbI na nb mm (ci + 1) (mbO na nb mm ((-1), 0, 1, bt, bb) ci) di).2.2.2.1), .long ((mbI na nb mm (ci + 1) (mbO na nb mm ((-1), 0, 1, bt, bb) ci) di).2.2.2.2)]))] → va_S A s.heap H locs → lv_has ls 8 [(0, .ref a0), (1, .int ((mbI na nb mm (ci + 1) (mbO na nb mm ((-1), 0, 1, bt, bb) ci) di).1)), (2, .long ((mbI na nb mm (ci + 1) (mbO na nb mm ((-1), 0, 1, bt, bb) ci) di).2.1)), (4, .long ((mbI na nb mm (ci + 1) (mbO na nb mm ((-1), 0, 1, bt, bb) ci) di).2.2.1)), (6, .int (nI (ci + 1))), (7, .int (nI di))] → W p l e rm_X5_best s m ([.ref a0] : List Value).toArray below meth c H locs 0 0 (MQ below (xk_Qi D A ((mbO na nb mm ((-1), 0, 1, bt, bb) 8).1) [(a0, .inr (5, [.int 0, .int (nI Wd), .int (nI Hh), .int (nI nn), .int na, .int nb, .int rk, .int pr, .int bk, .ref a1, .ref a2, .ref a3, .ref a4, .ref a5, .ref a6, .ref a7, .int lo, .long ((mbO na nb mm ((-1), 0, 1, bt, bb) 8).2.2.2.1), .long ((mbO na nb mm ((-1), 0, 1, bt, bb) 8).2.2.2.2)]))]) ([.ref a0] : List Value).toArray s 0 0 A) (F0 m 25 ls []) := by
        intro n
        induction n with
        | zero =>
          intro di hk_25  H locs ls hP hD hS hl
          have hz_25 : 9 = di := hk_25.symm
          subst hz_25
          refine lv_iload hx hb dX5_best_25 (lv_at hl 5 rfl) ?_
          refine lv_bipush (v := 8) hx hb dX5_best_27 (by decide) ?_
          refine lv_icmp_gt (tgt := 91) hx hb dX5_best_29 (by decide) (fun c_29 => ?_) (fun c_29 => xk_ba c_29 ((by decide : (8 : Int32) < nI 9)))
          refine lv_iinc (v := nI (ci + 1 + 1)) (lv' := [(6, .int (nI (ci + 1 + 1))), (0, .ref a0), (1, .int ((mbI na nb mm (ci + 1) (mbO na nb mm ((-1), 0, 1, bt, bb) ci) 9).1)), (2, .long ((mbI na nb mm (ci + 1) (mbO na nb mm ((-1), 0, 1, bt, bb) ci) 9).2.1)), (4, .long ((mbI na nb mm (ci + 1) (mbO na nb mm ((-1), 0, 1, bt, bb) ci) 9).2.2.1)), (7, .int (nI 9))]) hx hb dX5_best_91 hl (k := 4) rfl (nI_1 _) (by decide) rfl (fun ls hl => ?_)
          refine lv_goto (tgt := 15) hx hb dX5_best_94 (by decide) ?_
          have eq_44 : ((mbI na nb mm (ci + 1) (mbO na nb mm ((-1), 0, 1, bt, bb) ci) 9).1 : Int32) = (mbO na nb mm ((-1), 0, 1, bt, bb) (ci + 1)).1 := by rw [mbO]
          have eq_45 : ((mbI na nb mm (ci + 1) (mbO na nb mm ((-1), 0, 1, bt, bb) ci) 9).2.1 : Int64) = (mbO na nb mm ((-1), 0, 1, bt, bb) (ci + 1)).2.1 := by rw [mbO]
          have eq_46 : ((mbI na nb mm (ci + 1) (mbO na nb mm ((-1), 0, 1, bt, bb) ci) 9).2.2.1 : Int64) = (mbO na nb mm ((-1), 0, 1, bt, bb) (ci + 1)).2.2.1 := by rw [mbO]
          have eq_47 : (nI (ci + 1 + 1) : Int32) = nI ((ci + 1) + 1) := rfl
          have eq_48 : ((mbI na nb mm (ci + 1) (mbO na nb mm ((-1), 0, 1, bt, bb) ci) 9).2.2.2.1 : Int64) = (mbO na nb mm ((-1), 0, 1, bt, bb) (ci + 1)).2.2.2.1 := by rw [mbO]
          have eq_49 : ((mbI na nb mm (ci + 1) (mbO na nb mm ((-1), 0, 1, bt, bb) ci) 9).2.2.2.2 : Int64) = (mbO na nb mm ((-1), 0, 1, bt, bb) (ci + 1)).2.2.2.2 := by rw [mbO]
          have eW : ([(a0, .inr (5, [.int 0, .int (nI Wd), .int (nI Hh), .int (nI nn), .int na, .int nb, .int rk, .int pr, .int bk, .ref a1, .ref a2, .ref a3, .ref a4, .ref a5, .ref a6, .ref a7, .int lo, .long ((mbI na nb mm (ci + 1) (mbO na nb mm ((-1), 0, 1, bt, bb) ci) 9).2.2.2.1), .long ((mbI na nb mm (ci + 1) (mbO na nb mm ((-1), 0, 1, bt, bb) ci) 9).2.2.2.2)]))] : va_W) = [(a0, .inr (5, [.int 0, .int (nI Wd), .int (nI Hh), .int (nI nn), .int na, .int nb, .int rk, .int pr, .int bk, .ref a1, .ref a2, .ref a3, .ref a4, .ref a5, .ref a6, .ref a7, .int lo, .long ((mbO na nb mm ((-1), 0, 1, bt, bb) (ci + 1)).2.2.2.1), .long ((mbO na nb mm ((-1), 0, 1, bt, bb) (ci + 1)).2.2.2.2)]))] := (congr (congrArg List.cons (congrArg (fun z => ((a0, (Sum.inr (5, z) : va_E)) : Nat × va_E)) (congrArg (List.cons _) (congrArg (List.cons _) (congrArg (List.cons _) (congrArg (List.cons _) (congrArg (List.cons _) (congrArg (List.cons _) (congrArg (List.cons _) (congrArg (List.cons _) (congrArg (List.cons _) (congrArg (List.cons _) (congrArg (List.cons _) (congrArg (List.cons _) (congrArg (List.cons _) (congrArg (List.cons _) (congrArg (List.cons _) (congrArg (List.cons _) (congrArg (List.cons _) (congr (congrArg List.cons (congrArg Value.long eq_48)) (congr (congrArg List.cons (congrArg Value.long eq_49)) rfl))))))))))))))))))))) rfl)
          rw [eW] at hP hD
          have hl := lv_sub (l' := [(0, .ref a0), (1, .int ((mbI na nb mm (ci + 1) (mbO na nb mm ((-1), 0, 1, bt, bb) ci) 9).1)), (2, .long ((mbI na nb mm (ci + 1) (mbO na nb mm ((-1), 0, 1, bt, bb) ci) 9).2.1)), (4, .long ((mbI na nb mm (ci + 1) (mbO na nb mm ((-1), 0, 1, bt, bb) ci) 9).2.2.1)), (6, .int (nI (ci + 1 + 1)))]) hl [1, 2, 3, 4, 0] rfl
          have eL : ([(0, .ref a0), (1, .int ((mbI na nb mm (ci + 1) (mbO na nb mm ((-1), 0, 1, bt, bb) ci) 9).1)), (2, .long ((mbI na nb mm (ci + 1) (mbO na nb mm ((-1), 0, 1, bt, bb) ci) 9).2.1)), (4, .long ((mbI na nb mm (ci + 1) (mbO na nb mm ((-1), 0, 1, bt, bb) ci) 9).2.2.1)), (6, .int (nI (ci + 1 + 1)))] : List (Nat × Value)) = [(0, .ref a0), (1, .int ((mbO na nb mm ((-1), 0, 1, bt, bb) (ci + 1)).1)), (2, .long ((mbO na nb mm ((-1), 0, 1, bt, bb) (ci + 1)).2.1)), (4, .long ((mbO na nb mm ((-1), 0, 1, bt, bb) (ci + 1)).2.2.1)), (6, .int (nI ((ci + 1) + 1)))] := (congrArg (List.cons _) (congr (congrArg List.cons (congrArg (fun z => (((1 : Nat), Value.int z) : Nat × Value)) eq_44)) (congr (congrArg List.cons (congrArg (fun z => (((2 : Nat), Value.long z) : Nat × Value)) eq_45)) (congr (congrArg List.cons (congrArg (fun z => (((4 : Nat), Value.long z) : Nat × Value)) eq_46)) (congr (congrArg List.cons (congrArg (fun z => (((6 : Nat), Value.int z) : Nat × Value)) eq_47)) rfl)))))
          rw [eL] at hl
          exact ih_15 (ci + 1) (by omega)  _ _ _ hP hD hS hl
        | succ n ih_25 =>
          intro di hk_25  H locs ls hP hD hS hl
          refine lv_iload hx hb dX5_best_25 (lv_at hl 5 rfl) ?_
          refine lv_bipush (v := 8) hx hb dX5_best_27 (by decide) ?_
          refine lv_icmp_gt (tgt := 91) hx hb dX5_best_29 (by decide) (fun c_29 => xk_ab c_29 (rg_hi (hi := 8) (by omega) (by decide))) (fun c_29 => ?_)
          refine lv_aload_n hx hb dX5_best_32 rfl (lv_at hl 0 rfl) ?_
          refine lv_iload hx hb dX5_best_33 (lv_at hl 4 rfl) ?_
          refine lv_iload hx hb dX5_best_35 (lv_at hl 5 rfl) ?_
          have hPc := hP.sub (ws' := [(a0, .inr (5, [.int 0, .int (nI Wd), .int (nI Hh), .int (nI nn), .int na, .int nb, .int rk, .int pr, .int bk, .ref a1, .ref a2, .ref a3, .ref a4, .ref a5, .ref a6, .ref a7, .int lo, .long ((mbI na nb mm (ci + 1) (mbO na nb mm ((-1), 0, 1, bt, bb) ci) di).2.2.2.1), .long ((mbI na nb mm (ci + 1) (mbO na nb mm ((-1), 0, 1, bt, bb) ci) di).2.2.2.2)]))]) [0] rfl
          have hDc := hD.sub (ws' := [(a0, .inr (5, [.int 0, .int (nI Wd), .int (nI Hh), .int (nI nn), .int na, .int nb, .int rk, .int pr, .int bk, .ref a1, .ref a2, .ref a3, .ref a4, .ref a5, .ref a6, .ref a7, .int lo, .long ((mbI na nb mm (ci + 1) (mbO na nb mm ((-1), 0, 1, bt, bb) ci) di).2.2.2.1), .long ((mbI na nb mm (ci + 1) (mbO na nb mm ((-1), 0, 1, bt, bb) ci) di).2.2.2.2)]))]) [0] (by decide) rfl
          refine xk_callv (wr := []) (w2 := [(a0, .inr (5, [.int 0, .int (nI Wd), .int (nI Hh), .int (nI nn), .int na, .int nb, .int rk, .int pr, .int bk, .ref a1, .ref a2, .ref a3, .ref a4, .ref a5, .ref a6, .ref a7, .int lo, .long (bTp na nb (nI (ci + 1)) (nI di) mm ((ci + 1) * (ci + 1) + di * di) ((mbI na nb mm (ci + 1) (mbO na nb mm ((-1), 0, 1, bt, bb) ci) di).2.2.2.1) 4), .long (lN mm * lN ((ci + 1) * (ci + 1) + di * di) * lN mm * lN ((ci + 1) * (ci + 1) + di * di))]))]) (va_runV (As := [.int (nI (ci + 1)), .int (nI di)]) (rest := []) hC0 (ct_X5_beats l D cyI cyZ a0 a1 a2 a3 a4 a5 a6 a7 _ 0 Wd Hh nn na nb rk pr bk lo ((mbI na nb mm (ci + 1) (mbO na nb mm ((-1), 0, 1, bt, bb) ci) di).2.2.2.1) ((mbI na nb mm (ci + 1) (mbO na nb mm ((-1), 0, 1, bt, bb) ci) di).2.2.2.2) mm ((ci + 1) * (ci + 1) + di * di) (nI (ci + 1)) (nI di) (by first | assumption | omega) (by first | assumption | omega) (by first | assumption | omega) (by rw [pk_mul, pk_mul, nI_add]) (sq_le (by omega) (by omega))) (cwV 2 hts gX5_best_X5_beats rfl rfl rfl (by decide +kernel) ⟨Nat.le_of_ble_eq_true rfl, Nat.le_of_ble_eq_true rfl⟩) ⟨xk_blind, va_recv hK hPc (ci := 5) (q0 := 0) rfl rfl, xk_pre hK hN hPc hDc⟩ rfl rfl hl.1 rfl (lv_room (Nat.le_of_ble_eq_true rfl)) dX5_best_37 ⟨Nat.le_of_ble_eq_true rfl, Nat.le_of_ble_eq_true rfl⟩) hP hD hS hA [0] [] [0] rfl rfl (by decide) (by decide) rfl (by decide) (fun H locs hP hD hS => ?_)
          refine lv_iload_n hx hb dX5_best_40 rfl (lv_at hl 1 rfl) ?_
          refine lv_iconst (v := (-1)) hx hb dX5_best_41 (by decide) ?_
          refine lv_icmp_eq (tgt := 65) hx hb dX5_best_42 (by decide) (fun c_42 => ?_) (fun c_42 => ?_)
          · refine lv_bipush (v := 10) hx hb dX5_best_65 (by decide) ?_
            refine lv_iload hx hb dX5_best_67 (lv_at hl 4 rfl) ?_
            refine lv_imul hx hb dX5_best_69 ?_
            refine lv_iload hx hb dX5_best_70 (lv_at hl 5 rfl) ?_
            refine lv_iadd hx hb dX5_best_72 ?_
            refine lv_istore_n (lv' := [(1, .int ((10 * nI (ci + 1)) + nI di)), (0, .ref a0), (2, .long ((mbI na nb mm (ci + 1) (mbO na nb mm ((-1), 0, 1, bt, bb) ci) di).2.1)), (4, .long ((mbI na nb mm (ci + 1) (mbO na nb mm ((-1), 0, 1, bt, bb) ci) di).2.2.1)), (6, .int (nI (ci + 1))), (7, .int (nI di))]) hx hb dX5_best_73 rfl hl (by decide) rfl (fun ls hl => ?_)
            refine lv_aload_n hx hb dX5_best_74 rfl (lv_at hl 1 rfl) ?_
            refine va_get (D := D) (ci := 5) (v := .long (bTp na nb (nI (ci + 1)) (nI di) mm ((ci + 1) * (ci + 1) + di * di) ((mbI na nb mm (ci + 1) (mbO na nb mm ((-1), 0, 1, bt, bb) ci) di).2.2.2.1) 4)) (C := RX5) (T := TX5) (N := 19) hx hb hts in_X5_best_X5 hown hK hP 0 rfl rfl 17 (by decide) hf152 (fun _ h9 => h9) rfl dX5_best_75 ?_
            refine lv_lstore_n (lv' := [(2, .long (bTp na nb (nI (ci + 1)) (nI di) mm ((ci + 1) * (ci + 1) + di * di) ((mbI na nb mm (ci + 1) (mbO na nb mm ((-1), 0, 1, bt, bb) ci) di).2.2.2.1) 4)), (1, .int ((10 * nI (ci + 1)) + nI di)), (0, .ref a0), (4, .long ((mbI na nb mm (ci + 1) (mbO na nb mm ((-1), 0, 1, bt, bb) ci) di).2.2.1)), (6, .int (nI (ci + 1))), (7, .int (nI di))]) hx hb dX5_best_78 rfl hl (by decide) rfl (fun ls hl => ?_)
            refine lv_aload_n hx hb dX5_best_79 rfl (lv_at hl 2 rfl) ?_
            refine va_get (D := D) (ci := 5) (v := .long (lN mm * lN ((ci + 1) * (ci + 1) + di * di) * lN mm * lN ((ci + 1) * (ci + 1) + di * di))) (C := RX5) (T := TX5) (N := 19) hx hb hts in_X5_best_X5 hown hK hP 0 rfl rfl 18 (by decide) hf148 (fun _ h9 => h9) rfl dX5_best_80 ?_
            refine lv_lstore (lv' := [(4, .long (lN mm * lN ((ci + 1) * (ci + 1) + di * di) * lN mm * lN ((ci + 1) * (ci + 1) + di * di))), (2, .long (bTp na nb (nI (ci + 1)) (nI di) mm ((ci + 1) * (ci + 1) + di * di) ((mbI na nb mm (ci + 1) (mbO na nb mm ((-1), 0, 1, bt, bb) ci) di).2.2.2.1) 4)), (1, .int ((10 * nI (ci + 1)) + nI di)), (0, .ref a0), (6, .int (nI (ci + 1))), (7, .int (nI di))]) hx hb dX5_best_83 hl (by decide) rfl (fun ls hl => ?_)
            refine lv_iinc (v := nI (di + 1)) (lv' := [(7, .int (nI (di + 1))), (4, .long (lN mm * lN ((ci + 1) * (ci + 1) + di * di) * lN mm * lN ((ci + 1) * (ci + 1) + di * di))), (2, .long (bTp na nb (nI (ci + 1)) (nI di) mm ((ci + 1) * (ci + 1) + di * di) ((mbI na nb mm (ci + 1) (mbO na nb mm ((-1), 0, 1, bt, bb) ci) di).2.2.2.1) 4)), (1, .int ((10 * nI (ci + 1)) + nI di)), (0, .ref a0), (6, .int (nI (ci + 1)))]) hx hb dX5_best_85 hl (k := 5) rfl (nI_1 _) (by decide) rfl (fun ls hl => ?_)
            refine lv_goto (tgt := 25) hx hb dX5_best_88 (by decide) ?_
            have eq_84 : ((10 * nI (ci + 1)) + nI di : Int32) = (mbI na nb mm (ci + 1) (mbO na nb mm ((-1), 0, 1, bt, bb) ci) (di + 1)).1 := by rw [mbI, mstep_t (Or.inl c_42)]; try rfl
            have eq_85 : (bTp na nb (nI (ci + 1)) (nI di) mm ((ci + 1) * (ci + 1) + di * di) ((mbI na nb mm (ci + 1) (mbO na nb mm ((-1), 0, 1, bt, bb) ci) di).2.2.2.1) 4 : Int64) = (mbI na nb mm (ci + 1) (mbO na nb mm ((-1), 0, 1, bt, bb) ci) (di + 1)).2.1 := by rw [mbI, mstep_t (Or.inl c_42)]; try rfl
            have eq_86 : (lN mm * lN ((ci + 1) * (ci + 1) + di * di) * lN mm * lN ((ci + 1) * (ci + 1) + di * di) : Int64) = (mbI na nb mm (ci + 1) (mbO na nb mm ((-1), 0, 1, bt, bb) ci) (di + 1)).2.2.1 := by rw [mbI, mstep_t (Or.inl c_42)]; try rfl
            have eq_87 : (bTp na nb (nI (ci + 1)) (nI di) mm ((ci + 1) * (ci + 1) + di * di) ((mbI na nb mm (ci + 1) (mbO na nb mm ((-1), 0, 1, bt, bb) ci) di).2.2.2.1) 4 : Int64) = (mbI na nb mm (ci + 1) (mbO na nb mm ((-1), 0, 1, bt, bb) ci) (di + 1)).2.2.2.1 := by rw [mbI, mstep_t (Or.inl c_42)]; try rfl
            have eq_88 : (lN mm * lN ((ci + 1) * (ci + 1) + di * di) * lN mm * lN ((ci + 1) * (ci + 1) + di * di) : Int64) = (mbI na nb mm (ci + 1) (mbO na nb mm ((-1), 0, 1, bt, bb) ci) (di + 1)).2.2.2.2 := by rw [mbI, mstep_t (Or.inl c_42)]; try rfl
            have eW : ([(a0, .inr (5, [.int 0, .int (nI Wd), .int (nI Hh), .int (nI nn), .int na, .int nb, .int rk, .int pr, .int bk, .ref a1, .ref a2, .ref a3, .ref a4, .ref a5, .ref a6, .ref a7, .int lo, .long (bTp na nb (nI (ci + 1)) (nI di) mm ((ci + 1) * (ci + 1) + di * di) ((mbI na nb mm (ci + 1) (mbO na nb mm ((-1), 0, 1, bt, bb) ci) di).2.2.2.1) 4), .long (lN mm * lN ((ci + 1) * (ci + 1) + di * di) * lN mm * lN ((ci + 1) * (ci + 1) + di * di))]))] : va_W) = [(a0, .inr (5, [.int 0, .int (nI Wd), .int (nI Hh), .int (nI nn), .int na, .int nb, .int rk, .int pr, .int bk, .ref a1, .ref a2, .ref a3, .ref a4, .ref a5, .ref a6, .ref a7, .int lo, .long ((mbI na nb mm (ci + 1) (mbO na nb mm ((-1), 0, 1, bt, bb) ci) (di + 1)).2.2.2.1), .long ((mbI na nb mm (ci + 1) (mbO na nb mm ((-1), 0, 1, bt, bb) ci) (di + 1)).2.2.2.2)]))] := (congr (congrArg List.cons (congrArg (fun z => ((a0, (Sum.inr (5, z) : va_E)) : Nat × va_E)) (congrArg (List.cons _) (congrArg (List.cons _) (congrArg (List.cons _) (congrArg (List.cons _) (congrArg (List.cons _) (congrArg (List.cons _) (congrArg (List.cons _) (congrArg (List.cons _) (congrArg (List.cons _) (congrArg (List.cons _) (congrArg (List.cons _) (congrArg (List.cons _) (congrArg (List.cons _) (congrArg (List.cons _) (congrArg (List.cons _) (congrArg (List.cons _) (congrArg (List.cons _) (congr (congrArg List.cons (congrArg Value.long eq_87)) (congr (congrArg List.cons (congrArg Value.long eq_88)) rfl))))))))))))))))))))) rfl)
            rw [eW] at hP hD
            have hl := lv_sub (l' := [(0, .ref a0), (1, .int ((10 * nI (ci + 1)) + nI di)), (2, .long (bTp na nb (nI (ci + 1)) (nI di) mm ((ci + 1) * (ci + 1) + di * di) ((mbI na nb mm (ci + 1) (mbO na nb mm ((-1), 0, 1, bt, bb) ci) di).2.2.2.1) 4)), (4, .long (lN mm * lN ((ci + 1) * (ci + 1) + di * di) * lN mm * lN ((ci + 1) * (ci + 1) + di * di))), (6, .int (nI (ci + 1))), (7, .int (nI (di + 1)))]) hl [4, 3, 2, 1, 5, 0] rfl
            have eL : ([(0, .ref a0), (1, .int ((10 * nI (ci + 1)) + nI di)), (2, .long (bTp na nb (nI (ci + 1)) (nI di) mm ((ci + 1) * (ci + 1) + di * di) ((mbI na nb mm (ci + 1) (mbO na nb mm ((-1), 0, 1, bt, bb) ci) di).2.2.2.1) 4)), (4, .long (lN mm * lN ((ci + 1) * (ci + 1) + di * di) * lN mm * lN ((ci + 1) * (ci + 1) + di * di))), (6, .int (nI (ci + 1))), (7, .int (nI (di + 1)))] : List (Nat × Value)) = [(0, .ref a0), (1, .int ((mbI na nb mm (ci + 1) (mbO na nb mm ((-1), 0, 1, bt, bb) ci) (di + 1)).1)), (2, .long ((mbI na nb mm (ci + 1) (mbO na nb mm ((-1), 0, 1, bt, bb) ci) (di + 1)).2.1)), (4, .long ((mbI na nb mm (ci + 1) (mbO na nb mm ((-1), 0, 1, bt, bb) ci) (di + 1)).2.2.1)), (6, .int (nI (ci + 1))), (7, .int (nI (di + 1)))] := (congrArg (List.cons _) (congr (congrArg List.cons (congrArg (fun z => (((1 : Nat), Value.int z) : Nat × Value)) eq_84)) (congr (congrArg List.cons (congrArg (fun z => (((2 : Nat), Value.long z) : Nat × Value)) eq_85)) (congr (congrArg List.cons (congrArg (fun z => (((4 : Nat), Value.long z) : Nat × Value)) eq_86)) (congrArg (List.cons _) (congrArg (List.cons _) rfl))))))
            rw [eL] at hl
            exact ih_25 (di + 1) (by omega)  _ _ _ hP hD hS hl
          · refine lv_aload_n hx hb dX5_best_45 rfl (lv_at hl 0 rfl) ?_
            refine va_get (D := D) (ci := 5) (v := .long (bTp na nb (nI (ci + 1)) (nI di) mm ((ci + 1) * (ci + 1) + di * di) ((mbI na nb mm (ci + 1) (mbO na nb mm ((-1), 0, 1, bt, bb) ci) di).2.2.2.1) 4)) (C := RX5) (T := TX5) (N := 19) hx hb hts in_X5_best_X5 hown hK hP 0 rfl rfl 17 (by decide) hf152 (fun _ h9 => h9) rfl dX5_best_46 ?_
            refine lv_lload hx hb dX5_best_49 (lv_at hl 3 rfl) ?_
            refine lv_lmul hx hb dX5_best_51 ?_
            refine lv_lload_n hx hb dX5_best_52 rfl (lv_at hl 2 rfl) ?_
            refine lv_aload_n hx hb dX5_best_53 rfl (lv_at hl 0 rfl) ?_
            refine va_get (D := D) (ci := 5) (v := .long (lN mm * lN ((ci + 1) * (ci + 1) + di * di) * lN mm * lN ((ci + 1) * (ci + 1) + di * di))) (C := RX5) (T := TX5) (N := 19) hx hb hts in_X5_best_X5 hown hK hP 0 rfl rfl 18 (by decide) hf148 (fun _ h9 => h9) rfl dX5_best_54 ?_
            refine lv_lmul hx hb dX5_best_57 ?_
            refine W.lcmp hx hb dX5_best_58 ?_
            refine lv_if_gt (tgt := 65) hx hb dX5_best_59 (by decide) (fun c_59 => ?_) (fun c_59 => ?_)
            · have c_59 : (mbI na nb mm (ci + 1) (mbO na nb mm ((-1), 0, 1, bt, bb) ci) di).2.1 * msW mm (ci + 1) di < msT na nb mm (ci + 1) di (mbI na nb mm (ci + 1) (mbO na nb mm ((-1), 0, 1, bt, bb) ci) di) * (mbI na nb mm (ci + 1) (mbO na nb mm ((-1), 0, 1, bt, bb) ci) di).2.2.1 := (lg_cmp_gt _ _).mp c_59
              refine lv_bipush (v := 10) hx hb dX5_best_65 (by decide) ?_
              refine lv_iload hx hb dX5_best_67 (lv_at hl 4 rfl) ?_
              refine lv_imul hx hb dX5_best_69 ?_
              refine lv_iload hx hb dX5_best_70 (lv_at hl 5 rfl) ?_
              refine lv_iadd hx hb dX5_best_72 ?_
              refine lv_istore_n (lv' := [(1, .int ((10 * nI (ci + 1)) + nI di)), (0, .ref a0), (2, .long ((mbI na nb mm (ci + 1) (mbO na nb mm ((-1), 0, 1, bt, bb) ci) di).2.1)), (4, .long ((mbI na nb mm (ci + 1) (mbO na nb mm ((-1), 0, 1, bt, bb) ci) di).2.2.1)), (6, .int (nI (ci + 1))), (7, .int (nI di))]) hx hb dX5_best_73 rfl hl (by decide) rfl (fun ls hl => ?_)
              refine lv_aload_n hx hb dX5_best_74 rfl (lv_at hl 1 rfl) ?_
              refine va_get (D := D) (ci := 5) (v := .long (bTp na nb (nI (ci + 1)) (nI di) mm ((ci + 1) * (ci + 1) + di * di) ((mbI na nb mm (ci + 1) (mbO na nb mm ((-1), 0, 1, bt, bb) ci) di).2.2.2.1) 4)) (C := RX5) (T := TX5) (N := 19) hx hb hts in_X5_best_X5 hown hK hP 0 rfl rfl 17 (by decide) hf152 (fun _ h9 => h9) rfl dX5_best_75 ?_
              refine lv_lstore_n (lv' := [(2, .long (bTp na nb (nI (ci + 1)) (nI di) mm ((ci + 1) * (ci + 1) + di * di) ((mbI na nb mm (ci + 1) (mbO na nb mm ((-1), 0, 1, bt, bb) ci) di).2.2.2.1) 4)), (1, .int ((10 * nI (ci + 1)) + nI di)), (0, .ref a0), (4, .long ((mbI na nb mm (ci + 1) (mbO na nb mm ((-1), 0, 1, bt, bb) ci) di).2.2.1)), (6, .int (nI (ci + 1))), (7, .int (nI di))]) hx hb dX5_best_78 rfl hl (by decide) rfl (fun ls hl => ?_)
              refine lv_aload_n hx hb dX5_best_79 rfl (lv_at hl 2 rfl) ?_
              refine va_get (D := D) (ci := 5) (v := .long (lN mm * lN ((ci + 1) * (ci + 1) + di * di) * lN mm * lN ((ci + 1) * (ci + 1) + di * di))) (C := RX5) (T := TX5) (N := 19) hx hb hts in_X5_best_X5 hown hK hP 0 rfl rfl 18 (by decide) hf148 (fun _ h9 => h9) rfl dX5_best_80 ?_
              refine lv_lstore (lv' := [(4, .long (lN mm * lN ((ci + 1) * (ci + 1) + di * di) * lN mm * lN ((ci + 1) * (ci + 1) + di * di))), (2, .long (bTp na nb (nI (ci + 1)) (nI di) mm ((ci + 1) * (ci + 1) + di * di) ((mbI na nb mm (ci + 1) (mbO na nb mm ((-1), 0, 1, bt, bb) ci) di).2.2.2.1) 4)), (1, .int ((10 * nI (ci + 1)) + nI di)), (0, .ref a0), (6, .int (nI (ci + 1))), (7, .int (nI di))]) hx hb dX5_best_83 hl (by decide) rfl (fun ls hl => ?_)
              refine lv_iinc (v := nI (di + 1)) (lv' := [(7, .int (nI (di + 1))), (4, .long (lN mm * lN ((ci + 1) * (ci + 1) + di * di) * lN mm * lN ((ci + 1) * (ci + 1) + di * di))), (2, .long (bTp na nb (nI (ci + 1)) (nI di) mm ((ci + 1) * (ci + 1) + di * di) ((mbI na nb mm (ci + 1) (mbO na nb mm ((-1), 0, 1, bt, bb) ci) di).2.2.2.1) 4)), (1, .int ((10 * nI (ci + 1)) + nI di)), (0, .ref a0), (6, .int (nI (ci + 1)))]) hx hb dX5_best_85 hl (k := 5) rfl (nI_1 _) (by decide) rfl (fun ls hl => ?_)
              refine lv_goto (tgt := 25) hx hb dX5_best_88 (by decide) ?_
              have eq_120 : ((10 * nI (ci + 1)) + nI di : Int32) = (mbI na nb mm (ci + 1) (mbO na nb mm ((-1), 0, 1, bt, bb) ci) (di + 1)).1 := by rw [mbI, mstep_t (Or.inr c_59)]; try rfl
              have eq_121 : (bTp na nb (nI (ci + 1)) (nI di) mm ((ci + 1) * (ci + 1) + di * di) ((mbI na nb mm (ci + 1) (mbO na nb mm ((-1), 0, 1, bt, bb) ci) di).2.2.2.1) 4 : Int64) = (mbI na nb mm (ci + 1) (mbO na nb mm ((-1), 0, 1, bt, bb) ci) (di + 1)).2.1 := by rw [mbI, mstep_t (Or.inr c_59)]; try rfl
              have eq_122 : (lN mm * lN ((ci + 1) * (ci + 1) + di * di) * lN mm * lN ((ci + 1) * (ci + 1) + di * di) : Int64) = (mbI na nb mm (ci + 1) (mbO na nb mm ((-1), 0, 1, bt, bb) ci) (di + 1)).2.2.1 := by rw [mbI, mstep_t (Or.inr c_59)]; try rfl
              have eq_123 : (bTp na nb (nI (ci + 1)) (nI di) mm ((ci + 1) * (ci + 1) + di * di) ((mbI na nb mm (ci + 1) (mbO na nb mm ((-1), 0, 1, bt, bb) ci) di).2.2.2.1) 4 : Int64) = (mbI na nb mm (ci + 1) (mbO na nb mm ((-1), 0, 1, bt, bb) ci) (di + 1)).2.2.2.1 := by rw [mbI, mstep_t (Or.inr c_59)]; try rfl
              have eq_124 : (lN mm * lN ((ci + 1) * (ci + 1) + di * di) * lN mm * lN ((ci + 1) * (ci + 1) + di * di) : Int64) = (mbI na nb mm (ci + 1) (mbO na nb mm ((-1), 0, 1, bt, bb) ci) (di + 1)).2.2.2.2 := by rw [mbI, mstep_t (Or.inr c_59)]; try rfl
              have eW : ([(a0, .inr (5, [.int 0, .int (nI Wd), .int (nI Hh), .int (nI nn), .int na, .int nb, .int rk, .int pr, .int bk, .ref a1, .ref a2, .ref a3, .ref a4, .ref a5, .ref a6, .ref a7, .int lo, .long (bTp na nb (nI (ci + 1)) (nI di) mm ((ci + 1) * (ci + 1) + di * di) ((mbI na nb mm (ci + 1) (mbO na nb mm ((-1), 0, 1, bt, bb) ci) di).2.2.2.1) 4), .long (lN mm * lN ((ci + 1) * (ci + 1) + di * di) * lN mm * lN ((ci + 1) * (ci + 1) + di * di))]))] : va_W) = [(a0, .inr (5, [.int 0, .int (nI Wd), .int (nI Hh), .int (nI nn), .int na, .int nb, .int rk, .int pr, .int bk, .ref a1, .ref a2, .ref a3, .ref a4, .ref a5, .ref a6, .ref a7, .int lo, .long ((mbI na nb mm (ci + 1) (mbO na nb mm ((-1), 0, 1, bt, bb) ci) (di + 1)).2.2.2.1), .long ((mbI na nb mm (ci + 1) (mbO na nb mm ((-1), 0, 1, bt, bb) ci) (di + 1)).2.2.2.2)]))] := (congr (congrArg List.cons (congrArg (fun z => ((a0, (Sum.inr (5, z) : va_E)) : Nat × va_E)) (congrArg (List.cons _) (congrArg (List.cons _) (congrArg (List.cons _) (congrArg (List.cons _) (congrArg (List.cons _) (congrArg (List.cons _) (congrArg (List.cons _) (congrArg (List.cons _) (congrArg (List.cons _) (congrArg (List.cons _) (congrArg (List.cons _) (congrArg (List.cons _) (congrArg (List.cons _) (congrArg (List.cons _) (congrArg (List.cons _) (congrArg (List.cons _) (congrArg (List.cons _) (congr (congrArg List.cons (congrArg Value.long eq_123)) (congr (congrArg List.cons (congrArg Value.long eq_124)) rfl))))))))))))))))))))) rfl)
              rw [eW] at hP hD
              have hl := lv_sub (l' := [(0, .ref a0), (1, .int ((10 * nI (ci + 1)) + nI di)), (2, .long (bTp na nb (nI (ci + 1)) (nI di) mm ((ci + 1) * (ci + 1) + di * di) ((mbI na nb mm (ci + 1) (mbO na nb mm ((-1), 0, 1, bt, bb) ci) di).2.2.2.1) 4)), (4, .long (lN mm * lN ((ci + 1) * (ci + 1) + di * di) * lN mm * lN ((ci + 1) * (ci + 1) + di * di))), (6, .int (nI (ci + 1))), (7, .int (nI (di + 1)))]) hl [4, 3, 2, 1, 5, 0] rfl
              have eL : ([(0, .ref a0), (1, .int ((10 * nI (ci + 1)) + nI di)), (2, .long (bTp na nb (nI (ci + 1)) (nI di) mm ((ci + 1) * (ci + 1) + di * di) ((mbI na nb mm (ci + 1) (mbO na nb mm ((-1), 0, 1, bt, bb) ci) di).2.2.2.1) 4)), (4, .long (lN mm * lN ((ci + 1) * (ci + 1) + di * di) * lN mm * lN ((ci + 1) * (ci + 1) + di * di))), (6, .int (nI (ci + 1))), (7, .int (nI (di + 1)))] : List (Nat × Value)) = [(0, .ref a0), (1, .int ((mbI na nb mm (ci + 1) (mbO na nb mm ((-1), 0, 1, bt, bb) ci) (di + 1)).1)), (2, .long ((mbI na nb mm (ci + 1) (mbO na nb mm ((-1), 0, 1, bt, bb) ci) (di + 1)).2.1)), (4, .long ((mbI na nb mm (ci + 1) (mbO na nb mm ((-1), 0, 1, bt, bb) ci) (di + 1)).2.2.1)), (6, .int (nI (ci + 1))), (7, .int (nI (di + 1)))] := (congrArg (List.cons _) (congr (congrArg List.cons (congrArg (fun z => (((1 : Nat), Value.int z) : Nat × Value)) eq_120)) (congr (congrArg List.cons (congrArg (fun z => (((2 : Nat), Value.long z) : Nat × Value)) eq_121)) (congr (congrArg List.cons (congrArg (fun z => (((4 : Nat), Value.long z) : Nat × Value)) eq_122)) (congrArg (List.cons _) (congrArg (List.cons _) rfl))))))
              rw [eL] at hl
              exact ih_25 (di + 1) (by omega)  _ _ _ hP hD hS hl
            · have c_59 : ¬ (mbI na nb mm (ci + 1) (mbO na nb mm ((-1), 0, 1, bt, bb) ci) di).2.1 * msW mm (ci + 1) di < msT na nb mm (ci + 1) di (mbI na nb mm (ci + 1) (mbO na nb mm ((-1), 0, 1, bt, bb) ci) di) * (mbI na nb mm (ci + 1) (mbO na nb mm ((-1), 0, 1, bt, bb) ci) di).2.2.1 := fun h => c_59 ((lg_cmp_gt _ _).mpr h)
              refine lv_goto (tgt := 85) hx hb dX5_best_62 (by decide) ?_
              refine lv_iinc (v := nI (di + 1)) (lv' := [(7, .int (nI (di + 1))), (0, .ref a0), (1, .int ((mbI na nb mm (ci + 1) (mbO na nb mm ((-1), 0, 1, bt, bb) ci) di).1)), (2, .long ((mbI na nb mm (ci + 1) (mbO na nb mm ((-1), 0, 1, bt, bb) ci) di).2.1)), (4, .long ((mbI na nb mm (ci + 1) (mbO na nb mm ((-1), 0, 1, bt, bb) ci) di).2.2.1)), (6, .int (nI (ci + 1)))]) hx hb dX5_best_85 hl (k := 5) rfl (nI_1 _) (by decide) rfl (fun ls hl => ?_)
              refine lv_goto (tgt := 25) hx hb dX5_best_88 (by decide) ?_
              have eq_135 : ((mbI na nb mm (ci + 1) (mbO na nb mm ((-1), 0, 1, bt, bb) ci) di).1 : Int32) = (mbI na nb mm (ci + 1) (mbO na nb mm ((-1), 0, 1, bt, bb) ci) (di + 1)).1 := by rw [mbI, mstep_f c_42 c_59]; try rfl
              have eq_136 : ((mbI na nb mm (ci + 1) (mbO na nb mm ((-1), 0, 1, bt, bb) ci) di).2.1 : Int64) = (mbI na nb mm (ci + 1) (mbO na nb mm ((-1), 0, 1, bt, bb) ci) (di + 1)).2.1 := by rw [mbI, mstep_f c_42 c_59]; try rfl
              have eq_137 : ((mbI na nb mm (ci + 1) (mbO na nb mm ((-1), 0, 1, bt, bb) ci) di).2.2.1 : Int64) = (mbI na nb mm (ci + 1) (mbO na nb mm ((-1), 0, 1, bt, bb) ci) (di + 1)).2.2.1 := by rw [mbI, mstep_f c_42 c_59]; try rfl
              have eq_138 : (bTp na nb (nI (ci + 1)) (nI di) mm ((ci + 1) * (ci + 1) + di * di) ((mbI na nb mm (ci + 1) (mbO na nb mm ((-1), 0, 1, bt, bb) ci) di).2.2.2.1) 4 : Int64) = (mbI na nb mm (ci + 1) (mbO na nb mm ((-1), 0, 1, bt, bb) ci) (di + 1)).2.2.2.1 := by rw [mbI, mstep_f c_42 c_59]; try rfl
              have eq_139 : (lN mm * lN ((ci + 1) * (ci + 1) + di * di) * lN mm * lN ((ci + 1) * (ci + 1) + di * di) : Int64) = (mbI na nb mm (ci + 1) (mbO na nb mm ((-1), 0, 1, bt, bb) ci) (di + 1)).2.2.2.2 := by rw [mbI, mstep_f c_42 c_59]; try rfl
              have eW : ([(a0, .inr (5, [.int 0, .int (nI Wd), .int (nI Hh), .int (nI nn), .int na, .int nb, .int rk, .int pr, .int bk, .ref a1, .ref a2, .ref a3, .ref a4, .ref a5, .ref a6, .ref a7, .int lo, .long (bTp na nb (nI (ci + 1)) (nI di) mm ((ci + 1) * (ci + 1) + di * di) ((mbI na nb mm (ci + 1) (mbO na nb mm ((-1), 0, 1, bt, bb) ci) di).2.2.2.1) 4), .long (lN mm * lN ((ci + 1) * (ci + 1) + di * di) * lN mm * lN ((ci + 1) * (ci + 1) + di * di))]))] : va_W) = [(a0, .inr (5, [.int 0, .int (nI Wd), .int (nI Hh), .int (nI nn), .int na, .int nb, .int rk, .int pr, .int bk, .ref a1, .ref a2, .ref a3, .ref a4, .ref a5, .ref a6, .ref a7, .int lo, .long ((mbI na nb mm (ci + 1) (mbO na nb mm ((-1), 0, 1, bt, bb) ci) (di + 1)).2.2.2.1), .long ((mbI na nb mm (ci + 1) (mbO na nb mm ((-1), 0, 1, bt, bb) ci) (di + 1)).2.2.2.2)]))] := (congr (congrArg List.cons (congrArg (fun z => ((a0, (Sum.inr (5, z) : va_E)) : Nat × va_E)) (congrArg (List.cons _) (congrArg (List.cons _) (congrArg (List.cons _) (congrArg (List.cons _) (congrArg (List.cons _) (congrArg (List.cons _) (congrArg (List.cons _) (congrArg (List.cons _) (congrArg (List.cons _) (congrArg (List.cons _) (congrArg (List.cons _) (congrArg (List.cons _) (congrArg (List.cons _) (congrArg (List.cons _) (congrArg (List.cons _) (congrArg (List.cons _) (congrArg (List.cons _) (congr (congrArg List.cons (congrArg Value.long eq_138)) (congr (congrArg List.cons (congrArg Value.long eq_139)) rfl))))))))))))))))))))) rfl)
              rw [eW] at hP hD
              have hl := lv_sub (l' := [(0, .ref a0), (1, .int ((mbI na nb mm (ci + 1) (mbO na nb mm ((-1), 0, 1, bt, bb) ci) di).1)), (2, .long ((mbI na nb mm (ci + 1) (mbO na nb mm ((-1), 0, 1, bt, bb) ci) di).2.1)), (4, .long ((mbI na nb mm (ci + 1) (mbO na nb mm ((-1), 0, 1, bt, bb) ci) di).2.2.1)), (6, .int (nI (ci + 1))), (7, .int (nI (di + 1)))]) hl [1, 2, 3, 4, 5, 0] rfl
              have eL : ([(0, .ref a0), (1, .int ((mbI na nb mm (ci + 1) (mbO na nb mm ((-1), 0, 1, bt, bb) ci) di).1)), (2, .long ((mbI na nb mm (ci + 1) (mbO na nb mm ((-1), 0, 1, bt, bb) ci) di).2.1)), (4, .long ((mbI na nb mm (ci + 1) (mbO na nb mm ((-1), 0, 1, bt, bb) ci) di).2.2.1)), (6, .int (nI (ci + 1))), (7, .int (nI (di + 1)))] : List (Nat × Value)) = [(0, .ref a0), (1, .int ((mbI na nb mm (ci + 1) (mbO na nb mm ((-1), 0, 1, bt, bb) ci) (di + 1)).1)), (2, .long ((mbI na nb mm (ci + 1) (mbO na nb mm ((-1), 0, 1, bt, bb) ci) (di + 1)).2.1)), (4, .long ((mbI na nb mm (ci + 1) (mbO na nb mm ((-1), 0, 1, bt, bb) ci) (di + 1)).2.2.1)), (6, .int (nI (ci + 1))), (7, .int (nI (di + 1)))] := (congrArg (List.cons _) (congr (congrArg List.cons (congrArg (fun z => (((1 : Nat), Value.int z) : Nat × Value)) eq_135)) (congr (congrArg List.cons (congrArg (fun z => (((2 : Nat), Value.long z) : Nat × Value)) eq_136)) (congr (congrArg List.cons (congrArg (fun z => (((4 : Nat), Value.long z) : Nat × Value)) eq_137)) (congrArg (List.cons _) (congrArg (List.cons _) rfl))))))
              rw [eL] at hl
              exact ih_25 (di + 1) (by omega)  _ _ _ hP hD hS hl
      have eq_146 : ((mbO na nb mm ((-1), 0, 1, bt, bb) ci).1 : Int32) = (mbI na nb mm (ci + 1) (mbO na nb mm ((-1), 0, 1, bt, bb) ci) 0).1 := rfl
      have eq_147 : ((mbO na nb mm ((-1), 0, 1, bt, bb) ci).2.1 : Int64) = (mbI na nb mm (ci + 1) (mbO na nb mm ((-1), 0, 1, bt, bb) ci) 0).2.1 := rfl
      have eq_148 : ((mbO na nb mm ((-1), 0, 1, bt, bb) ci).2.2.1 : Int64) = (mbI na nb mm (ci + 1) (mbO na nb mm ((-1), 0, 1, bt, bb) ci) 0).2.2.1 := rfl
      have eq_149 : (0 : Int32) = nI 0 := rfl
      have eq_150 : ((mbO na nb mm ((-1), 0, 1, bt, bb) ci).2.2.2.1 : Int64) = (mbI na nb mm (ci + 1) (mbO na nb mm ((-1), 0, 1, bt, bb) ci) 0).2.2.2.1 := rfl
      have eq_151 : ((mbO na nb mm ((-1), 0, 1, bt, bb) ci).2.2.2.2 : Int64) = (mbI na nb mm (ci + 1) (mbO na nb mm ((-1), 0, 1, bt, bb) ci) 0).2.2.2.2 := rfl
      have eW : ([(a0, .inr (5, [.int 0, .int (nI Wd), .int (nI Hh), .int (nI nn), .int na, .int nb, .int rk, .int pr, .int bk, .ref a1, .ref a2, .ref a3, .ref a4, .ref a5, .ref a6, .ref a7, .int lo, .long ((mbO na nb mm ((-1), 0, 1, bt, bb) ci).2.2.2.1), .long ((mbO na nb mm ((-1), 0, 1, bt, bb) ci).2.2.2.2)]))] : va_W) = [(a0, .inr (5, [.int 0, .int (nI Wd), .int (nI Hh), .int (nI nn), .int na, .int nb, .int rk, .int pr, .int bk, .ref a1, .ref a2, .ref a3, .ref a4, .ref a5, .ref a6, .ref a7, .int lo, .long ((mbI na nb mm (ci + 1) (mbO na nb mm ((-1), 0, 1, bt, bb) ci) 0).2.2.2.1), .long ((mbI na nb mm (ci + 1) (mbO na nb mm ((-1), 0, 1, bt, bb) ci) 0).2.2.2.2)]))] := (congr (congrArg List.cons (congrArg (fun z => ((a0, (Sum.inr (5, z) : va_E)) : Nat × va_E)) (congrArg (List.cons _) (congrArg (List.cons _) (congrArg (List.cons _) (congrArg (List.cons _) (congrArg (List.cons _) (congrArg (List.cons _) (congrArg (List.cons _) (congrArg (List.cons _) (congrArg (List.cons _) (congrArg (List.cons _) (congrArg (List.cons _) (congrArg (List.cons _) (congrArg (List.cons _) (congrArg (List.cons _) (congrArg (List.cons _) (congrArg (List.cons _) (congrArg (List.cons _) (congr (congrArg List.cons (congrArg Value.long eq_150)) (congr (congrArg List.cons (congrArg Value.long eq_151)) rfl))))))))))))))))))))) rfl)
      rw [eW] at hP hD
      have hl := lv_sub (l' := [(0, .ref a0), (1, .int ((mbO na nb mm ((-1), 0, 1, bt, bb) ci).1)), (2, .long ((mbO na nb mm ((-1), 0, 1, bt, bb) ci).2.1)), (4, .long ((mbO na nb mm ((-1), 0, 1, bt, bb) ci).2.2.1)), (6, .int (nI (ci + 1))), (7, .int 0)]) hl [1, 2, 3, 4, 5, 0] rfl
      have eL : ([(0, .ref a0), (1, .int ((mbO na nb mm ((-1), 0, 1, bt, bb) ci).1)), (2, .long ((mbO na nb mm ((-1), 0, 1, bt, bb) ci).2.1)), (4, .long ((mbO na nb mm ((-1), 0, 1, bt, bb) ci).2.2.1)), (6, .int (nI (ci + 1))), (7, .int 0)] : List (Nat × Value)) = [(0, .ref a0), (1, .int ((mbI na nb mm (ci + 1) (mbO na nb mm ((-1), 0, 1, bt, bb) ci) 0).1)), (2, .long ((mbI na nb mm (ci + 1) (mbO na nb mm ((-1), 0, 1, bt, bb) ci) 0).2.1)), (4, .long ((mbI na nb mm (ci + 1) (mbO na nb mm ((-1), 0, 1, bt, bb) ci) 0).2.2.1)), (6, .int (nI (ci + 1))), (7, .int (nI 0))] := (congrArg (List.cons _) (congr (congrArg List.cons (congrArg (fun z => (((1 : Nat), Value.int z) : Nat × Value)) eq_146)) (congr (congrArg List.cons (congrArg (fun z => (((2 : Nat), Value.long z) : Nat × Value)) eq_147)) (congr (congrArg List.cons (congrArg (fun z => (((4 : Nat), Value.long z) : Nat × Value)) eq_148)) (congrArg (List.cons _) (congr (congrArg List.cons (congrArg (fun z => (((7 : Nat), Value.int z) : Nat × Value)) eq_149)) rfl))))))
      rw [eL] at hl
      exact L25 _ 0 (Nat.zero_add _)  _ _ _ hP hD hS hl
  have eq_158 : (-1 : Int32) = (mbO na nb mm ((-1), 0, 1, bt, bb) 0).1 := rfl
  have eq_159 : (0 : Int64) = (mbO na nb mm ((-1), 0, 1, bt, bb) 0).2.1 := rfl
  have eq_160 : (1 : Int64) = (mbO na nb mm ((-1), 0, 1, bt, bb) 0).2.2.1 := rfl
  have eq_161 : (1 : Int32) = nI (0 + 1) := rfl
  have eq_162 : (bt : Int64) = (mbO na nb mm ((-1), 0, 1, bt, bb) 0).2.2.2.1 := rfl
  have eq_163 : (bb : Int64) = (mbO na nb mm ((-1), 0, 1, bt, bb) 0).2.2.2.2 := rfl
  have eW : ([(a0, .inr (5, [.int 0, .int (nI Wd), .int (nI Hh), .int (nI nn), .int na, .int nb, .int rk, .int pr, .int bk, .ref a1, .ref a2, .ref a3, .ref a4, .ref a5, .ref a6, .ref a7, .int lo, .long bt, .long bb]))] : va_W) = [(a0, .inr (5, [.int 0, .int (nI Wd), .int (nI Hh), .int (nI nn), .int na, .int nb, .int rk, .int pr, .int bk, .ref a1, .ref a2, .ref a3, .ref a4, .ref a5, .ref a6, .ref a7, .int lo, .long ((mbO na nb mm ((-1), 0, 1, bt, bb) 0).2.2.2.1), .long ((mbO na nb mm ((-1), 0, 1, bt, bb) 0).2.2.2.2)]))] := (congr (congrArg List.cons (congrArg (fun z => ((a0, (Sum.inr (5, z) : va_E)) : Nat × va_E)) (congrArg (List.cons _) (congrArg (List.cons _) (congrArg (List.cons _) (congrArg (List.cons _) (congrArg (List.cons _) (congrArg (List.cons _) (congrArg (List.cons _) (congrArg (List.cons _) (congrArg (List.cons _) (congrArg (List.cons _) (congrArg (List.cons _) (congrArg (List.cons _) (congrArg (List.cons _) (congrArg (List.cons _) (congrArg (List.cons _) (congrArg (List.cons _) (congrArg (List.cons _) (congr (congrArg List.cons (congrArg Value.long eq_162)) (congr (congrArg List.cons (congrArg Value.long eq_163)) rfl))))))))))))))))))))) rfl)
  rw [eW] at hP hD
  have hl := lv_sub (l' := [(0, .ref a0), (1, .int (-1)), (2, .long 0), (4, .long 1), (6, .int 1)]) hl [4, 3, 2, 1, 0] rfl
  have eL : ([(0, .ref a0), (1, .int (-1)), (2, .long 0), (4, .long 1), (6, .int 1)] : List (Nat × Value)) = [(0, .ref a0), (1, .int ((mbO na nb mm ((-1), 0, 1, bt, bb) 0).1)), (2, .long ((mbO na nb mm ((-1), 0, 1, bt, bb) 0).2.1)), (4, .long ((mbO na nb mm ((-1), 0, 1, bt, bb) 0).2.2.1)), (6, .int (nI (0 + 1)))] := (congrArg (List.cons _) (congr (congrArg List.cons (congrArg (fun z => (((1 : Nat), Value.int z) : Nat × Value)) eq_158)) (congr (congrArg List.cons (congrArg (fun z => (((2 : Nat), Value.long z) : Nat × Value)) eq_159)) (congr (congrArg List.cons (congrArg (fun z => (((4 : Nat), Value.long z) : Nat × Value)) eq_160)) (congr (congrArg List.cons (congrArg (fun z => (((6 : Nat), Value.int z) : Nat × Value)) eq_161)) rfl)))))
  rw [eL] at hl
  exact L15 _ 0 (Nat.zero_add _)  _ _ _ hP hD hS hl
