/-! the reference: cost, worth, even -/
theorem fs1_00 (w : Nat → Nat → Int64) (N : Nat) : (-1 : Int32) = fs1 (sbO w N 0) := (fs1_f (by show ¬ (0 : Int64) < 0; decide)).symm
theorem fs2_00 (w : Nat → Nat → Int64) (N : Nat) : (-1 : Int32) = fs2 (sbO w N 0) := (if_neg (by show ¬ (0 : Int64) < 0; decide)).symm
theorem fs1_y {w : Int64} {i j : Nat} (h : 0 < w) : nI i = fs1 (w, i, j) := (if_pos (show 0 < ((w, i, j) : Int64 × Nat × Nat).1 from h)).symm
theorem fs2_y {w : Int64} {i j : Nat} (h : 0 < w) : nI j = fs2 (w, i, j) := (if_pos (show 0 < ((w, i, j) : Int64 × Nat × Nat).1 from h)).symm
theorem nI_nm1 {j : Nat} (hj : j < 2 ^ 31) : ¬ nI j = (-1) := by
  intro h
  have h1 := congrArg Int32.toInt h
  rw [nI_toInt hj] at h1
  have h2 : ((-1 : Int32)).toInt = -1 := by decide
  rw [h2] at h1
  omega
abbrev rm_X5_round : Room := { frames := 1, cells := 0, slots := 0, locals := 13 }
theorem in_X5_round_X5 : ∀ w ∈ u_ws RX5 TX5 19, w ∈ wsX5_round := by decide +kernel
set_option maxHeartbeats 4000000 in
set_option maxRecDepth 100000 in
theorem ct_X5_round (l : Launch) (D : va_G) (cyI cyZ : ClassId) (a0 a1 a2 a3 a4 a5 a6 a7 : Nat) (sz : Nat) (th : Int32) (Wd Hh nn : Nat) (na nb rk pr bk lo : Int32) (bt bb : Int64) (x : Int32)  : Met l yX5_round wsX5_round rm_X5_round (xk_Pc D cyI cyZ [.ref a0, .int x] [(a0, .inr (5, [.int th, .int (nI Wd), .int (nI Hh), .int (nI nn), .int na, .int nb, .int rk, .int pr, .int bk, .ref a1, .ref a2, .ref a3, .ref a4, .ref a5, .ref a6, .ref a7, .int lo, .long bt, .long bb]))] sz) (xk_Qi D (va_A [(a0, .inr (5, [.int th, .int (nI Wd), .int (nI Hh), .int (nI nn), .int na, .int nb, .int rk, .int pr, .int bk, .ref a1, .ref a2, .ref a3, .ref a4, .ref a5, .ref a6, .ref a7, .int lo, .long bt, .long bb]))] sz) (mnI (abI x) (nI nn - abI x)) [(a0, .inr (5, [.int th, .int (nI Wd), .int (nI Hh), .int (nI nn), .int na, .int nb, .int rk, .int pr, .int bk, .ref a1, .ref a2, .ref a3, .ref a4, .ref a5, .ref a6, .ref a7, .int lo, .long bt, .long bb]))]) 0 0 (va_A [(a0, .inr (5, [.int th, .int (nI Wd), .int (nI Hh), .int (nI nn), .int na, .int nb, .int rk, .int pr, .int bk, .ref a1, .ref a2, .ref a3, .ref a4, .ref a5, .ref a6, .ref a7, .int lo, .long bt, .long bb]))] sz) := by
  refine xk_of (own := RX5) (cc := cX5_round) (maxL := 3) (ret := (some .int)) (Qc := fun A => xk_Qi D A (mnI (abI x) (nI nn - abI x)) [(a0, .inr (5, [.int th, .int (nI Wd), .int (nI Hh), .int (nI nn), .int na, .int nb, .int rk, .int pr, .int bk, .ref a1, .ref a2, .ref a3, .ref a4, .ref a5, .ref a6, .ref a7, .int lo, .long bt, .long bb]))]) (by decide) rfl rfl (Nat.le_of_ble_eq_true rfl) ?_
  intro p e s m below meth c A ls hx hb hr hml hown hlocks hin hts hA hP hK hN hD hS hl
  have hC0 := xk_fix hx hb hml hown hts
  have hl : lv_has ls 3 [(0, .ref a0), (1, .int x)] := hl
  have hf16 := hts (.fieldLink RX5 16 "DotPressModel" "n" "I") (by decide +kernel)
  refine lv_iload_n hx hb dX5_round_0 rfl (lv_at hl 1 rfl) ?_
  refine va_mabs hx hb (hml.trans hl.1.symm) hown (hts (.methodLink RX5 82 Lib.Math.abs.name) (by decide +kernel)) (hts (.static Lib.Math.abs.name) (by decide +kernel)) (hts (.initialized "java/lang/Math") (by decide +kernel)) (hts (.code Lib.Math.abs.name Lib.Math.abs.code 1 (some .int)) (by decide +kernel)) (Nat.le_of_ble_eq_true rfl) (Nat.le_of_ble_eq_true rfl) (Nat.zero_le _) (Nat.zero_le _) dX5_round_1 ?_
  refine xk_topi (y := abI x) (rfl) ?_
  refine lv_istore_n (lv' := [(2, .int (abI x)), (0, .ref a0), (1, .int x)]) hx hb dX5_round_4 rfl hl (by decide) rfl (fun ls hl => ?_)
  refine lv_iload_n hx hb dX5_round_5 rfl (lv_at hl 0 rfl) ?_
  refine lv_aload_n hx hb dX5_round_6 rfl (lv_at hl 1 rfl) ?_
  refine va_get (D := D) (ci := 5) (v := .int (nI nn)) (C := RX5) (T := TX5) (N := 19) hx hb hts in_X5_round_X5 hown hK hP 0 rfl rfl 3 (by decide) hf16 (fun _ h9 => h9) rfl dX5_round_7 ?_
  refine lv_iload_n hx hb dX5_round_10 rfl (lv_at hl 0 rfl) ?_
  refine lv_isub hx hb dX5_round_11 ?_
  refine va_mmin hx hb (hml.trans hl.1.symm) hown (hts (.methodLink RX5 66 Lib.Math.min.name) (by decide +kernel)) (hts (.static Lib.Math.min.name) (by decide +kernel)) (hts (.initialized "java/lang/Math") (by decide +kernel)) (hts (.code Lib.Math.min.name Lib.Math.min.code 2 (some .int)) (by decide +kernel)) (Nat.le_of_ble_eq_true rfl) (Nat.le_of_ble_eq_true rfl) (Nat.zero_le _) (Nat.zero_le _) dX5_round_12 ?_
  refine xk_topi (y := mnI (abI x) (nI nn - abI x)) (rfl) ?_
  exact xk_iret hx hb hr hlocks hP hD hS (rfl) (rfl) dX5_round_15

abbrev rm_X5_costNow : Room := { frames := 2, cells := 0, slots := 0, locals := 35 }
theorem in_X5_costNow_X5 : ∀ w ∈ u_ws RX5 TX5 19, w ∈ wsX5_costNow := by decide +kernel
set_option maxHeartbeats 4000000 in
set_option maxRecDepth 100000 in
theorem ct_X5_costNow (l : Launch) (D : va_G) (cyI cyZ : ClassId) (a0 a1 a2 a3 a4 a5 a6 a7 : Nat) (sz : Nat) (th : Int32) (Wd Hh nn : Nat) (na nb rk pr bk lo : Int32) (bt bb : Int64) (nu : Nat → Int32) (hn1 : 1 ≤ nn) (hn2 : nn ≤ 8) : Met l yX5_costNow wsX5_costNow rm_X5_costNow (xk_Pc D cyI cyZ [.ref a0] [(a0, .inr (5, [.int th, .int (nI Wd), .int (nI Hh), .int (nI nn), .int na, .int nb, .int rk, .int pr, .int bk, .ref a1, .ref a2, .ref a3, .ref a4, .ref a5, .ref a6, .ref a7, .int lo, .long bt, .long bb])), (a2, .inl (cyI, 64, .inl nu))] sz) (xk_Ql D (va_A [(a0, .inr (5, [.int th, .int (nI Wd), .int (nI Hh), .int (nI nn), .int na, .int nb, .int rk, .int pr, .int bk, .ref a1, .ref a2, .ref a3, .ref a4, .ref a5, .ref a6, .ref a7, .int lo, .long bt, .long bb])), (a2, .inl (cyI, 64, .inl nu))] sz) (csO nn nu (nn * nn)) [(a0, .inr (5, [.int th, .int (nI Wd), .int (nI Hh), .int (nI nn), .int na, .int nb, .int rk, .int pr, .int bk, .ref a1, .ref a2, .ref a3, .ref a4, .ref a5, .ref a6, .ref a7, .int lo, .long bt, .long bb])), (a2, .inl (cyI, 64, .inl nu))]) 0 0 (va_A [(a0, .inr (5, [.int th, .int (nI Wd), .int (nI Hh), .int (nI nn), .int na, .int nb, .int rk, .int pr, .int bk, .ref a1, .ref a2, .ref a3, .ref a4, .ref a5, .ref a6, .ref a7, .int lo, .long bt, .long bb])), (a2, .inl (cyI, 64, .inl nu))] sz) := by
  refine xk_of (own := RX5) (cc := cX5_costNow) (maxL := 7) (ret := (some .long)) (Qc := fun A => xk_Ql D A (csO nn nu (nn * nn)) [(a0, .inr (5, [.int th, .int (nI Wd), .int (nI Hh), .int (nI nn), .int na, .int nb, .int rk, .int pr, .int bk, .ref a1, .ref a2, .ref a3, .ref a4, .ref a5, .ref a6, .ref a7, .int lo, .long bt, .long bb])), (a2, .inl (cyI, 64, .inl nu))]) (by decide) rfl rfl (Nat.le_of_ble_eq_true rfl) ?_
  intro p e s m below meth c A ls hx hb hr hml hown hlocks hin hts hA hP hK hN hD hS hl
  have hC0 := xk_fix hx hb hml hown hts
  have hl : lv_has ls 7 [(0, .ref a0)] := hl
  have hf16 := hts (.fieldLink RX5 16 "DotPressModel" "n" "I") (by decide +kernel)
  have hf32 := hts (.fieldLink RX5 32 "DotPressModel" "number" "[I") (by decide +kernel)
  have hq := nn_64 hn2
  have hq1 := nn_1 hn1
  refine lv_lconst (v := 0) hx hb dX5_costNow_0 (by decide) ?_
  refine lv_lstore_n (lv' := [(1, .long 0), (0, .ref a0)]) hx hb dX5_costNow_1 rfl hl (by decide) rfl (fun ls hl => ?_)
  refine lv_iconst (v := 0) hx hb dX5_costNow_2 (by decide) ?_
  refine lv_istore_n (lv' := [(3, .int 0), (1, .long 0), (0, .ref a0)]) hx hb dX5_costNow_3 rfl hl (by decide) rfl (fun ls hl => ?_)
  have L4 : ∀ (n k : Nat), k + n = (nn * nn) → ∀ (H : Heap) (locs : List Loc) (ls : Array Slot), va_P D vwCl [(a0, .inr (5, [.int th, .int (nI Wd), .int (nI Hh), .int (nI nn), .int na, .int nb, .int rk, .int pr, .int bk, .ref a1, .ref a2, .ref a3, .ref a4, .ref a5, .ref a6, .ref a7, .int lo, .long bt, .long bb])), (a2, .inl (cyI, 64, .inl nu))] H → va_D A [(a0, .inr (5, [.int th, .int (nI Wd), .int (nI Hh), .int (nI nn), .int na, .int nb, .int rk, .int pr, .int bk, .ref a1, .ref a2, .ref a3, .ref a4, .ref a5, .ref a6, .ref a7, .int lo, .long bt, .long bb])), (a2, .inl (cyI, 64, .inl nu))] → va_S A s.heap H locs → lv_has ls 7 [(0, .ref a0), (1, .long (csO nn nu k)), (3, .int (nI k))] → W p l e rm_X5_costNow s m ([.ref a0] : List Value).toArray below meth c H locs 0 0 (MQ below (xk_Ql D A (csO nn nu (nn * nn)) [(a0, .inr (5, [.int th, .int (nI Wd), .int (nI Hh), .int (nI nn), .int na, .int nb, .int rk, .int pr, .int bk, .ref a1, .ref a2, .ref a3, .ref a4, .ref a5, .ref a6, .ref a7, .int lo, .long bt, .long bb])), (a2, .inl (cyI, 64, .inl nu))]) ([.ref a0] : List Value).toArray s 0 0 A) (F0 m 4 ls []) := by
    intro n
    induction n with
    | zero =>
      intro k hk_4  H locs ls hP hD hS hl
      have hz_4 : nn * nn = k := hk_4.symm
      subst hz_4
      refine lv_iload_n hx hb dX5_costNow_4 rfl (lv_at hl 2 rfl) ?_
      refine lv_aload_n hx hb dX5_costNow_5 rfl (lv_at hl 0 rfl) ?_
      refine va_get (D := D) (ci := 5) (v := .int (nI nn)) (C := RX5) (T := TX5) (N := 19) hx hb hts in_X5_costNow_X5 hown hK hP 0 rfl rfl 3 (by decide) hf16 (fun _ h9 => h9) rfl dX5_costNow_6 ?_
      refine lv_aload_n hx hb dX5_costNow_9 rfl (lv_at hl 0 rfl) ?_
      refine va_get (D := D) (ci := 5) (v := .int (nI nn)) (C := RX5) (T := TX5) (N := 19) hx hb hts in_X5_costNow_X5 hown hK hP 0 rfl rfl 3 (by decide) hf16 (fun _ h9 => h9) rfl dX5_costNow_10 ?_
      refine lv_imul hx hb dX5_costNow_13 ?_
      refine xk_topi (y := nI (nn * nn)) (pk_mul _ _) ?_
      refine lv_icmp_ge (tgt := 125) hx hb dX5_costNow_14 (by decide) (fun c_14 => ?_) (fun c_14 => xk_ba c_14 (nI_le (Nat.le_refl _) (by omega)))
      refine lv_lload_n hx hb dX5_costNow_125 rfl (lv_at hl 1 rfl) ?_
      exact xk_lret hx hb hr hlocks hP hD hS (rfl) (rfl) dX5_costNow_126
    | succ n ih_4 =>
      intro k hk_4  H locs ls hP hD hS hl
      refine lv_iload_n hx hb dX5_costNow_4 rfl (lv_at hl 2 rfl) ?_
      refine lv_aload_n hx hb dX5_costNow_5 rfl (lv_at hl 0 rfl) ?_
      refine va_get (D := D) (ci := 5) (v := .int (nI nn)) (C := RX5) (T := TX5) (N := 19) hx hb hts in_X5_costNow_X5 hown hK hP 0 rfl rfl 3 (by decide) hf16 (fun _ h9 => h9) rfl dX5_costNow_6 ?_
      refine lv_aload_n hx hb dX5_costNow_9 rfl (lv_at hl 0 rfl) ?_
      refine va_get (D := D) (ci := 5) (v := .int (nI nn)) (C := RX5) (T := TX5) (N := 19) hx hb hts in_X5_costNow_X5 hown hK hP 0 rfl rfl 3 (by decide) hf16 (fun _ h9 => h9) rfl dX5_costNow_10 ?_
      refine lv_imul hx hb dX5_costNow_13 ?_
      refine xk_topi (y := nI (nn * nn)) (pk_mul _ _) ?_
      refine lv_icmp_ge (tgt := 125) hx hb dX5_costNow_14 (by decide) (fun c_14 => xk_ab c_14 (nI_ge (by omega) (by omega))) (fun c_14 => ?_)
      refine lv_iconst (v := 0) hx hb dX5_costNow_17 (by decide) ?_
      refine lv_istore (lv' := [(4, .int 0), (0, .ref a0), (1, .long (csO nn nu k)), (3, .int (nI k))]) hx hb dX5_costNow_18 hl (by decide) rfl (fun ls hl => ?_)
      have L20 : ∀ (n q : Nat), q + n = k → ∀ (H : Heap) (locs : List Loc) (ls : Array Slot), va_P D vwCl [(a0, .inr (5, [.int th, .int (nI Wd), .int (nI Hh), .int (nI nn), .int na, .int nb, .int rk, .int pr, .int bk, .ref a1, .ref a2, .ref a3, .ref a4, .ref a5, .ref a6, .ref a7, .int lo, .long bt, .long bb])), (a2, .inl (cyI, 64, .inl nu))] H → va_D A [(a0, .inr (5, [.int th, .int (nI Wd), .int (nI Hh), .int (nI nn), .int na, .int nb, .int rk, .int pr, .int bk, .ref a1, .ref a2, .ref a3, .ref a4, .ref a5, .ref a6, .ref a7, .int lo, .long bt, .long bb])), (a2, .inl (cyI, 64, .inl nu))] → va_S A s.heap H locs → lv_has ls 7 [(0, .ref a0), (1, .long (csI nn nu k (csO nn nu k) q)), (3, .int (nI k)), (4, .int (nI q))] → W p l e rm_X5_costNow s m ([.ref a0] : List Value).toArray below meth c H locs 0 0 (MQ below (xk_Ql D A (csO nn nu (nn * nn)) [(a0, .inr (5, [.int th, .int (nI Wd), .int (nI Hh), .int (nI nn), .int na, .int nb, .int rk, .int pr, .int bk, .ref a1, .ref a2, .ref a3, .ref a4, .ref a5, .ref a6, .ref a7, .int lo, .long bt, .long bb])), (a2, .inl (cyI, 64, .inl nu))]) ([.ref a0] : List Value).toArray s 0 0 A) (F0 m 20 ls []) := by
        intro n
        induction n with
        | zero =>
          intro q hk_20  H locs ls hP hD hS hl
          have hz_20 : k = q := hk_20.symm
          subst hz_20
          refine lv_iload hx hb dX5_costNow_20 (lv_at hl 3 rfl) ?_
          refine lv_iload_n hx hb dX5_costNow_22 rfl (lv_at hl 2 rfl) ?_
          refine lv_icmp_ge (tgt := 119) hx hb dX5_costNow_23 (by decide) (fun c_23 => ?_) (fun c_23 => xk_ba c_23 (nI_le (Nat.le_refl _) (by omega)))
          refine lv_iinc (v := nI (k + 1)) (lv' := [(3, .int (nI (k + 1))), (0, .ref a0), (1, .long (csI nn nu k (csO nn nu k) k)), (4, .int (nI k))]) hx hb dX5_costNow_119 hl (k := 2) rfl (nI_1 _) (by decide) rfl (fun ls hl => ?_)
          refine lv_goto (tgt := 4) hx hb dX5_costNow_122 (by decide) ?_
          have eq_45 : (csI nn nu k (csO nn nu k) k : Int64) = csO nn nu (k + 1) := rfl
          have hl := lv_sub (l' := [(0, .ref a0), (1, .long (csI nn nu k (csO nn nu k) k)), (3, .int (nI (k + 1)))]) hl [1, 2, 0] rfl
          have eL : ([(0, .ref a0), (1, .long (csI nn nu k (csO nn nu k) k)), (3, .int (nI (k + 1)))] : List (Nat × Value)) = [(0, .ref a0), (1, .long (csO nn nu (k + 1))), (3, .int (nI (k + 1)))] := (congrArg (List.cons _) (congr (congrArg List.cons (congrArg (fun z => (((1 : Nat), Value.long z) : Nat × Value)) eq_45)) (congrArg (List.cons _) rfl)))
          rw [eL] at hl
          exact ih_4 (k + 1) (by omega)  _ _ _ hP hD hS hl
        | succ n ih_20 =>
          intro q hk_20  H locs ls hP hD hS hl
          refine lv_iload hx hb dX5_costNow_20 (lv_at hl 3 rfl) ?_
          refine lv_iload_n hx hb dX5_costNow_22 rfl (lv_at hl 2 rfl) ?_
          refine lv_icmp_ge (tgt := 119) hx hb dX5_costNow_23 (by decide) (fun c_23 => xk_ab c_23 (nI_ge (by omega) (by omega))) (fun c_23 => ?_)
          refine lv_aload_n hx hb dX5_costNow_26 rfl (lv_at hl 0 rfl) ?_
          refine lv_iload_n hx hb dX5_costNow_27 rfl (lv_at hl 2 rfl) ?_
          refine lv_aload_n hx hb dX5_costNow_28 rfl (lv_at hl 0 rfl) ?_
          refine va_get (D := D) (ci := 5) (v := .int (nI nn)) (C := RX5) (T := TX5) (N := 19) hx hb hts in_X5_costNow_X5 hown hK hP 0 rfl rfl 3 (by decide) hf16 (fun _ h9 => h9) rfl dX5_costNow_29 ?_
          refine lv_irem hx hb dX5_costNow_32 (nI_ne0 (by omega) (by omega)) ?_
          refine xk_topi (y := nI (k % nn)) (pk_rem (by omega) (by omega) (by omega)) ?_
          refine lv_iload hx hb dX5_costNow_33 (lv_at hl 3 rfl) ?_
          refine lv_aload_n hx hb dX5_costNow_35 rfl (lv_at hl 0 rfl) ?_
          refine va_get (D := D) (ci := 5) (v := .int (nI nn)) (C := RX5) (T := TX5) (N := 19) hx hb hts in_X5_costNow_X5 hown hK hP 0 rfl rfl 3 (by decide) hf16 (fun _ h9 => h9) rfl dX5_costNow_36 ?_
          refine lv_irem hx hb dX5_costNow_39 (nI_ne0 (by omega) (by omega)) ?_
          refine xk_topi (y := nI (q % nn)) (pk_rem (by omega) (by omega) (by omega)) ?_
          refine lv_isub hx hb dX5_costNow_40 ?_
          have hPc := hP.sub (ws' := [(a0, .inr (5, [.int th, .int (nI Wd), .int (nI Hh), .int (nI nn), .int na, .int nb, .int rk, .int pr, .int bk, .ref a1, .ref a2, .ref a3, .ref a4, .ref a5, .ref a6, .ref a7, .int lo, .long bt, .long bb]))]) [0] rfl
          have hDc := hD.sub (ws' := [(a0, .inr (5, [.int th, .int (nI Wd), .int (nI Hh), .int (nI nn), .int na, .int nb, .int rk, .int pr, .int bk, .ref a1, .ref a2, .ref a3, .ref a4, .ref a5, .ref a6, .ref a7, .int lo, .long bt, .long bb]))]) [0] (by decide) rfl
          refine xk_calli (wr := [(a2, .inl (cyI, 64, .inl nu))]) (w2 := [(a0, .inr (5, [.int th, .int (nI Wd), .int (nI Hh), .int (nI nn), .int na, .int nb, .int rk, .int pr, .int bk, .ref a1, .ref a2, .ref a3, .ref a4, .ref a5, .ref a6, .ref a7, .int lo, .long bt, .long bb])), (a2, .inl (cyI, 64, .inl nu))]) (va_runV (As := [.int (nI (k % nn) - nI (q % nn))]) (rest := []) hC0 (ct_X5_round l D cyI cyZ a0 a1 a2 a3 a4 a5 a6 a7 _ th Wd Hh nn na nb rk pr bk lo bt bb (nI (k % nn) - nI (q % nn)) ) (cwV 1 hts gX5_costNow_X5_round rfl rfl rfl (by decide +kernel) ⟨Nat.le_of_ble_eq_true rfl, Nat.le_of_ble_eq_true rfl⟩) ⟨xk_blind, va_recv hK hPc (ci := 5) (q0 := 0) rfl rfl, xk_pre hK hN hPc hDc⟩ rfl rfl hl.1 rfl (lv_room (Nat.le_of_ble_eq_true rfl)) dX5_costNow_41 ⟨Nat.le_of_ble_eq_true rfl, Nat.le_of_ble_eq_true rfl⟩) hP hD hS hA [0] [1] [1, 0] rfl rfl (by decide) (by decide) rfl (by decide) (fun H locs hP hD hS => ?_)
          refine xk_topi (y := mnI (nI (adf (k % nn) (q % nn))) (nI nn - nI (adf (k % nn) (q % nn)))) (by rw [abI_nd (Nat.lt_of_lt_of_le (Nat.mod_lt _ (by omega)) (by omega)) (Nat.lt_of_lt_of_le (Nat.mod_lt _ (by omega)) (by omega))]) ?_
          refine lv_istore (lv' := [(5, .int (mnI (nI (adf (k % nn) (q % nn))) (nI nn - nI (adf (k % nn) (q % nn))))), (0, .ref a0), (1, .long (csI nn nu k (csO nn nu k) q)), (3, .int (nI k)), (4, .int (nI q))]) hx hb dX5_costNow_44 hl (by decide) rfl (fun ls hl => ?_)
          refine lv_aload_n hx hb dX5_costNow_46 rfl (lv_at hl 1 rfl) ?_
          refine lv_iload_n hx hb dX5_costNow_47 rfl (lv_at hl 3 rfl) ?_
          refine lv_aload_n hx hb dX5_costNow_48 rfl (lv_at hl 1 rfl) ?_
          refine va_get (D := D) (ci := 5) (v := .int (nI nn)) (C := RX5) (T := TX5) (N := 19) hx hb hts in_X5_costNow_X5 hown hK hP 0 rfl rfl 3 (by decide) hf16 (fun _ h9 => h9) rfl dX5_costNow_49 ?_
          refine lv_idiv hx hb dX5_costNow_52 (nI_ne0 (by omega) (by omega)) ?_
          refine xk_topi (y := nI (k / nn)) (pk_div (by omega) (by omega) (by omega)) ?_
          refine lv_iload hx hb dX5_costNow_53 (lv_at hl 4 rfl) ?_
          refine lv_aload_n hx hb dX5_costNow_55 rfl (lv_at hl 1 rfl) ?_
          refine va_get (D := D) (ci := 5) (v := .int (nI nn)) (C := RX5) (T := TX5) (N := 19) hx hb hts in_X5_costNow_X5 hown hK hP 0 rfl rfl 3 (by decide) hf16 (fun _ h9 => h9) rfl dX5_costNow_56 ?_
          refine lv_idiv hx hb dX5_costNow_59 (nI_ne0 (by omega) (by omega)) ?_
          refine xk_topi (y := nI (q / nn)) (pk_div (by omega) (by omega) (by omega)) ?_
          refine lv_isub hx hb dX5_costNow_60 ?_
          have hPc := hP.sub (ws' := [(a0, .inr (5, [.int th, .int (nI Wd), .int (nI Hh), .int (nI nn), .int na, .int nb, .int rk, .int pr, .int bk, .ref a1, .ref a2, .ref a3, .ref a4, .ref a5, .ref a6, .ref a7, .int lo, .long bt, .long bb]))]) [0] rfl
          have hDc := hD.sub (ws' := [(a0, .inr (5, [.int th, .int (nI Wd), .int (nI Hh), .int (nI nn), .int na, .int nb, .int rk, .int pr, .int bk, .ref a1, .ref a2, .ref a3, .ref a4, .ref a5, .ref a6, .ref a7, .int lo, .long bt, .long bb]))]) [0] (by decide) rfl
          refine xk_calli (wr := [(a2, .inl (cyI, 64, .inl nu))]) (w2 := [(a0, .inr (5, [.int th, .int (nI Wd), .int (nI Hh), .int (nI nn), .int na, .int nb, .int rk, .int pr, .int bk, .ref a1, .ref a2, .ref a3, .ref a4, .ref a5, .ref a6, .ref a7, .int lo, .long bt, .long bb])), (a2, .inl (cyI, 64, .inl nu))]) (va_runV (As := [.int (nI (k / nn) - nI (q / nn))]) (rest := []) hC0 (ct_X5_round l D cyI cyZ a0 a1 a2 a3 a4 a5 a6 a7 _ th Wd Hh nn na nb rk pr bk lo bt bb (nI (k / nn) - nI (q / nn)) ) (cwV 1 hts gX5_costNow_X5_round rfl rfl rfl (by decide +kernel) ⟨Nat.le_of_ble_eq_true rfl, Nat.le_of_ble_eq_true rfl⟩) ⟨xk_blind, va_recv hK hPc (ci := 5) (q0 := 0) rfl rfl, xk_pre hK hN hPc hDc⟩ rfl rfl hl.1 rfl (lv_room (Nat.le_of_ble_eq_true rfl)) dX5_costNow_61 ⟨Nat.le_of_ble_eq_true rfl, Nat.le_of_ble_eq_true rfl⟩) hP hD hS hA [0] [1] [1, 0] rfl rfl (by decide) (by decide) rfl (by decide) (fun H locs hP hD hS => ?_)
          refine xk_topi (y := mnI (nI (adf (k / nn) (q / nn))) (nI nn - nI (adf (k / nn) (q / nn)))) (by rw [abI_nd (Nat.lt_of_le_of_lt (Nat.div_le_self _ _) (by omega)) (Nat.lt_of_le_of_lt (Nat.div_le_self _ _) (by omega))]) ?_
          refine lv_istore (lv' := [(6, .int (mnI (nI (adf (k / nn) (q / nn))) (nI nn - nI (adf (k / nn) (q / nn))))), (5, .int (mnI (nI (adf (k % nn) (q % nn))) (nI nn - nI (adf (k % nn) (q % nn))))), (0, .ref a0), (1, .long (csI nn nu k (csO nn nu k) q)), (3, .int (nI k)), (4, .int (nI q))]) hx hb dX5_costNow_64 hl (by decide) rfl (fun ls hl => ?_)
          refine lv_lload_n hx hb dX5_costNow_66 rfl (lv_at hl 3 rfl) ?_
          refine lv_aload_n hx hb dX5_costNow_67 rfl (lv_at hl 2 rfl) ?_
          refine va_get (D := D) (ci := 5) (v := .int (nI nn)) (C := RX5) (T := TX5) (N := 19) hx hb hts in_X5_costNow_X5 hown hK hP 0 rfl rfl 3 (by decide) hf16 (fun _ h9 => h9) rfl dX5_costNow_68 ?_
          refine lv_aload_n hx hb dX5_costNow_71 rfl (lv_at hl 2 rfl) ?_
          refine va_get (D := D) (ci := 5) (v := .int (nI nn)) (C := RX5) (T := TX5) (N := 19) hx hb hts in_X5_costNow_X5 hown hK hP 0 rfl rfl 3 (by decide) hf16 (fun _ h9 => h9) rfl dX5_costNow_72 ?_
          refine lv_imul hx hb dX5_costNow_75 ?_
          refine xk_topi (y := nI (nn * nn)) (pk_mul _ _) ?_
          refine lv_aload_n hx hb dX5_costNow_76 rfl (lv_at hl 2 rfl) ?_
          refine va_get (D := D) (ci := 5) (v := .ref a2) (C := RX5) (T := TX5) (N := 19) hx hb hts in_X5_costNow_X5 hown hK hP 0 rfl rfl 10 (by decide) hf32 (fun _ h9 => h9) rfl dX5_costNow_77 ?_
          refine lv_iload_n hx hb dX5_costNow_80 rfl (lv_at hl 4 rfl) ?_
          refine xk_iald hx hb hK hP 1 rfl k (rfl) (by omega) (by decide) dX5_costNow_81 ?_
          refine lv_aload_n hx hb dX5_costNow_82 rfl (lv_at hl 2 rfl) ?_
          refine va_get (D := D) (ci := 5) (v := .ref a2) (C := RX5) (T := TX5) (N := 19) hx hb hts in_X5_costNow_X5 hown hK hP 0 rfl rfl 10 (by decide) hf32 (fun _ h9 => h9) rfl dX5_costNow_83 ?_
          refine lv_iload hx hb dX5_costNow_86 (lv_at hl 5 rfl) ?_
          refine xk_iald hx hb hK hP 1 rfl q (rfl) (by omega) (by decide) dX5_costNow_88 ?_
          refine va_mmax hx hb (hml.trans hl.1.symm) hown (hts (.methodLink RX5 72 Lib.Math.max.name) (by decide +kernel)) (hts (.static Lib.Math.max.name) (by decide +kernel)) (hts (.initialized "java/lang/Math") (by decide +kernel)) (hts (.code Lib.Math.max.name Lib.Math.max.code 2 (some .int)) (by decide +kernel)) (Nat.le_of_ble_eq_true rfl) (Nat.le_of_ble_eq_true rfl) (Nat.zero_le _) (Nat.zero_le _) dX5_costNow_89 ?_
          refine xk_topi (y := mxI (nu q) (nu k)) (mxI_comm _ _) ?_
          refine lv_isub hx hb dX5_costNow_92 ?_
          refine lv_i2l hx hb dX5_costNow_93 rfl ?_
          refine lv_sipush (v := 1000) hx hb dX5_costNow_94 (by decide) ?_
          refine lv_iload hx hb dX5_costNow_97 (lv_at hl 1 rfl) ?_
          refine lv_iload hx hb dX5_costNow_99 (lv_at hl 1 rfl) ?_
          refine lv_imul hx hb dX5_costNow_101 ?_
          refine lv_iload hx hb dX5_costNow_102 (lv_at hl 0 rfl) ?_
          refine lv_iload hx hb dX5_costNow_104 (lv_at hl 0 rfl) ?_
          refine lv_imul hx hb dX5_costNow_106 ?_
          refine lv_iadd hx hb dX5_costNow_107 ?_
          refine xk_topi (y := nsq nn (nI (adf (k % nn) (q % nn))) (nI (adf (k / nn) (q / nn)))) (rfl) ?_
          refine lv_idiv hx hb dX5_costNow_108 (ge1_ne0 (nsq_ge1 hn2 (by omega) (by omega) (by omega))) ?_
          refine xk_topi (y := nrp nn k q) (nrp_div hn2 (by omega) (by omega) (by omega)) ?_
          refine lv_i2l hx hb dX5_costNow_109 rfl ?_
          refine lv_lmul hx hb dX5_costNow_110 ?_
          refine lv_ladd hx hb dX5_costNow_111 ?_
          refine lv_lstore_n (lv' := [(1, .long (csI nn nu k (csO nn nu k) q + ((nI (nn * nn) - mxI (nu q) (nu k)).toInt64 * (nrp nn k q).toInt64))), (6, .int (mnI (nI (adf (k / nn) (q / nn))) (nI nn - nI (adf (k / nn) (q / nn))))), (5, .int (mnI (nI (adf (k % nn) (q % nn))) (nI nn - nI (adf (k % nn) (q % nn))))), (0, .ref a0), (3, .int (nI k)), (4, .int (nI q))]) hx hb dX5_costNow_112 rfl hl (by decide) rfl (fun ls hl => ?_)
          refine lv_iinc (v := nI (q + 1)) (lv' := [(4, .int (nI (q + 1))), (1, .long (csI nn nu k (csO nn nu k) q + ((nI (nn * nn) - mxI (nu q) (nu k)).toInt64 * (nrp nn k q).toInt64))), (6, .int (mnI (nI (adf (k / nn) (q / nn))) (nI nn - nI (adf (k / nn) (q / nn))))), (5, .int (mnI (nI (adf (k % nn) (q % nn))) (nI nn - nI (adf (k % nn) (q % nn))))), (0, .ref a0), (3, .int (nI k))]) hx hb dX5_costNow_113 hl (k := 5) rfl (nI_1 _) (by decide) rfl (fun ls hl => ?_)
          refine lv_goto (tgt := 20) hx hb dX5_costNow_116 (by decide) ?_
          have eq_125 : (csI nn nu k (csO nn nu k) q + ((nI (nn * nn) - mxI (nu q) (nu k)).toInt64 * (nrp nn k q).toInt64) : Int64) = csI nn nu k (csO nn nu k) (q + 1) := rfl
          have hl := lv_sub (l' := [(0, .ref a0), (1, .long (csI nn nu k (csO nn nu k) q + ((nI (nn * nn) - mxI (nu q) (nu k)).toInt64 * (nrp nn k q).toInt64))), (3, .int (nI k)), (4, .int (nI (q + 1)))]) hl [4, 1, 5, 0] rfl
          have eL : ([(0, .ref a0), (1, .long (csI nn nu k (csO nn nu k) q + ((nI (nn * nn) - mxI (nu q) (nu k)).toInt64 * (nrp nn k q).toInt64))), (3, .int (nI k)), (4, .int (nI (q + 1)))] : List (Nat × Value)) = [(0, .ref a0), (1, .long (csI nn nu k (csO nn nu k) (q + 1))), (3, .int (nI k)), (4, .int (nI (q + 1)))] := (congrArg (List.cons _) (congr (congrArg List.cons (congrArg (fun z => (((1 : Nat), Value.long z) : Nat × Value)) eq_125)) (congrArg (List.cons _) (congrArg (List.cons _) rfl))))
          rw [eL] at hl
          exact ih_20 (q + 1) (by omega)  _ _ _ hP hD hS hl
      have eq_130 : (csO nn nu k : Int64) = csI nn nu k (csO nn nu k) 0 := rfl
      have eq_131 : (0 : Int32) = nI 0 := rfl
      have hl := lv_sub (l' := [(0, .ref a0), (1, .long (csO nn nu k)), (3, .int (nI k)), (4, .int 0)]) hl [1, 2, 3, 0] rfl
      have eL : ([(0, .ref a0), (1, .long (csO nn nu k)), (3, .int (nI k)), (4, .int 0)] : List (Nat × Value)) = [(0, .ref a0), (1, .long (csI nn nu k (csO nn nu k) 0)), (3, .int (nI k)), (4, .int (nI 0))] := (congrArg (List.cons _) (congr (congrArg List.cons (congrArg (fun z => (((1 : Nat), Value.long z) : Nat × Value)) eq_130)) (congrArg (List.cons _) (congr (congrArg List.cons (congrArg (fun z => (((4 : Nat), Value.int z) : Nat × Value)) eq_131)) rfl))))
      rw [eL] at hl
      exact L20 _ 0 (Nat.zero_add _)  _ _ _ hP hD hS hl
  have eq_136 : (0 : Int64) = csO nn nu 0 := rfl
  have eq_137 : (0 : Int32) = nI 0 := rfl
  have hl := lv_sub (l' := [(0, .ref a0), (1, .long 0), (3, .int 0)]) hl [2, 1, 0] rfl
  have eL : ([(0, .ref a0), (1, .long 0), (3, .int 0)] : List (Nat × Value)) = [(0, .ref a0), (1, .long (csO nn nu 0)), (3, .int (nI 0))] := (congrArg (List.cons _) (congr (congrArg List.cons (congrArg (fun z => (((1 : Nat), Value.long z) : Nat × Value)) eq_136)) (congr (congrArg List.cons (congrArg (fun z => (((3 : Nat), Value.int z) : Nat × Value)) eq_137)) rfl)))
  rw [eL] at hl
  exact L4 _ 0 (Nat.zero_add _)  _ _ _ hP hD hS hl

abbrev rm_X5_cost : Room := { frames := 3, cells := 0, slots := 0, locals := 61 }
theorem in_X5_cost_X5 : ∀ w ∈ u_ws RX5 TX5 19, w ∈ wsX5_cost := by decide +kernel
set_option maxHeartbeats 4000000 in
set_option maxRecDepth 100000 in
theorem ct_X5_cost (l : Launch) (D : va_G) (cyI cyZ : ClassId) (a0 a1 a2 a3 a4 a5 a6 a7 : Nat) (sz : Nat) (th : Int32) (Wd Hh nn : Nat) (na nb rk pr bk lo : Int32) (bt bb : Int64) (nu : Nat → Int32) (hn1 : 1 ≤ nn) (hn2 : nn ≤ 8) : Met l yX5_cost wsX5_cost rm_X5_cost (xk_Pc D cyI cyZ [.ref a0] [(a0, .inr (5, [.int th, .int (nI Wd), .int (nI Hh), .int (nI nn), .int na, .int nb, .int rk, .int pr, .int bk, .ref a1, .ref a2, .ref a3, .ref a4, .ref a5, .ref a6, .ref a7, .int lo, .long bt, .long bb])), (a2, .inl (cyI, 64, .inl nu))] sz) (xk_Ql D (va_A [(a0, .inr (5, [.int th, .int (nI Wd), .int (nI Hh), .int (nI nn), .int na, .int nb, .int rk, .int pr, .int bk, .ref a1, .ref a2, .ref a3, .ref a4, .ref a5, .ref a6, .ref a7, .int lo, .long bt, .long bb])), (a2, .inl (cyI, 64, .inl nu))] sz) (csO nn nu (nn * nn)) [(a0, .inr (5, [.int 0, .int (nI Wd), .int (nI Hh), .int (nI nn), .int na, .int nb, .int rk, .int pr, .int bk, .ref a1, .ref a2, .ref a3, .ref a4, .ref a5, .ref a6, .ref a7, .int lo, .long bt, .long bb])), (a2, .inl (cyI, 64, .inl nu))]) 0 0 (va_A [(a0, .inr (5, [.int th, .int (nI Wd), .int (nI Hh), .int (nI nn), .int na, .int nb, .int rk, .int pr, .int bk, .ref a1, .ref a2, .ref a3, .ref a4, .ref a5, .ref a6, .ref a7, .int lo, .long bt, .long bb])), (a2, .inl (cyI, 64, .inl nu))] sz) := by
  refine xk_of (own := RX5) (cc := cX5_cost) (maxL := 1) (ret := (some .long)) (Qc := fun A => xk_Ql D A (csO nn nu (nn * nn)) [(a0, .inr (5, [.int 0, .int (nI Wd), .int (nI Hh), .int (nI nn), .int na, .int nb, .int rk, .int pr, .int bk, .ref a1, .ref a2, .ref a3, .ref a4, .ref a5, .ref a6, .ref a7, .int lo, .long bt, .long bb])), (a2, .inl (cyI, 64, .inl nu))]) (by decide) rfl rfl (Nat.le_of_ble_eq_true rfl) ?_
  intro p e s m below meth c A ls hx hb hr hml hown hlocks hin hts hA hP hK hN hD hS hl
  have hC0 := xk_fix hx hb hml hown hts
  have hl : lv_has ls 1 [(0, .ref a0)] := hl
  have hf51 := hts (.fieldLink RX5 51 "DotPressModel" "thrown" "I") (by decide +kernel)
  refine lv_aload_n hx hb dX5_cost_0 rfl (lv_at hl 0 rfl) ?_
  refine lv_iconst (v := 0) hx hb dX5_cost_1 (by decide) ?_
  refine va_put (D := D) (ci := 5) (v := .int 0) (ty := .int) (C := RX5) (T := TX5) (N := 19) hx hb hts in_X5_cost_X5 tyX5 tyX5_ok nmX5 hown hK hP hD hS 0 rfl rfl 0 (by decide) hf51 (fun _ h9 => h9) rfl (by decide +kernel) (rfl) (rfl) (Nat.le_of_ble_eq_true rfl) dX5_cost_2 (fun H locs hP hD hS => ?_)
  have hP : va_P D vwCl [(a0, .inr (5, [.int 0, .int (nI Wd), .int (nI Hh), .int (nI nn), .int na, .int nb, .int rk, .int pr, .int bk, .ref a1, .ref a2, .ref a3, .ref a4, .ref a5, .ref a6, .ref a7, .int lo, .long bt, .long bb])), (a2, .inl (cyI, 64, .inl nu))] H := hP
  have hD : va_D A [(a0, .inr (5, [.int 0, .int (nI Wd), .int (nI Hh), .int (nI nn), .int na, .int nb, .int rk, .int pr, .int bk, .ref a1, .ref a2, .ref a3, .ref a4, .ref a5, .ref a6, .ref a7, .int lo, .long bt, .long bb])), (a2, .inl (cyI, 64, .inl nu))] := hD
  refine lv_aload_n hx hb dX5_cost_5 rfl (lv_at hl 0 rfl) ?_
  have hPc := hP.sub (ws' := [(a0, .inr (5, [.int 0, .int (nI Wd), .int (nI Hh), .int (nI nn), .int na, .int nb, .int rk, .int pr, .int bk, .ref a1, .ref a2, .ref a3, .ref a4, .ref a5, .ref a6, .ref a7, .int lo, .long bt, .long bb])), (a2, .inl (cyI, 64, .inl nu))]) [0, 1] rfl
  have hDc := hD.sub (ws' := [(a0, .inr (5, [.int 0, .int (nI Wd), .int (nI Hh), .int (nI nn), .int na, .int nb, .int rk, .int pr, .int bk, .ref a1, .ref a2, .ref a3, .ref a4, .ref a5, .ref a6, .ref a7, .int lo, .long bt, .long bb])), (a2, .inl (cyI, 64, .inl nu))]) [0, 1] (by decide) rfl
  refine xk_calll (wr := []) (w2 := [(a0, .inr (5, [.int 0, .int (nI Wd), .int (nI Hh), .int (nI nn), .int na, .int nb, .int rk, .int pr, .int bk, .ref a1, .ref a2, .ref a3, .ref a4, .ref a5, .ref a6, .ref a7, .int lo, .long bt, .long bb])), (a2, .inl (cyI, 64, .inl nu))]) (va_runV (As := []) (rest := []) hC0 (ct_X5_costNow l D cyI cyZ a0 a1 a2 a3 a4 a5 a6 a7 _ 0 Wd Hh nn na nb rk pr bk lo bt bb nu (by first | assumption | omega) (by first | assumption | omega)) (cwV 0 hts gX5_cost_X5_costNow rfl rfl rfl (by decide +kernel) ⟨Nat.le_of_ble_eq_true rfl, Nat.le_of_ble_eq_true rfl⟩) ⟨xk_blind, va_recv hK hPc (ci := 5) (q0 := 0) rfl rfl, xk_pre hK hN hPc hDc⟩ rfl rfl hl.1 rfl (lv_room (Nat.le_of_ble_eq_true rfl)) dX5_cost_6 ⟨Nat.le_of_ble_eq_true rfl, Nat.le_of_ble_eq_true rfl⟩) hP hD hS hA [0, 1] [] [0, 1] rfl rfl (by decide) (by decide) rfl (by decide) (fun H locs hP hD hS => ?_)
  exact xk_lret hx hb hr hlocks hP hD hS (rfl) (rfl) dX5_cost_9

abbrev rm_X5_worthOf : Room := { frames := 3, cells := 0, slots := 0, locals := 61 }
set_option maxHeartbeats 4000000 in
set_option maxRecDepth 100000 in
theorem ct_X5_worthOf (l : Launch) (D : va_G) (cyI cyZ : ClassId) (a0 a1 a2 a3 a4 a5 a6 a7 : Nat) (sz : Nat) (th : Int32) (Wd Hh nn : Nat) (na nb rk pr bk lo : Int32) (bt bb : Int64) (nu : Nat → Int32) (j1 j2 : Nat) (hn1 : 1 ≤ nn) (hn2 : nn ≤ 8) (hj1 : j1 < nn * nn) (hj2 : j2 < nn * nn) (hne : j1 ≠ j2) : Met l yX5_worthOf wsX5_worthOf rm_X5_worthOf (xk_Pc D cyI cyZ [.ref a0, .int (nI j1), .int (nI j2)] [(a0, .inr (5, [.int th, .int (nI Wd), .int (nI Hh), .int (nI nn), .int na, .int nb, .int rk, .int pr, .int bk, .ref a1, .ref a2, .ref a3, .ref a4, .ref a5, .ref a6, .ref a7, .int lo, .long bt, .long bb])), (a2, .inl (cyI, 64, .inl nu))] sz) (xk_Ql D (va_A [(a0, .inr (5, [.int th, .int (nI Wd), .int (nI Hh), .int (nI nn), .int na, .int nb, .int rk, .int pr, .int bk, .ref a1, .ref a2, .ref a3, .ref a4, .ref a5, .ref a6, .ref a7, .int lo, .long bt, .long bb])), (a2, .inl (cyI, 64, .inl nu))] sz) (wrt nn nu j1 j2) [(a0, .inr (5, [.int th, .int (nI Wd), .int (nI Hh), .int (nI nn), .int na, .int nb, .int rk, .int pr, .int bk, .ref a1, .ref a2, .ref a3, .ref a4, .ref a5, .ref a6, .ref a7, .int lo, .long bt, .long bb])), (a2, .inl (cyI, 64, .inl nu))]) 0 0 (va_A [(a0, .inr (5, [.int th, .int (nI Wd), .int (nI Hh), .int (nI nn), .int na, .int nb, .int rk, .int pr, .int bk, .ref a1, .ref a2, .ref a3, .ref a4, .ref a5, .ref a6, .ref a7, .int lo, .long bt, .long bb])), (a2, .inl (cyI, 64, .inl nu))] sz) := by
  refine xk_of (own := RX5) (cc := cX5_worthOf) (maxL := 7) (ret := (some .long)) (Qc := fun A => xk_Ql D A (wrt nn nu j1 j2) [(a0, .inr (5, [.int th, .int (nI Wd), .int (nI Hh), .int (nI nn), .int na, .int nb, .int rk, .int pr, .int bk, .ref a1, .ref a2, .ref a3, .ref a4, .ref a5, .ref a6, .ref a7, .int lo, .long bt, .long bb])), (a2, .inl (cyI, 64, .inl nu))]) (by decide) rfl rfl (Nat.le_of_ble_eq_true rfl) ?_
  intro p e s m below meth c A ls hx hb hr hml hown hlocks hin hts hA hP hK hN hD hS hl
  have hC0 := xk_fix hx hb hml hown hts
  have hl : lv_has ls 7 [(0, .ref a0), (1, .int (nI j1)), (2, .int (nI j2))] := hl
  have hq := nn_64 hn2
  have hq1 := nn_1 hn1
  refine lv_aload_n hx hb dX5_worthOf_0 rfl (lv_at hl 0 rfl) ?_
  have hPc := hP.sub (ws' := [(a0, .inr (5, [.int th, .int (nI Wd), .int (nI Hh), .int (nI nn), .int na, .int nb, .int rk, .int pr, .int bk, .ref a1, .ref a2, .ref a3, .ref a4, .ref a5, .ref a6, .ref a7, .int lo, .long bt, .long bb])), (a2, .inl (cyI, 64, .inl nu))]) [0, 1] rfl
  have hDc := hD.sub (ws' := [(a0, .inr (5, [.int th, .int (nI Wd), .int (nI Hh), .int (nI nn), .int na, .int nb, .int rk, .int pr, .int bk, .ref a1, .ref a2, .ref a3, .ref a4, .ref a5, .ref a6, .ref a7, .int lo, .long bt, .long bb])), (a2, .inl (cyI, 64, .inl nu))]) [0, 1] (by decide) rfl
  refine xk_calll (wr := []) (w2 := [(a0, .inr (5, [.int th, .int (nI Wd), .int (nI Hh), .int (nI nn), .int na, .int nb, .int rk, .int pr, .int bk, .ref a1, .ref a2, .ref a3, .ref a4, .ref a5, .ref a6, .ref a7, .int lo, .long bt, .long bb])), (a2, .inl (cyI, 64, .inl nu))]) (va_runV (As := []) (rest := []) hC0 (ct_X5_costNow l D cyI cyZ a0 a1 a2 a3 a4 a5 a6 a7 _ th Wd Hh nn na nb rk pr bk lo bt bb nu (by first | assumption | omega) (by first | assumption | omega)) (cwV 0 hts gX5_worthOf_X5_costNow rfl rfl rfl (by decide +kernel) ⟨Nat.le_of_ble_eq_true rfl, Nat.le_of_ble_eq_true rfl⟩) ⟨xk_blind, va_recv hK hPc (ci := 5) (q0 := 0) rfl rfl, xk_pre hK hN hPc hDc⟩ rfl rfl hl.1 rfl (lv_room (Nat.le_of_ble_eq_true rfl)) dX5_worthOf_1 ⟨Nat.le_of_ble_eq_true rfl, Nat.le_of_ble_eq_true rfl⟩) hP hD hS hA [0, 1] [] [0, 1] rfl rfl (by decide) (by decide) rfl (by decide) (fun H locs hP hD hS => ?_)
  refine lv_lstore_n (lv' := [(3, .long (csO nn nu (nn * nn))), (0, .ref a0), (1, .int (nI j1)), (2, .int (nI j2))]) hx hb dX5_worthOf_4 rfl hl (by decide) rfl (fun ls hl => ?_)
  refine lv_aload_n hx hb dX5_worthOf_5 rfl (lv_at hl 1 rfl) ?_
  refine lv_iload_n hx hb dX5_worthOf_6 rfl (lv_at hl 2 rfl) ?_
  refine lv_iload_n hx hb dX5_worthOf_7 rfl (lv_at hl 3 rfl) ?_
  have hPc := hP.sub (ws' := [(a0, .inr (5, [.int th, .int (nI Wd), .int (nI Hh), .int (nI nn), .int na, .int nb, .int rk, .int pr, .int bk, .ref a1, .ref a2, .ref a3, .ref a4, .ref a5, .ref a6, .ref a7, .int lo, .long bt, .long bb])), (a2, .inl (cyI, 64, .inl nu))]) [0, 1] rfl
  have hDc := hD.sub (ws' := [(a0, .inr (5, [.int th, .int (nI Wd), .int (nI Hh), .int (nI nn), .int na, .int nb, .int rk, .int pr, .int bk, .ref a1, .ref a2, .ref a3, .ref a4, .ref a5, .ref a6, .ref a7, .int lo, .long bt, .long bb])), (a2, .inl (cyI, 64, .inl nu))]) [0, 1] (by decide) rfl
  refine xk_callv (wr := []) (w2 := [(a0, .inr (5, [.int th, .int (nI Wd), .int (nI Hh), .int (nI nn), .int na, .int nb, .int rk, .int pr, .int bk, .ref a1, .ref a2, .ref a3, .ref a4, .ref a5, .ref a6, .ref a7, .int lo, .long bt, .long bb])), (a2, .inl (cyI, 64, .inl (sw nu j1 j2)))]) (va_runV (As := [.int (nI j1), .int (nI j2)]) (rest := []) hC0 (ct_X5_change l D cyI cyZ a0 a1 a2 a3 a4 a5 a6 a7 _ th Wd Hh nn na nb rk pr bk lo bt bb nu j1 j2 (by first | assumption | omega) (by first | assumption | omega)) (cwV 2 hts gX5_worthOf_X5_change rfl rfl rfl (by decide +kernel) ⟨Nat.le_of_ble_eq_true rfl, Nat.le_of_ble_eq_true rfl⟩) ⟨xk_blind, va_recv hK hPc (ci := 5) (q0 := 0) rfl rfl, xk_pre hK hN hPc hDc⟩ rfl rfl hl.1 rfl (lv_room (Nat.le_of_ble_eq_true rfl)) dX5_worthOf_8 ⟨Nat.le_of_ble_eq_true rfl, Nat.le_of_ble_eq_true rfl⟩) hP hD hS hA [0, 1] [] [0, 1] rfl rfl (by decide) (by decide) rfl (by decide) (fun H locs hP hD hS => ?_)
  refine lv_aload_n hx hb dX5_worthOf_11 rfl (lv_at hl 1 rfl) ?_
  have hPc := hP.sub (ws' := [(a0, .inr (5, [.int th, .int (nI Wd), .int (nI Hh), .int (nI nn), .int na, .int nb, .int rk, .int pr, .int bk, .ref a1, .ref a2, .ref a3, .ref a4, .ref a5, .ref a6, .ref a7, .int lo, .long bt, .long bb])), (a2, .inl (cyI, 64, .inl (sw nu j1 j2)))]) [0, 1] rfl
  have hDc := hD.sub (ws' := [(a0, .inr (5, [.int th, .int (nI Wd), .int (nI Hh), .int (nI nn), .int na, .int nb, .int rk, .int pr, .int bk, .ref a1, .ref a2, .ref a3, .ref a4, .ref a5, .ref a6, .ref a7, .int lo, .long bt, .long bb])), (a2, .inl (cyI, 64, .inl (sw nu j1 j2)))]) [0, 1] (by decide) rfl
  refine xk_calll (wr := []) (w2 := [(a0, .inr (5, [.int th, .int (nI Wd), .int (nI Hh), .int (nI nn), .int na, .int nb, .int rk, .int pr, .int bk, .ref a1, .ref a2, .ref a3, .ref a4, .ref a5, .ref a6, .ref a7, .int lo, .long bt, .long bb])), (a2, .inl (cyI, 64, .inl (sw nu j1 j2)))]) (va_runV (As := []) (rest := []) hC0 (ct_X5_costNow l D cyI cyZ a0 a1 a2 a3 a4 a5 a6 a7 _ th Wd Hh nn na nb rk pr bk lo bt bb (sw nu j1 j2) (by first | assumption | omega) (by first | assumption | omega)) (cwV 0 hts gX5_worthOf_X5_costNow rfl rfl rfl (by decide +kernel) ⟨Nat.le_of_ble_eq_true rfl, Nat.le_of_ble_eq_true rfl⟩) ⟨xk_blind, va_recv hK hPc (ci := 5) (q0 := 0) rfl rfl, xk_pre hK hN hPc hDc⟩ rfl rfl hl.1 rfl (lv_room (Nat.le_of_ble_eq_true rfl)) dX5_worthOf_12 ⟨Nat.le_of_ble_eq_true rfl, Nat.le_of_ble_eq_true rfl⟩) hP hD hS hA [0, 1] [] [0, 1] rfl rfl (by decide) (by decide) rfl (by decide) (fun H locs hP hD hS => ?_)
  refine lv_lstore (lv' := [(5, .long (csO nn (sw nu j1 j2) (nn * nn))), (3, .long (csO nn nu (nn * nn))), (0, .ref a0), (1, .int (nI j1)), (2, .int (nI j2))]) hx hb dX5_worthOf_15 hl (by decide) rfl (fun ls hl => ?_)
  refine lv_aload_n hx hb dX5_worthOf_17 rfl (lv_at hl 2 rfl) ?_
  refine lv_iload_n hx hb dX5_worthOf_18 rfl (lv_at hl 3 rfl) ?_
  refine lv_iload_n hx hb dX5_worthOf_19 rfl (lv_at hl 4 rfl) ?_
  have hPc := hP.sub (ws' := [(a0, .inr (5, [.int th, .int (nI Wd), .int (nI Hh), .int (nI nn), .int na, .int nb, .int rk, .int pr, .int bk, .ref a1, .ref a2, .ref a3, .ref a4, .ref a5, .ref a6, .ref a7, .int lo, .long bt, .long bb])), (a2, .inl (cyI, 64, .inl (sw nu j1 j2)))]) [0, 1] rfl
  have hDc := hD.sub (ws' := [(a0, .inr (5, [.int th, .int (nI Wd), .int (nI Hh), .int (nI nn), .int na, .int nb, .int rk, .int pr, .int bk, .ref a1, .ref a2, .ref a3, .ref a4, .ref a5, .ref a6, .ref a7, .int lo, .long bt, .long bb])), (a2, .inl (cyI, 64, .inl (sw nu j1 j2)))]) [0, 1] (by decide) rfl
  refine xk_callv (wr := []) (w2 := [(a0, .inr (5, [.int th, .int (nI Wd), .int (nI Hh), .int (nI nn), .int na, .int nb, .int rk, .int pr, .int bk, .ref a1, .ref a2, .ref a3, .ref a4, .ref a5, .ref a6, .ref a7, .int lo, .long bt, .long bb])), (a2, .inl (cyI, 64, .inl (sw (sw nu j1 j2) j1 j2)))]) (va_runV (As := [.int (nI j1), .int (nI j2)]) (rest := []) hC0 (ct_X5_change l D cyI cyZ a0 a1 a2 a3 a4 a5 a6 a7 _ th Wd Hh nn na nb rk pr bk lo bt bb (sw nu j1 j2) j1 j2 (by first | assumption | omega) (by first | assumption | omega)) (cwV 2 hts gX5_worthOf_X5_change rfl rfl rfl (by decide +kernel) ⟨Nat.le_of_ble_eq_true rfl, Nat.le_of_ble_eq_true rfl⟩) ⟨xk_blind, va_recv hK hPc (ci := 5) (q0 := 0) rfl rfl, xk_pre hK hN hPc hDc⟩ rfl rfl hl.1 rfl (lv_room (Nat.le_of_ble_eq_true rfl)) dX5_worthOf_20 ⟨Nat.le_of_ble_eq_true rfl, Nat.le_of_ble_eq_true rfl⟩) hP hD hS hA [0, 1] [] [0, 1] rfl rfl (by decide) (by decide) rfl (by decide) (fun H locs hP hD hS => ?_)
  refine lv_lload_n hx hb dX5_worthOf_23 rfl (lv_at hl 1 rfl) ?_
  refine lv_lload hx hb dX5_worthOf_24 (lv_at hl 0 rfl) ?_
  refine lv_lsub hx hb dX5_worthOf_26 ?_
  exact xk_lret hx hb hr hlocks hP hD hS (rfl) (by rw [sw_sw _ hne]) dX5_worthOf_27

abbrev rm_X5_worth_no : Room := { frames := 2, cells := 0, slots := 0, locals := 44 }
theorem in_X5_worth_no_X5 : ∀ w ∈ u_ws RX5 TX5 19, w ∈ wsX5_worth := by decide +kernel
set_option maxHeartbeats 4000000 in
set_option maxRecDepth 100000 in
theorem ct_X5_worth_no (l : Launch) (D : va_G) (cyI cyZ : ClassId) (a0 a1 a2 a3 a4 a5 a6 a7 : Nat) (sz : Nat) (th : Int32) (Wd Hh nn : Nat) (na nb rk pr bk lo : Int32) (bt bb : Int64) (nu : Nat → Int32) (x y : Int32) (hn1 : 1 ≤ nn) (hn2 : nn ≤ 8) (hno : ¬ st_pair nn x y) : Met l yX5_worth wsX5_worth rm_X5_worth_no (xk_Pc D cyI cyZ [.ref a0, .int x, .int y] [(a0, .inr (5, [.int th, .int (nI Wd), .int (nI Hh), .int (nI nn), .int na, .int nb, .int rk, .int pr, .int bk, .ref a1, .ref a2, .ref a3, .ref a4, .ref a5, .ref a6, .ref a7, .int lo, .long bt, .long bb])), (a2, .inl (cyI, 64, .inl nu))] sz) (xk_Ql D (va_A [(a0, .inr (5, [.int th, .int (nI Wd), .int (nI Hh), .int (nI nn), .int na, .int nb, .int rk, .int pr, .int bk, .ref a1, .ref a2, .ref a3, .ref a4, .ref a5, .ref a6, .ref a7, .int lo, .long bt, .long bb])), (a2, .inl (cyI, 64, .inl nu))] sz) 0 [(a0, .inr (5, [.int 1, .int (nI Wd), .int (nI Hh), .int (nI nn), .int na, .int nb, .int rk, .int pr, .int bk, .ref a1, .ref a2, .ref a3, .ref a4, .ref a5, .ref a6, .ref a7, .int lo, .long bt, .long bb])), (a2, .inl (cyI, 64, .inl nu))]) 0 0 (va_A [(a0, .inr (5, [.int th, .int (nI Wd), .int (nI Hh), .int (nI nn), .int na, .int nb, .int rk, .int pr, .int bk, .ref a1, .ref a2, .ref a3, .ref a4, .ref a5, .ref a6, .ref a7, .int lo, .long bt, .long bb])), (a2, .inl (cyI, 64, .inl nu))] sz) := by
  refine xk_of (own := RX5) (cc := cX5_worth) (maxL := 3) (ret := (some .long)) (Qc := fun A => xk_Ql D A 0 [(a0, .inr (5, [.int 1, .int (nI Wd), .int (nI Hh), .int (nI nn), .int na, .int nb, .int rk, .int pr, .int bk, .ref a1, .ref a2, .ref a3, .ref a4, .ref a5, .ref a6, .ref a7, .int lo, .long bt, .long bb])), (a2, .inl (cyI, 64, .inl nu))]) (by decide) rfl rfl (Nat.le_of_ble_eq_true rfl) ?_
  intro p e s m below meth c A ls hx hb hr hml hown hlocks hin hts hA hP hK hN hD hS hl
  have hC0 := xk_fix hx hb hml hown hts
  have hl : lv_has ls 3 [(0, .ref a0), (1, .int x), (2, .int y)] := hl
  have hf51 := hts (.fieldLink RX5 51 "DotPressModel" "thrown" "I") (by decide +kernel)
  refine lv_aload_n hx hb dX5_worth_0 rfl (lv_at hl 0 rfl) ?_
  refine lv_aload_n hx hb dX5_worth_1 rfl (lv_at hl 0 rfl) ?_
  refine lv_iload_n hx hb dX5_worth_2 rfl (lv_at hl 1 rfl) ?_
  refine lv_iload_n hx hb dX5_worth_3 rfl (lv_at hl 2 rfl) ?_
  have hPc := hP.sub (ws' := [(a0, .inr (5, [.int th, .int (nI Wd), .int (nI Hh), .int (nI nn), .int na, .int nb, .int rk, .int pr, .int bk, .ref a1, .ref a2, .ref a3, .ref a4, .ref a5, .ref a6, .ref a7, .int lo, .long bt, .long bb]))]) [0] rfl
  have hDc := hD.sub (ws' := [(a0, .inr (5, [.int th, .int (nI Wd), .int (nI Hh), .int (nI nn), .int na, .int nb, .int rk, .int pr, .int bk, .ref a1, .ref a2, .ref a3, .ref a4, .ref a5, .ref a6, .ref a7, .int lo, .long bt, .long bb]))]) [0] (by decide) rfl
  refine xk_calli (wr := [(a2, .inl (cyI, 64, .inl nu))]) (w2 := [(a0, .inr (5, [.int th, .int (nI Wd), .int (nI Hh), .int (nI nn), .int na, .int nb, .int rk, .int pr, .int bk, .ref a1, .ref a2, .ref a3, .ref a4, .ref a5, .ref a6, .ref a7, .int lo, .long bt, .long bb])), (a2, .inl (cyI, 64, .inl nu))]) (va_runV (As := [.int x, .int y]) (rest := [.ref a0]) hC0 (ct_X5_isPair l D cyI cyZ a0 a1 a2 a3 a4 a5 a6 a7 _ th Wd Hh nn na nb rk pr bk lo bt bb x y (by first | assumption | omega) (by first | assumption | omega)) (cwV 2 hts gX5_worth_X5_isPair rfl rfl rfl (by decide +kernel) ⟨Nat.le_of_ble_eq_true rfl, Nat.le_of_ble_eq_true rfl⟩) ⟨xk_blind, va_recv hK hPc (ci := 5) (q0 := 0) rfl rfl, xk_pre hK hN hPc hDc⟩ rfl rfl hl.1 rfl (lv_room (Nat.le_of_ble_eq_true rfl)) dX5_worth_4 ⟨Nat.le_of_ble_eq_true rfl, Nat.le_of_ble_eq_true rfl⟩) hP hD hS hA [0] [1] [1, 0] rfl rfl (by decide) (by decide) rfl (by decide) (fun H locs hP hD hS => ?_)
  refine lv_if_eq (tgt := 14) hx hb dX5_worth_7 (by decide) (fun c_7 => ?_) (fun c_7 => xk_ba c_7 (bI_z.mpr hno))
  have c_7 := bI_z.mp c_7
  refine lv_iconst (v := 1) hx hb dX5_worth_14 (by decide) ?_
  refine va_put (D := D) (ci := 5) (v := .int 1) (ty := .int) (C := RX5) (T := TX5) (N := 19) hx hb hts in_X5_worth_no_X5 tyX5 tyX5_ok nmX5 hown hK hP hD hS 0 rfl rfl 0 (by decide) hf51 (fun _ h9 => h9) rfl (by decide +kernel) (rfl) (rfl) (Nat.le_of_ble_eq_true rfl) dX5_worth_15 (fun H locs hP hD hS => ?_)
  have hP : va_P D vwCl [(a0, .inr (5, [.int 1, .int (nI Wd), .int (nI Hh), .int (nI nn), .int na, .int nb, .int rk, .int pr, .int bk, .ref a1, .ref a2, .ref a3, .ref a4, .ref a5, .ref a6, .ref a7, .int lo, .long bt, .long bb])), (a2, .inl (cyI, 64, .inl nu))] H := hP
  have hD : va_D A [(a0, .inr (5, [.int 1, .int (nI Wd), .int (nI Hh), .int (nI nn), .int na, .int nb, .int rk, .int pr, .int bk, .ref a1, .ref a2, .ref a3, .ref a4, .ref a5, .ref a6, .ref a7, .int lo, .long bt, .long bb])), (a2, .inl (cyI, 64, .inl nu))] := hD
  refine lv_aload_n hx hb dX5_worth_18 rfl (lv_at hl 0 rfl) ?_
  refine va_get (D := D) (ci := 5) (v := .int 1) (C := RX5) (T := TX5) (N := 19) hx hb hts in_X5_worth_no_X5 hown hK hP 0 rfl rfl 0 (by decide) hf51 (fun _ h9 => h9) rfl dX5_worth_19 ?_
  refine lv_if_le (tgt := 29) hx hb dX5_worth_22 (by decide) (fun c_22 => xk_ab c_22 ((by decide : ¬ (1 : Int32) ≤ 0))) (fun c_22 => ?_)
  refine lv_lconst (v := 0) hx hb dX5_worth_25 (by decide) ?_
  refine lv_goto (tgt := 35) hx hb dX5_worth_26 (by decide) ?_
  exact xk_lret hx hb hr hlocks hP hD hS (rfl) (rfl) dX5_worth_35

abbrev rm_X5_worth_ok : Room := { frames := 4, cells := 0, slots := 0, locals := 87 }
theorem in_X5_worth_ok_X5 : ∀ w ∈ u_ws RX5 TX5 19, w ∈ wsX5_worth := by decide +kernel
set_option maxHeartbeats 4000000 in
set_option maxRecDepth 100000 in
theorem ct_X5_worth_ok (l : Launch) (D : va_G) (cyI cyZ : ClassId) (a0 a1 a2 a3 a4 a5 a6 a7 : Nat) (sz : Nat) (th : Int32) (Wd Hh nn : Nat) (na nb rk pr bk lo : Int32) (bt bb : Int64) (nu : Nat → Int32) (j1 j2 : Nat) (hn1 : 1 ≤ nn) (hn2 : nn ≤ 8) (hj1 : j1 < nn * nn) (hj2 : j2 < nn * nn) (hne : j1 ≠ j2) : Met l yX5_worth wsX5_worth rm_X5_worth_ok (xk_Pc D cyI cyZ [.ref a0, .int (nI j1), .int (nI j2)] [(a0, .inr (5, [.int th, .int (nI Wd), .int (nI Hh), .int (nI nn), .int na, .int nb, .int rk, .int pr, .int bk, .ref a1, .ref a2, .ref a3, .ref a4, .ref a5, .ref a6, .ref a7, .int lo, .long bt, .long bb])), (a2, .inl (cyI, 64, .inl nu))] sz) (xk_Ql D (va_A [(a0, .inr (5, [.int th, .int (nI Wd), .int (nI Hh), .int (nI nn), .int na, .int nb, .int rk, .int pr, .int bk, .ref a1, .ref a2, .ref a3, .ref a4, .ref a5, .ref a6, .ref a7, .int lo, .long bt, .long bb])), (a2, .inl (cyI, 64, .inl nu))] sz) (wrt nn nu j1 j2) [(a0, .inr (5, [.int 0, .int (nI Wd), .int (nI Hh), .int (nI nn), .int na, .int nb, .int rk, .int pr, .int bk, .ref a1, .ref a2, .ref a3, .ref a4, .ref a5, .ref a6, .ref a7, .int lo, .long bt, .long bb])), (a2, .inl (cyI, 64, .inl nu))]) 0 0 (va_A [(a0, .inr (5, [.int th, .int (nI Wd), .int (nI Hh), .int (nI nn), .int na, .int nb, .int rk, .int pr, .int bk, .ref a1, .ref a2, .ref a3, .ref a4, .ref a5, .ref a6, .ref a7, .int lo, .long bt, .long bb])), (a2, .inl (cyI, 64, .inl nu))] sz) := by
  refine xk_of (own := RX5) (cc := cX5_worth) (maxL := 3) (ret := (some .long)) (Qc := fun A => xk_Ql D A (wrt nn nu j1 j2) [(a0, .inr (5, [.int 0, .int (nI Wd), .int (nI Hh), .int (nI nn), .int na, .int nb, .int rk, .int pr, .int bk, .ref a1, .ref a2, .ref a3, .ref a4, .ref a5, .ref a6, .ref a7, .int lo, .long bt, .long bb])), (a2, .inl (cyI, 64, .inl nu))]) (by decide) rfl rfl (Nat.le_of_ble_eq_true rfl) ?_
  intro p e s m below meth c A ls hx hb hr hml hown hlocks hin hts hA hP hK hN hD hS hl
  have hC0 := xk_fix hx hb hml hown hts
  have hl : lv_has ls 3 [(0, .ref a0), (1, .int (nI j1)), (2, .int (nI j2))] := hl
  have hf51 := hts (.fieldLink RX5 51 "DotPressModel" "thrown" "I") (by decide +kernel)
  refine lv_aload_n hx hb dX5_worth_0 rfl (lv_at hl 0 rfl) ?_
  refine lv_aload_n hx hb dX5_worth_1 rfl (lv_at hl 0 rfl) ?_
  refine lv_iload_n hx hb dX5_worth_2 rfl (lv_at hl 1 rfl) ?_
  refine lv_iload_n hx hb dX5_worth_3 rfl (lv_at hl 2 rfl) ?_
  have hPc := hP.sub (ws' := [(a0, .inr (5, [.int th, .int (nI Wd), .int (nI Hh), .int (nI nn), .int na, .int nb, .int rk, .int pr, .int bk, .ref a1, .ref a2, .ref a3, .ref a4, .ref a5, .ref a6, .ref a7, .int lo, .long bt, .long bb]))]) [0] rfl
  have hDc := hD.sub (ws' := [(a0, .inr (5, [.int th, .int (nI Wd), .int (nI Hh), .int (nI nn), .int na, .int nb, .int rk, .int pr, .int bk, .ref a1, .ref a2, .ref a3, .ref a4, .ref a5, .ref a6, .ref a7, .int lo, .long bt, .long bb]))]) [0] (by decide) rfl
  refine xk_calli (wr := [(a2, .inl (cyI, 64, .inl nu))]) (w2 := [(a0, .inr (5, [.int th, .int (nI Wd), .int (nI Hh), .int (nI nn), .int na, .int nb, .int rk, .int pr, .int bk, .ref a1, .ref a2, .ref a3, .ref a4, .ref a5, .ref a6, .ref a7, .int lo, .long bt, .long bb])), (a2, .inl (cyI, 64, .inl nu))]) (va_runV (As := [.int (nI j1), .int (nI j2)]) (rest := [.ref a0]) hC0 (ct_X5_isPair l D cyI cyZ a0 a1 a2 a3 a4 a5 a6 a7 _ th Wd Hh nn na nb rk pr bk lo bt bb (nI j1) (nI j2) (by first | assumption | omega) (by first | assumption | omega)) (cwV 2 hts gX5_worth_X5_isPair rfl rfl rfl (by decide +kernel) ⟨Nat.le_of_ble_eq_true rfl, Nat.le_of_ble_eq_true rfl⟩) ⟨xk_blind, va_recv hK hPc (ci := 5) (q0 := 0) rfl rfl, xk_pre hK hN hPc hDc⟩ rfl rfl hl.1 rfl (lv_room (Nat.le_of_ble_eq_true rfl)) dX5_worth_4 ⟨Nat.le_of_ble_eq_true rfl, Nat.le_of_ble_eq_true rfl⟩) hP hD hS hA [0] [1] [1, 0] rfl rfl (by decide) (by decide) rfl (by decide) (fun H locs hP hD hS => ?_)
  refine lv_if_eq (tgt := 14) hx hb dX5_worth_7 (by decide) (fun c_7 => xk_ab c_7 (bI_nz.mpr (st_pair_in hn2 hj1 hj2 hne))) (fun c_7 => ?_)
  have c_7 := bI_nz.mp c_7
  refine lv_iconst (v := 0) hx hb dX5_worth_10 (by decide) ?_
  refine lv_goto (tgt := 15) hx hb dX5_worth_11 (by decide) ?_
  refine va_put (D := D) (ci := 5) (v := .int 0) (ty := .int) (C := RX5) (T := TX5) (N := 19) hx hb hts in_X5_worth_ok_X5 tyX5 tyX5_ok nmX5 hown hK hP hD hS 0 rfl rfl 0 (by decide) hf51 (fun _ h9 => h9) rfl (by decide +kernel) (rfl) (rfl) (Nat.le_of_ble_eq_true rfl) dX5_worth_15 (fun H locs hP hD hS => ?_)
  have hP : va_P D vwCl [(a0, .inr (5, [.int 0, .int (nI Wd), .int (nI Hh), .int (nI nn), .int na, .int nb, .int rk, .int pr, .int bk, .ref a1, .ref a2, .ref a3, .ref a4, .ref a5, .ref a6, .ref a7, .int lo, .long bt, .long bb])), (a2, .inl (cyI, 64, .inl nu))] H := hP
  have hD : va_D A [(a0, .inr (5, [.int 0, .int (nI Wd), .int (nI Hh), .int (nI nn), .int na, .int nb, .int rk, .int pr, .int bk, .ref a1, .ref a2, .ref a3, .ref a4, .ref a5, .ref a6, .ref a7, .int lo, .long bt, .long bb])), (a2, .inl (cyI, 64, .inl nu))] := hD
  refine lv_aload_n hx hb dX5_worth_18 rfl (lv_at hl 0 rfl) ?_
  refine va_get (D := D) (ci := 5) (v := .int 0) (C := RX5) (T := TX5) (N := 19) hx hb hts in_X5_worth_ok_X5 hown hK hP 0 rfl rfl 0 (by decide) hf51 (fun _ h9 => h9) rfl dX5_worth_19 ?_
  refine lv_if_le (tgt := 29) hx hb dX5_worth_22 (by decide) (fun c_22 => ?_) (fun c_22 => xk_ba c_22 ((by decide : (0 : Int32) ≤ 0)))
  refine lv_aload_n hx hb dX5_worth_29 rfl (lv_at hl 0 rfl) ?_
  refine lv_iload_n hx hb dX5_worth_30 rfl (lv_at hl 1 rfl) ?_
  refine lv_iload_n hx hb dX5_worth_31 rfl (lv_at hl 2 rfl) ?_
  have hPc := hP.sub (ws' := [(a0, .inr (5, [.int 0, .int (nI Wd), .int (nI Hh), .int (nI nn), .int na, .int nb, .int rk, .int pr, .int bk, .ref a1, .ref a2, .ref a3, .ref a4, .ref a5, .ref a6, .ref a7, .int lo, .long bt, .long bb])), (a2, .inl (cyI, 64, .inl nu))]) [0, 1] rfl
  have hDc := hD.sub (ws' := [(a0, .inr (5, [.int 0, .int (nI Wd), .int (nI Hh), .int (nI nn), .int na, .int nb, .int rk, .int pr, .int bk, .ref a1, .ref a2, .ref a3, .ref a4, .ref a5, .ref a6, .ref a7, .int lo, .long bt, .long bb])), (a2, .inl (cyI, 64, .inl nu))]) [0, 1] (by decide) rfl
  refine xk_calll (wr := []) (w2 := [(a0, .inr (5, [.int 0, .int (nI Wd), .int (nI Hh), .int (nI nn), .int na, .int nb, .int rk, .int pr, .int bk, .ref a1, .ref a2, .ref a3, .ref a4, .ref a5, .ref a6, .ref a7, .int lo, .long bt, .long bb])), (a2, .inl (cyI, 64, .inl nu))]) (va_runV (As := [.int (nI j1), .int (nI j2)]) (rest := []) hC0 (ct_X5_worthOf l D cyI cyZ a0 a1 a2 a3 a4 a5 a6 a7 _ 0 Wd Hh nn na nb rk pr bk lo bt bb nu j1 j2 (by first | assumption | omega) (by first | assumption | omega) (by first | assumption | omega) (by first | assumption | omega) (by first | assumption | omega)) (cwV 2 hts gX5_worth_X5_worthOf rfl rfl rfl (by decide +kernel) ⟨Nat.le_of_ble_eq_true rfl, Nat.le_of_ble_eq_true rfl⟩) ⟨xk_blind, va_recv hK hPc (ci := 5) (q0 := 0) rfl rfl, xk_pre hK hN hPc hDc⟩ rfl rfl hl.1 rfl (lv_room (Nat.le_of_ble_eq_true rfl)) dX5_worth_32 ⟨Nat.le_of_ble_eq_true rfl, Nat.le_of_ble_eq_true rfl⟩) hP hD hS hA [0, 1] [] [0, 1] rfl rfl (by decide) (by decide) rfl (by decide) (fun H locs hP hD hS => ?_)
  exact xk_lret hx hb hr hlocks hP hD hS (rfl) (rfl) dX5_worth_35

abbrev rm_X5_even_no : Room := { frames := 1, cells := 0, slots := 0, locals := 22 }
theorem in_X5_even_no_X5 : ∀ w ∈ u_ws RX5 TX5 19, w ∈ wsX5_even := by decide +kernel
set_option maxHeartbeats 4000000 in
set_option maxRecDepth 100000 in
theorem ct_X5_even_no (l : Launch) (D : va_G) (cyI cyZ : ClassId) (a0 a1 a2 a3 a4 a5 a6 a7 : Nat) (sz : Nat) (th : Int32) (Wd Hh nn : Nat) (na nb rk pr bk lo : Int32) (bt bb : Int64) (nu : Nat → Int32) (x : Int32) (hn1 : 1 ≤ nn) (hn2 : nn ≤ 8) (hno : ¬ ((¬ x < 0 ∧ ¬ 100 < x) ∧ nn ≤ 5)) : Met l yX5_even wsX5_even rm_X5_even_no (xk_Pc D cyI cyZ [.ref a0, .int x] [(a0, .inr (5, [.int th, .int (nI Wd), .int (nI Hh), .int (nI nn), .int na, .int nb, .int rk, .int pr, .int bk, .ref a1, .ref a2, .ref a3, .ref a4, .ref a5, .ref a6, .ref a7, .int lo, .long bt, .long bb])), (a2, .inl (cyI, 64, .inl nu))] sz) (xk_Qi D (va_A [(a0, .inr (5, [.int th, .int (nI Wd), .int (nI Hh), .int (nI nn), .int na, .int nb, .int rk, .int pr, .int bk, .ref a1, .ref a2, .ref a3, .ref a4, .ref a5, .ref a6, .ref a7, .int lo, .long bt, .long bb])), (a2, .inl (cyI, 64, .inl nu))] sz) (-1) [(a0, .inr (5, [.int 0, .int (nI Wd), .int (nI Hh), .int (nI nn), .int na, .int nb, .int rk, .int pr, .int bk, .ref a1, .ref a2, .ref a3, .ref a4, .ref a5, .ref a6, .ref a7, .int lo, .long bt, .long bb])), (a2, .inl (cyI, 64, .inl nu))]) 0 0 (va_A [(a0, .inr (5, [.int th, .int (nI Wd), .int (nI Hh), .int (nI nn), .int na, .int nb, .int rk, .int pr, .int bk, .ref a1, .ref a2, .ref a3, .ref a4, .ref a5, .ref a6, .ref a7, .int lo, .long bt, .long bb])), (a2, .inl (cyI, 64, .inl nu))] sz) := by
  refine xk_of (own := RX5) (cc := cX5_even) (maxL := 12) (ret := (some .int)) (Qc := fun A => xk_Qi D A (-1) [(a0, .inr (5, [.int 0, .int (nI Wd), .int (nI Hh), .int (nI nn), .int na, .int nb, .int rk, .int pr, .int bk, .ref a1, .ref a2, .ref a3, .ref a4, .ref a5, .ref a6, .ref a7, .int lo, .long bt, .long bb])), (a2, .inl (cyI, 64, .inl nu))]) (by decide) rfl rfl (Nat.le_of_ble_eq_true rfl) ?_
  intro p e s m below meth c A ls hx hb hr hml hown hlocks hin hts hA hP hK hN hD hS hl
  have hC0 := xk_fix hx hb hml hown hts
  have hl : lv_has ls 12 [(0, .ref a0), (1, .int x)] := hl
  have hf16 := hts (.fieldLink RX5 16 "DotPressModel" "n" "I") (by decide +kernel)
  have hf51 := hts (.fieldLink RX5 51 "DotPressModel" "thrown" "I") (by decide +kernel)
  refine lv_aload_n hx hb dX5_even_0 rfl (lv_at hl 0 rfl) ?_
  refine lv_iconst (v := 0) hx hb dX5_even_1 (by decide) ?_
  refine va_put (D := D) (ci := 5) (v := .int 0) (ty := .int) (C := RX5) (T := TX5) (N := 19) hx hb hts in_X5_even_no_X5 tyX5 tyX5_ok nmX5 hown hK hP hD hS 0 rfl rfl 0 (by decide) hf51 (fun _ h9 => h9) rfl (by decide +kernel) (rfl) (rfl) (Nat.le_of_ble_eq_true rfl) dX5_even_2 (fun H locs hP hD hS => ?_)
  have hP : va_P D vwCl [(a0, .inr (5, [.int 0, .int (nI Wd), .int (nI Hh), .int (nI nn), .int na, .int nb, .int rk, .int pr, .int bk, .ref a1, .ref a2, .ref a3, .ref a4, .ref a5, .ref a6, .ref a7, .int lo, .long bt, .long bb])), (a2, .inl (cyI, 64, .inl nu))] H := hP
  have hD : va_D A [(a0, .inr (5, [.int 0, .int (nI Wd), .int (nI Hh), .int (nI nn), .int na, .int nb, .int rk, .int pr, .int bk, .ref a1, .ref a2, .ref a3, .ref a4, .ref a5, .ref a6, .ref a7, .int lo, .long bt, .long bb])), (a2, .inl (cyI, 64, .inl nu))] := hD
  refine lv_iload_n hx hb dX5_even_5 rfl (lv_at hl 1 rfl) ?_
  refine lv_iconst (v := 0) hx hb dX5_even_6 (by decide) ?_
  refine lv_bipush (v := 100) hx hb dX5_even_7 (by decide) ?_
  have hPc := hP.sub (ws' := []) [] rfl
  have hDc := hD.sub (ws' := []) [] (by decide) rfl
  refine xk_calli (wr := [(a0, .inr (5, [.int 0, .int (nI Wd), .int (nI Hh), .int (nI nn), .int na, .int nb, .int rk, .int pr, .int bk, .ref a1, .ref a2, .ref a3, .ref a4, .ref a5, .ref a6, .ref a7, .int lo, .long bt, .long bb])), (a2, .inl (cyI, 64, .inl nu))]) (w2 := [(a0, .inr (5, [.int 0, .int (nI Wd), .int (nI Hh), .int (nI nn), .int na, .int nb, .int rk, .int pr, .int bk, .ref a1, .ref a2, .ref a3, .ref a4, .ref a5, .ref a6, .ref a7, .int lo, .long bt, .long bb])), (a2, .inl (cyI, 64, .inl nu))]) (va_runS (As := [.int x, .int 0, .int 100]) (rest := []) hC0 (ct_X5_isIn l D cyI cyZ  _ x 0 100 ) (va_cwS 3 hts gX5_even_X5_isIn rfl rfl rfl (by decide +kernel) ⟨Nat.le_of_ble_eq_true rfl, Nat.le_of_ble_eq_true rfl⟩) ⟨xk_blind, xk_pre hK hN hPc hDc⟩ rfl rfl hl.1 rfl (lv_room (Nat.le_of_ble_eq_true rfl)) dX5_even_9 ⟨Nat.le_of_ble_eq_true rfl, Nat.le_of_ble_eq_true rfl⟩) hP hD hS hA [] [0, 1] [0, 1] rfl rfl (by decide) (by decide) rfl (by decide) (fun H locs hP hD hS => ?_)
  refine lv_if_eq (tgt := 23) hx hb dX5_even_12 (by decide) (fun c_12 => ?_) (fun c_12 => ?_)
  · have c_12 := bI_z.mp c_12
    refine lv_iconst (v := (-1)) hx hb dX5_even_23 (by decide) ?_
    exact xk_iret hx hb hr hlocks hP hD hS (rfl) (rfl) dX5_even_24
  · have c_12 := bI_nz.mp c_12
    refine lv_aload_n hx hb dX5_even_15 rfl (lv_at hl 0 rfl) ?_
    refine va_get (D := D) (ci := 5) (v := .int (nI nn)) (C := RX5) (T := TX5) (N := 19) hx hb hts in_X5_even_no_X5 hown hK hP 0 rfl rfl 3 (by decide) hf16 (fun _ h9 => h9) rfl dX5_even_16 ?_
    refine lv_iconst (v := 5) hx hb dX5_even_19 (by decide) ?_
    refine lv_icmp_le (tgt := 25) hx hb dX5_even_20 (by decide) (fun c_20 => ?_) (fun c_20 => ?_)
    · exact absurd ⟨c_12, (nI_leI (by omega) (by decide)).mp c_20⟩ hno
    · refine lv_iconst (v := (-1)) hx hb dX5_even_23 (by decide) ?_
      exact xk_iret hx hb hr hlocks hP hD hS (rfl) (rfl) dX5_even_24

abbrev rm_X5_even_ok : Room := { frames := 4, cells := 0, slots := 0, locals := 87 }
theorem in_X5_even_ok_X5 : ∀ w ∈ u_ws RX5 TX5 19, w ∈ wsX5_even := by decide +kernel
set_option maxHeartbeats 4000000 in
set_option maxRecDepth 100000 in
theorem ct_X5_even_ok (l : Launch) (D : va_G) (cyI cyZ : ClassId) (a0 a1 a2 a3 a4 a5 a6 a7 : Nat) (sz : Nat) (th : Int32) (Wd Hh nn : Nat) (na nb rk pr bk lo : Int32) (bt bb : Int64) (nu : Nat → Int32) (mo Nv : Nat) (hn1 : 1 ≤ nn) (hn2 : nn ≤ 8) (hm : mo ≤ 100) (h5 : nn ≤ 5) (hNm : Nv ≤ mo) (hgo : ∀ i, i < Nv → 0 < (bp nn (evS nn nu i)).1) (hend : Nv = mo ∨ ¬ 0 < (bp nn (evS nn nu Nv)).1) : Met l yX5_even wsX5_even rm_X5_even_ok (xk_Pc D cyI cyZ [.ref a0, .int (nI mo)] [(a0, .inr (5, [.int th, .int (nI Wd), .int (nI Hh), .int (nI nn), .int na, .int nb, .int rk, .int pr, .int bk, .ref a1, .ref a2, .ref a3, .ref a4, .ref a5, .ref a6, .ref a7, .int lo, .long bt, .long bb])), (a2, .inl (cyI, 64, .inl nu))] sz) (xk_Qi D (va_A [(a0, .inr (5, [.int th, .int (nI Wd), .int (nI Hh), .int (nI nn), .int na, .int nb, .int rk, .int pr, .int bk, .ref a1, .ref a2, .ref a3, .ref a4, .ref a5, .ref a6, .ref a7, .int lo, .long bt, .long bb])), (a2, .inl (cyI, 64, .inl nu))] sz) (nI Nv) [(a0, .inr (5, [.int 0, .int (nI Wd), .int (nI Hh), .int (nI nn), .int na, .int nb, .int rk, .int pr, .int bk, .ref a1, .ref a2, .ref a3, .ref a4, .ref a5, .ref a6, .ref a7, .int lo, .long bt, .long bb])), (a2, .inl (cyI, 64, .inl (evS nn nu Nv)))]) 0 0 (va_A [(a0, .inr (5, [.int th, .int (nI Wd), .int (nI Hh), .int (nI nn), .int na, .int nb, .int rk, .int pr, .int bk, .ref a1, .ref a2, .ref a3, .ref a4, .ref a5, .ref a6, .ref a7, .int lo, .long bt, .long bb])), (a2, .inl (cyI, 64, .inl nu))] sz) := by
  refine xk_of (own := RX5) (cc := cX5_even) (maxL := 12) (ret := (some .int)) (Qc := fun A => xk_Qi D A (nI Nv) [(a0, .inr (5, [.int 0, .int (nI Wd), .int (nI Hh), .int (nI nn), .int na, .int nb, .int rk, .int pr, .int bk, .ref a1, .ref a2, .ref a3, .ref a4, .ref a5, .ref a6, .ref a7, .int lo, .long bt, .long bb])), (a2, .inl (cyI, 64, .inl (evS nn nu Nv)))]) (by decide) rfl rfl (Nat.le_of_ble_eq_true rfl) ?_
  intro p e s m below meth c A ls hx hb hr hml hown hlocks hin hts hA hP hK hN hD hS hl
  have hC0 := xk_fix hx hb hml hown hts
  have hl : lv_has ls 12 [(0, .ref a0), (1, .int (nI mo))] := hl
  have hf16 := hts (.fieldLink RX5 16 "DotPressModel" "n" "I") (by decide +kernel)
  have hf51 := hts (.fieldLink RX5 51 "DotPressModel" "thrown" "I") (by decide +kernel)
  have hq := nn_64 hn2
  have hq1 := nn_1 hn1
  refine lv_aload_n hx hb dX5_even_0 rfl (lv_at hl 0 rfl) ?_
  refine lv_iconst (v := 0) hx hb dX5_even_1 (by decide) ?_
  refine va_put (D := D) (ci := 5) (v := .int 0) (ty := .int) (C := RX5) (T := TX5) (N := 19) hx hb hts in_X5_even_ok_X5 tyX5 tyX5_ok nmX5 hown hK hP hD hS 0 rfl rfl 0 (by decide) hf51 (fun _ h9 => h9) rfl (by decide +kernel) (rfl) (rfl) (Nat.le_of_ble_eq_true rfl) dX5_even_2 (fun H locs hP hD hS => ?_)
  have hP : va_P D vwCl [(a0, .inr (5, [.int 0, .int (nI Wd), .int (nI Hh), .int (nI nn), .int na, .int nb, .int rk, .int pr, .int bk, .ref a1, .ref a2, .ref a3, .ref a4, .ref a5, .ref a6, .ref a7, .int lo, .long bt, .long bb])), (a2, .inl (cyI, 64, .inl nu))] H := hP
  have hD : va_D A [(a0, .inr (5, [.int 0, .int (nI Wd), .int (nI Hh), .int (nI nn), .int na, .int nb, .int rk, .int pr, .int bk, .ref a1, .ref a2, .ref a3, .ref a4, .ref a5, .ref a6, .ref a7, .int lo, .long bt, .long bb])), (a2, .inl (cyI, 64, .inl nu))] := hD
  refine lv_iload_n hx hb dX5_even_5 rfl (lv_at hl 1 rfl) ?_
  refine lv_iconst (v := 0) hx hb dX5_even_6 (by decide) ?_
  refine lv_bipush (v := 100) hx hb dX5_even_7 (by decide) ?_
  have hPc := hP.sub (ws' := []) [] rfl
  have hDc := hD.sub (ws' := []) [] (by decide) rfl
  refine xk_calli (wr := [(a0, .inr (5, [.int 0, .int (nI Wd), .int (nI Hh), .int (nI nn), .int na, .int nb, .int rk, .int pr, .int bk, .ref a1, .ref a2, .ref a3, .ref a4, .ref a5, .ref a6, .ref a7, .int lo, .long bt, .long bb])), (a2, .inl (cyI, 64, .inl nu))]) (w2 := [(a0, .inr (5, [.int 0, .int (nI Wd), .int (nI Hh), .int (nI nn), .int na, .int nb, .int rk, .int pr, .int bk, .ref a1, .ref a2, .ref a3, .ref a4, .ref a5, .ref a6, .ref a7, .int lo, .long bt, .long bb])), (a2, .inl (cyI, 64, .inl nu))]) (va_runS (As := [.int (nI mo), .int 0, .int 100]) (rest := []) hC0 (ct_X5_isIn l D cyI cyZ  _ (nI mo) 0 100 ) (va_cwS 3 hts gX5_even_X5_isIn rfl rfl rfl (by decide +kernel) ⟨Nat.le_of_ble_eq_true rfl, Nat.le_of_ble_eq_true rfl⟩) ⟨xk_blind, xk_pre hK hN hPc hDc⟩ rfl rfl hl.1 rfl (lv_room (Nat.le_of_ble_eq_true rfl)) dX5_even_9 ⟨Nat.le_of_ble_eq_true rfl, Nat.le_of_ble_eq_true rfl⟩) hP hD hS hA [] [0, 1] [0, 1] rfl rfl (by decide) (by decide) rfl (by decide) (fun H locs hP hD hS => ?_)
  refine lv_if_eq (tgt := 23) hx hb dX5_even_12 (by decide) (fun c_12 => xk_ab c_12 (bI_nz.mpr ⟨nI_pos (by omega), rg_hi (hi := 100) hm (by decide)⟩)) (fun c_12 => ?_)
  have c_12 := bI_nz.mp c_12
  refine lv_aload_n hx hb dX5_even_15 rfl (lv_at hl 0 rfl) ?_
  refine va_get (D := D) (ci := 5) (v := .int (nI nn)) (C := RX5) (T := TX5) (N := 19) hx hb hts in_X5_even_ok_X5 hown hK hP 0 rfl rfl 3 (by decide) hf16 (fun _ h9 => h9) rfl dX5_even_16 ?_
  refine lv_iconst (v := 5) hx hb dX5_even_19 (by decide) ?_
  refine lv_icmp_le (tgt := 25) hx hb dX5_even_20 (by decide) (fun c_20 => ?_) (fun c_20 => xk_ba c_20 (nI_le (b := 5) h5 (by decide)))
  refine lv_iconst (v := 0) hx hb dX5_even_25 (by decide) ?_
  refine lv_istore_n (lv' := [(2, .int 0), (0, .ref a0), (1, .int (nI mo))]) hx hb dX5_even_26 rfl hl (by decide) rfl (fun ls hl => ?_)
  refine lv_iconst (v := 1) hx hb dX5_even_27 (by decide) ?_
  refine lv_istore_n (lv' := [(3, .int 1), (2, .int 0), (0, .ref a0), (1, .int (nI mo))]) hx hb dX5_even_28 rfl hl (by decide) rfl (fun ls hl => ?_)
  have L29 : ∀ (n k : Nat), k + n = Nv → ∀ (H : Heap) (locs : List Loc) (ls : Array Slot), va_P D vwCl [(a0, .inr (5, [.int 0, .int (nI Wd), .int (nI Hh), .int (nI nn), .int na, .int nb, .int rk, .int pr, .int bk, .ref a1, .ref a2, .ref a3, .ref a4, .ref a5, .ref a6, .ref a7, .int lo, .long bt, .long bb])), (a2, .inl (cyI, 64, .inl (evS nn nu k)))] H → va_D A [(a0, .inr (5, [.int 0, .int (nI Wd), .int (nI Hh), .int (nI nn), .int na, .int nb, .int rk, .int pr, .int bk, .ref a1, .ref a2, .ref a3, .ref a4, .ref a5, .ref a6, .ref a7, .int lo, .long bt, .long bb])), (a2, .inl (cyI, 64, .inl (evS nn nu k)))] → va_S A s.heap H locs → lv_has ls 12 [(0, .ref a0), (1, .int (nI mo)), (2, .int (nI k)), (3, .int 1)] → W p l e rm_X5_even_ok s m ([.ref a0, .int (nI mo)] : List Value).toArray below meth c H locs 0 0 (MQ below (xk_Qi D A (nI Nv) [(a0, .inr (5, [.int 0, .int (nI Wd), .int (nI Hh), .int (nI nn), .int na, .int nb, .int rk, .int pr, .int bk, .ref a1, .ref a2, .ref a3, .ref a4, .ref a5, .ref a6, .ref a7, .int lo, .long bt, .long bb])), (a2, .inl (cyI, 64, .inl (evS nn nu Nv)))]) ([.ref a0, .int (nI mo)] : List Value).toArray s 0 0 A) (F0 m 29 ls []) := by
    intro n
    induction n with
    | zero =>
      intro k hk_29  H locs ls hP hD hS hl
      have hz_29 : Nv = k := hk_29.symm
      subst hz_29
      refine lv_iload_n hx hb dX5_even_29 rfl (lv_at hl 2 rfl) ?_
      refine lv_iload_n hx hb dX5_even_30 rfl (lv_at hl 1 rfl) ?_
      refine lv_icmp_ge (tgt := 162) hx hb dX5_even_31 (by decide) (fun c_31 => ?_) (fun c_31 => ?_)
      · refine lv_iload_n hx hb dX5_even_162 rfl (lv_at hl 2 rfl) ?_
        exact xk_iret hx hb hr hlocks hP hD hS (rfl) (rfl) dX5_even_163
      · have g31 := c_31
        have hz0 := hend.resolve_left (fun h => c_31 (nI_le (by omega) (by omega)))
        refine lv_iload_n hx hb dX5_even_34 rfl (lv_at hl 3 rfl) ?_
        refine lv_if_eq (tgt := 162) hx hb dX5_even_35 (by decide) (fun c_35 => xk_ab c_35 ((by decide : ¬ (1 : Int32) = 0))) (fun c_35 => ?_)
        refine lv_lconst (v := 0) hx hb dX5_even_38 (by decide) ?_
        refine lv_lstore (lv' := [(4, .long 0), (0, .ref a0), (1, .int (nI mo)), (2, .int (nI Nv)), (3, .int 1)]) hx hb dX5_even_39 hl (by decide) rfl (fun ls hl => ?_)
        refine lv_iconst (v := (-1)) hx hb dX5_even_41 (by decide) ?_
        refine lv_istore (lv' := [(6, .int (-1)), (4, .long 0), (0, .ref a0), (1, .int (nI mo)), (2, .int (nI Nv)), (3, .int 1)]) hx hb dX5_even_42 hl (by decide) rfl (fun ls hl => ?_)
        refine lv_iconst (v := (-1)) hx hb dX5_even_44 (by decide) ?_
        refine lv_istore (lv' := [(7, .int (-1)), (6, .int (-1)), (4, .long 0), (0, .ref a0), (1, .int (nI mo)), (2, .int (nI Nv)), (3, .int 1)]) hx hb dX5_even_45 hl (by decide) rfl (fun ls hl => ?_)
        refine lv_iconst (v := 0) hx hb dX5_even_47 (by decide) ?_
        refine lv_istore (lv' := [(8, .int 0), (7, .int (-1)), (6, .int (-1)), (4, .long 0), (0, .ref a0), (1, .int (nI mo)), (2, .int (nI Nv)), (3, .int 1)]) hx hb dX5_even_48 hl (by decide) rfl (fun ls hl => ?_)
        have L50 : ∀ (n pp : Nat), pp + n = (nn * nn) → ∀ (H : Heap) (locs : List Loc) (ls : Array Slot), va_P D vwCl [(a0, .inr (5, [.int 0, .int (nI Wd), .int (nI Hh), .int (nI nn), .int na, .int nb, .int rk, .int pr, .int bk, .ref a1, .ref a2, .ref a3, .ref a4, .ref a5, .ref a6, .ref a7, .int lo, .long bt, .long bb])), (a2, .inl (cyI, 64, .inl (evS nn nu Nv)))] H → va_D A [(a0, .inr (5, [.int 0, .int (nI Wd), .int (nI Hh), .int (nI nn), .int na, .int nb, .int rk, .int pr, .int bk, .ref a1, .ref a2, .ref a3, .ref a4, .ref a5, .ref a6, .ref a7, .int lo, .long bt, .long bb])), (a2, .inl (cyI, 64, .inl (evS nn nu Nv)))] → va_S A s.heap H locs → lv_has ls 12 [(0, .ref a0), (1, .int (nI mo)), (2, .int (nI Nv)), (3, .int 1), (4, .long ((sbO (wrt nn (evS nn nu Nv)) (nn * nn) pp).1)), (6, .int (fs1 (sbO (wrt nn (evS nn nu Nv)) (nn * nn) pp))), (7, .int (fs2 (sbO (wrt nn (evS nn nu Nv)) (nn * nn) pp))), (8, .int (nI pp))] → W p l e rm_X5_even_ok s m ([.ref a0, .int (nI mo)] : List Value).toArray below meth c H locs 0 0 (MQ below (xk_Qi D A (nI Nv) [(a0, .inr (5, [.int 0, .int (nI Wd), .int (nI Hh), .int (nI nn), .int na, .int nb, .int rk, .int pr, .int bk, .ref a1, .ref a2, .ref a3, .ref a4, .ref a5, .ref a6, .ref a7, .int lo, .long bt, .long bb])), (a2, .inl (cyI, 64, .inl (evS nn nu Nv)))]) ([.ref a0, .int (nI mo)] : List Value).toArray s 0 0 A) (F0 m 50 ls []) := by
          intro n
          induction n with
          | zero =>
            intro pp hk_50  H locs ls hP hD hS hl
            have hz_50 : nn * nn = pp := hk_50.symm
            subst hz_50
            refine lv_iload hx hb dX5_even_50 (lv_at hl 7 rfl) ?_
            refine lv_aload_n hx hb dX5_even_52 rfl (lv_at hl 0 rfl) ?_
            refine va_get (D := D) (ci := 5) (v := .int (nI nn)) (C := RX5) (T := TX5) (N := 19) hx hb hts in_X5_even_ok_X5 hown hK hP 0 rfl rfl 3 (by decide) hf16 (fun _ h9 => h9) rfl dX5_even_53 ?_
            refine lv_aload_n hx hb dX5_even_56 rfl (lv_at hl 0 rfl) ?_
            refine va_get (D := D) (ci := 5) (v := .int (nI nn)) (C := RX5) (T := TX5) (N := 19) hx hb hts in_X5_even_ok_X5 hown hK hP 0 rfl rfl 3 (by decide) hf16 (fun _ h9 => h9) rfl dX5_even_57 ?_
            refine lv_imul hx hb dX5_even_60 ?_
            refine xk_topi (y := nI (nn * nn)) (pk_mul _ _) ?_
            refine lv_icmp_ge (tgt := 129) hx hb dX5_even_61 (by decide) (fun c_61 => ?_) (fun c_61 => xk_ba c_61 (nI_le (Nat.le_refl _) (by omega)))
            refine lv_iload hx hb dX5_even_129 (lv_at hl 5 rfl) ?_
            refine lv_iconst (v := (-1)) hx hb dX5_even_131 (by decide) ?_
            refine lv_icmp_eq (tgt := 139) hx hb dX5_even_132 (by decide) (fun c_132 => ?_) (fun c_132 => xk_ba c_132 (fs1_f hz0))
            refine lv_iconst (v := 0) hx hb dX5_even_139 (by decide) ?_
            refine lv_istore_n (lv' := [(3, .int 0), (0, .ref a0), (1, .int (nI mo)), (2, .int (nI Nv)), (4, .long ((sbO (wrt nn (evS nn nu Nv)) (nn * nn) (nn * nn)).1)), (6, .int (fs1 (sbO (wrt nn (evS nn nu Nv)) (nn * nn) (nn * nn)))), (7, .int (fs2 (sbO (wrt nn (evS nn nu Nv)) (nn * nn) (nn * nn)))), (8, .int (nI (nn * nn)))]) hx hb dX5_even_140 rfl hl (by decide) rfl (fun ls hl => ?_)
            refine lv_iload_n hx hb dX5_even_141 rfl (lv_at hl 0 rfl) ?_
            refine lv_if_ne (tgt := 148) hx hb dX5_even_142 (by decide) (fun c_142 => xk_ba c_142 ((rfl : (0 : Int32) = 0))) (fun c_142 => ?_)
            refine lv_goto (tgt := 29) hx hb dX5_even_145 (by decide) ?_
            refine lv_iload_n hx hb dX5_even_29 rfl (lv_at hl 3 rfl) ?_
            refine lv_iload_n hx hb dX5_even_30 rfl (lv_at hl 2 rfl) ?_
            refine lv_icmp_ge (tgt := 162) hx hb dX5_even_31 (by decide) (fun c_31 => xk_ab c_31 (g31)) (fun c_31 => ?_)
            refine lv_iload_n hx hb dX5_even_34 rfl (lv_at hl 0 rfl) ?_
            refine lv_if_eq (tgt := 162) hx hb dX5_even_35 (by decide) (fun c_35 => ?_) (fun c_35 => xk_ba c_35 ((rfl : (0 : Int32) = 0)))
            refine lv_iload_n hx hb dX5_even_162 rfl (lv_at hl 3 rfl) ?_
            exact xk_iret hx hb hr hlocks hP hD hS (rfl) (rfl) dX5_even_163
          | succ n ih_50 =>
            intro pp hk_50  H locs ls hP hD hS hl
            refine lv_iload hx hb dX5_even_50 (lv_at hl 7 rfl) ?_
            refine lv_aload_n hx hb dX5_even_52 rfl (lv_at hl 0 rfl) ?_
            refine va_get (D := D) (ci := 5) (v := .int (nI nn)) (C := RX5) (T := TX5) (N := 19) hx hb hts in_X5_even_ok_X5 hown hK hP 0 rfl rfl 3 (by decide) hf16 (fun _ h9 => h9) rfl dX5_even_53 ?_
            refine lv_aload_n hx hb dX5_even_56 rfl (lv_at hl 0 rfl) ?_
            refine va_get (D := D) (ci := 5) (v := .int (nI nn)) (C := RX5) (T := TX5) (N := 19) hx hb hts in_X5_even_ok_X5 hown hK hP 0 rfl rfl 3 (by decide) hf16 (fun _ h9 => h9) rfl dX5_even_57 ?_
            refine lv_imul hx hb dX5_even_60 ?_
            refine xk_topi (y := nI (nn * nn)) (pk_mul _ _) ?_
            refine lv_icmp_ge (tgt := 129) hx hb dX5_even_61 (by decide) (fun c_61 => xk_ab c_61 (nI_ge (by omega) (by omega))) (fun c_61 => ?_)
            refine lv_iload hx hb dX5_even_64 (lv_at hl 7 rfl) ?_
            refine lv_iconst (v := 1) hx hb dX5_even_66 (by decide) ?_
            refine lv_iadd hx hb dX5_even_67 ?_
            refine lv_istore (lv' := [(9, .int (nI pp + 1)), (0, .ref a0), (1, .int (nI mo)), (2, .int (nI Nv)), (3, .int 1), (4, .long ((sbO (wrt nn (evS nn nu Nv)) (nn * nn) pp).1)), (6, .int (fs1 (sbO (wrt nn (evS nn nu Nv)) (nn * nn) pp))), (7, .int (fs2 (sbO (wrt nn (evS nn nu Nv)) (nn * nn) pp))), (8, .int (nI pp))]) hx hb dX5_even_68 hl (by decide) rfl (fun ls hl => ?_)
            have L70 : ∀ (n q : Nat), q + n = (nn * nn - (pp + 1)) → ∀ (H : Heap) (locs : List Loc) (ls : Array Slot), va_P D vwCl [(a0, .inr (5, [.int 0, .int (nI Wd), .int (nI Hh), .int (nI nn), .int na, .int nb, .int rk, .int pr, .int bk, .ref a1, .ref a2, .ref a3, .ref a4, .ref a5, .ref a6, .ref a7, .int lo, .long bt, .long bb])), (a2, .inl (cyI, 64, .inl (evS nn nu Nv)))] H → va_D A [(a0, .inr (5, [.int 0, .int (nI Wd), .int (nI Hh), .int (nI nn), .int na, .int nb, .int rk, .int pr, .int bk, .ref a1, .ref a2, .ref a3, .ref a4, .ref a5, .ref a6, .ref a7, .int lo, .long bt, .long bb])), (a2, .inl (cyI, 64, .inl (evS nn nu Nv)))] → va_S A s.heap H locs → lv_has ls 12 [(0, .ref a0), (1, .int (nI mo)), (2, .int (nI Nv)), (3, .int 1), (4, .long ((sbI (wrt nn (evS nn nu Nv)) pp (sbO (wrt nn (evS nn nu Nv)) (nn * nn) pp) q).1)), (6, .int (fs1 (sbI (wrt nn (evS nn nu Nv)) pp (sbO (wrt nn (evS nn nu Nv)) (nn * nn) pp) q))), (7, .int (fs2 (sbI (wrt nn (evS nn nu Nv)) pp (sbO (wrt nn (evS nn nu Nv)) (nn * nn) pp) q))), (8, .int (nI pp)), (9, .int (nI (pp + 1 + q)))] → W p l e rm_X5_even_ok s m ([.ref a0, .int (nI mo)] : List Value).toArray below meth c H locs 0 0 (MQ below (xk_Qi D A (nI Nv) [(a0, .inr (5, [.int 0, .int (nI Wd), .int (nI Hh), .int (nI nn), .int na, .int nb, .int rk, .int pr, .int bk, .ref a1, .ref a2, .ref a3, .ref a4, .ref a5, .ref a6, .ref a7, .int lo, .long bt, .long bb])), (a2, .inl (cyI, 64, .inl (evS nn nu Nv)))]) ([.ref a0, .int (nI mo)] : List Value).toArray s 0 0 A) (F0 m 70 ls []) := by
              intro n
              induction n with
              | zero =>
                intro q hk_70  H locs ls hP hD hS hl
                have hz_70 : nn * nn - (pp + 1) = q := hk_70.symm
                subst hz_70
                refine lv_iload hx hb dX5_even_70 (lv_at hl 8 rfl) ?_
                refine lv_aload_n hx hb dX5_even_72 rfl (lv_at hl 0 rfl) ?_
                refine va_get (D := D) (ci := 5) (v := .int (nI nn)) (C := RX5) (T := TX5) (N := 19) hx hb hts in_X5_even_ok_X5 hown hK hP 0 rfl rfl 3 (by decide) hf16 (fun _ h9 => h9) rfl dX5_even_73 ?_
                refine lv_aload_n hx hb dX5_even_76 rfl (lv_at hl 0 rfl) ?_
                refine va_get (D := D) (ci := 5) (v := .int (nI nn)) (C := RX5) (T := TX5) (N := 19) hx hb hts in_X5_even_ok_X5 hown hK hP 0 rfl rfl 3 (by decide) hf16 (fun _ h9 => h9) rfl dX5_even_77 ?_
                refine lv_imul hx hb dX5_even_80 ?_
                refine xk_topi (y := nI (nn * nn)) (pk_mul _ _) ?_
                refine lv_icmp_ge (tgt := 123) hx hb dX5_even_81 (by decide) (fun c_81 => ?_) (fun c_81 => xk_ba c_81 (nI_le (by omega) (by omega)))
                refine lv_iinc (v := nI (pp + 1)) (lv' := [(8, .int (nI (pp + 1))), (0, .ref a0), (1, .int (nI mo)), (2, .int (nI Nv)), (3, .int 1), (4, .long ((sbI (wrt nn (evS nn nu Nv)) pp (sbO (wrt nn (evS nn nu Nv)) (nn * nn) pp) (nn * nn - (pp + 1))).1)), (6, .int (fs1 (sbI (wrt nn (evS nn nu Nv)) pp (sbO (wrt nn (evS nn nu Nv)) (nn * nn) pp) (nn * nn - (pp + 1))))), (7, .int (fs2 (sbI (wrt nn (evS nn nu Nv)) pp (sbO (wrt nn (evS nn nu Nv)) (nn * nn) pp) (nn * nn - (pp + 1))))), (9, .int (nI (pp + 1 + (nn * nn - (pp + 1)))))]) hx hb dX5_even_123 hl (k := 7) rfl (nI_1 _) (by decide) rfl (fun ls hl => ?_)
                refine lv_goto (tgt := 50) hx hb dX5_even_126 (by decide) ?_
                have eq_106 : ((sbI (wrt nn (evS nn nu Nv)) pp (sbO (wrt nn (evS nn nu Nv)) (nn * nn) pp) (nn * nn - (pp + 1))).1 : Int64) = (sbO (wrt nn (evS nn nu Nv)) (nn * nn) (pp + 1)).1 := rfl
                have eq_107 : (fs1 (sbI (wrt nn (evS nn nu Nv)) pp (sbO (wrt nn (evS nn nu Nv)) (nn * nn) pp) (nn * nn - (pp + 1))) : Int32) = fs1 (sbO (wrt nn (evS nn nu Nv)) (nn * nn) (pp + 1)) := rfl
                have eq_108 : (fs2 (sbI (wrt nn (evS nn nu Nv)) pp (sbO (wrt nn (evS nn nu Nv)) (nn * nn) pp) (nn * nn - (pp + 1))) : Int32) = fs2 (sbO (wrt nn (evS nn nu Nv)) (nn * nn) (pp + 1)) := rfl
                have hl := lv_sub (l' := [(0, .ref a0), (1, .int (nI mo)), (2, .int (nI Nv)), (3, .int 1), (4, .long ((sbI (wrt nn (evS nn nu Nv)) pp (sbO (wrt nn (evS nn nu Nv)) (nn * nn) pp) (nn * nn - (pp + 1))).1)), (6, .int (fs1 (sbI (wrt nn (evS nn nu Nv)) pp (sbO (wrt nn (evS nn nu Nv)) (nn * nn) pp) (nn * nn - (pp + 1))))), (7, .int (fs2 (sbI (wrt nn (evS nn nu Nv)) pp (sbO (wrt nn (evS nn nu Nv)) (nn * nn) pp) (nn * nn - (pp + 1))))), (8, .int (nI (pp + 1)))]) hl [1, 2, 3, 4, 5, 6, 7, 0] rfl
                have eL : ([(0, .ref a0), (1, .int (nI mo)), (2, .int (nI Nv)), (3, .int 1), (4, .long ((sbI (wrt nn (evS nn nu Nv)) pp (sbO (wrt nn (evS nn nu Nv)) (nn * nn) pp) (nn * nn - (pp + 1))).1)), (6, .int (fs1 (sbI (wrt nn (evS nn nu Nv)) pp (sbO (wrt nn (evS nn nu Nv)) (nn * nn) pp) (nn * nn - (pp + 1))))), (7, .int (fs2 (sbI (wrt nn (evS nn nu Nv)) pp (sbO (wrt nn (evS nn nu Nv)) (nn * nn) pp) (nn * nn - (pp + 1))))), (8, .int (nI (pp + 1)))] : List (Nat × Value)) = [(0, .ref a0), (1, .int (nI mo)), (2, .int (nI Nv)), (3, .int 1), (4, .long ((sbO (wrt nn (evS nn nu Nv)) (nn * nn) (pp + 1)).1)), (6, .int (fs1 (sbO (wrt nn (evS nn nu Nv)) (nn * nn) (pp + 1)))), (7, .int (fs2 (sbO (wrt nn (evS nn nu Nv)) (nn * nn) (pp + 1)))), (8, .int (nI (pp + 1)))] := (congrArg (List.cons _) (congrArg (List.cons _) (congrArg (List.cons _) (congrArg (List.cons _) (congr (congrArg List.cons (congrArg (fun z => (((4 : Nat), Value.long z) : Nat × Value)) eq_106)) (congr (congrArg List.cons (congrArg (fun z => (((6 : Nat), Value.int z) : Nat × Value)) eq_107)) (congr (congrArg List.cons (congrArg (fun z => (((7 : Nat), Value.int z) : Nat × Value)) eq_108)) (congrArg (List.cons _) rfl))))))))
                rw [eL] at hl
                exact ih_50 (pp + 1) (by omega)  _ _ _ hP hD hS hl
              | succ n ih_70 =>
                intro q hk_70  H locs ls hP hD hS hl
                refine lv_iload hx hb dX5_even_70 (lv_at hl 8 rfl) ?_
                refine lv_aload_n hx hb dX5_even_72 rfl (lv_at hl 0 rfl) ?_
                refine va_get (D := D) (ci := 5) (v := .int (nI nn)) (C := RX5) (T := TX5) (N := 19) hx hb hts in_X5_even_ok_X5 hown hK hP 0 rfl rfl 3 (by decide) hf16 (fun _ h9 => h9) rfl dX5_even_73 ?_
                refine lv_aload_n hx hb dX5_even_76 rfl (lv_at hl 0 rfl) ?_
                refine va_get (D := D) (ci := 5) (v := .int (nI nn)) (C := RX5) (T := TX5) (N := 19) hx hb hts in_X5_even_ok_X5 hown hK hP 0 rfl rfl 3 (by decide) hf16 (fun _ h9 => h9) rfl dX5_even_77 ?_
                refine lv_imul hx hb dX5_even_80 ?_
                refine xk_topi (y := nI (nn * nn)) (pk_mul _ _) ?_
                refine lv_icmp_ge (tgt := 123) hx hb dX5_even_81 (by decide) (fun c_81 => xk_ab c_81 (nI_ge (by omega) (by omega))) (fun c_81 => ?_)
                refine lv_aload_n hx hb dX5_even_84 rfl (lv_at hl 0 rfl) ?_
                refine lv_iload hx hb dX5_even_85 (lv_at hl 7 rfl) ?_
                refine lv_iload hx hb dX5_even_87 (lv_at hl 8 rfl) ?_
                have hPc := hP.sub (ws' := [(a0, .inr (5, [.int 0, .int (nI Wd), .int (nI Hh), .int (nI nn), .int na, .int nb, .int rk, .int pr, .int bk, .ref a1, .ref a2, .ref a3, .ref a4, .ref a5, .ref a6, .ref a7, .int lo, .long bt, .long bb])), (a2, .inl (cyI, 64, .inl (evS nn nu Nv)))]) [0, 1] rfl
                have hDc := hD.sub (ws' := [(a0, .inr (5, [.int 0, .int (nI Wd), .int (nI Hh), .int (nI nn), .int na, .int nb, .int rk, .int pr, .int bk, .ref a1, .ref a2, .ref a3, .ref a4, .ref a5, .ref a6, .ref a7, .int lo, .long bt, .long bb])), (a2, .inl (cyI, 64, .inl (evS nn nu Nv)))]) [0, 1] (by decide) rfl
                refine xk_calll (wr := []) (w2 := [(a0, .inr (5, [.int 0, .int (nI Wd), .int (nI Hh), .int (nI nn), .int na, .int nb, .int rk, .int pr, .int bk, .ref a1, .ref a2, .ref a3, .ref a4, .ref a5, .ref a6, .ref a7, .int lo, .long bt, .long bb])), (a2, .inl (cyI, 64, .inl (evS nn nu Nv)))]) (va_runV (As := [.int (nI pp), .int (nI (pp + 1 + q))]) (rest := []) hC0 (ct_X5_worthOf l D cyI cyZ a0 a1 a2 a3 a4 a5 a6 a7 _ 0 Wd Hh nn na nb rk pr bk lo bt bb (evS nn nu Nv) pp (pp + 1 + q) (by first | assumption | omega) (by first | assumption | omega) (by omega) (by omega) (by omega)) (cwV 2 hts gX5_even_X5_worthOf rfl rfl rfl (by decide +kernel) ⟨Nat.le_of_ble_eq_true rfl, Nat.le_of_ble_eq_true rfl⟩) ⟨xk_blind, va_recv hK hPc (ci := 5) (q0 := 0) rfl rfl, xk_pre hK hN hPc hDc⟩ rfl rfl hl.1 rfl (lv_room (Nat.le_of_ble_eq_true rfl)) dX5_even_89 ⟨Nat.le_of_ble_eq_true rfl, Nat.le_of_ble_eq_true rfl⟩) hP hD hS hA [0, 1] [] [0, 1] rfl rfl (by decide) (by decide) rfl (by decide) (fun H locs hP hD hS => ?_)
                refine lv_lstore (lv' := [(10, .long (wrt nn (evS nn nu Nv) pp (pp + 1 + q))), (0, .ref a0), (1, .int (nI mo)), (2, .int (nI Nv)), (3, .int 1), (4, .long ((sbI (wrt nn (evS nn nu Nv)) pp (sbO (wrt nn (evS nn nu Nv)) (nn * nn) pp) q).1)), (6, .int (fs1 (sbI (wrt nn (evS nn nu Nv)) pp (sbO (wrt nn (evS nn nu Nv)) (nn * nn) pp) q))), (7, .int (fs2 (sbI (wrt nn (evS nn nu Nv)) pp (sbO (wrt nn (evS nn nu Nv)) (nn * nn) pp) q))), (8, .int (nI pp)), (9, .int (nI (pp + 1 + q)))]) hx hb dX5_even_92 hl (by decide) rfl (fun ls hl => ?_)
                refine lv_lload hx hb dX5_even_94 (lv_at hl 0 rfl) ?_
                refine lv_lload hx hb dX5_even_96 (lv_at hl 5 rfl) ?_
                refine W.lcmp hx hb dX5_even_98 ?_
                refine lv_if_gt (tgt := 105) hx hb dX5_even_99 (by decide) (fun c_99 => ?_) (fun c_99 => ?_)
                · have c_99 : ¬ wrt nn (evS nn nu Nv) pp (pp + 1 + q) ≤ (sbI (wrt nn (evS nn nu Nv)) pp (sbO (wrt nn (evS nn nu Nv)) (nn * nn) pp) q).1 := Int64.not_le.mpr ((lg_cmp_gt _ _).mp c_99)
                  refine lv_lload hx hb dX5_even_105 (lv_at hl 0 rfl) ?_
                  refine lv_lstore (lv' := [(4, .long (wrt nn (evS nn nu Nv) pp (pp + 1 + q))), (10, .long (wrt nn (evS nn nu Nv) pp (pp + 1 + q))), (0, .ref a0), (1, .int (nI mo)), (2, .int (nI Nv)), (3, .int 1), (6, .int (fs1 (sbI (wrt nn (evS nn nu Nv)) pp (sbO (wrt nn (evS nn nu Nv)) (nn * nn) pp) q))), (7, .int (fs2 (sbI (wrt nn (evS nn nu Nv)) pp (sbO (wrt nn (evS nn nu Nv)) (nn * nn) pp) q))), (8, .int (nI pp)), (9, .int (nI (pp + 1 + q)))]) hx hb dX5_even_107 hl (by decide) rfl (fun ls hl => ?_)
                  refine lv_iload hx hb dX5_even_109 (lv_at hl 8 rfl) ?_
                  refine lv_istore (lv' := [(6, .int (nI pp)), (4, .long (wrt nn (evS nn nu Nv) pp (pp + 1 + q))), (10, .long (wrt nn (evS nn nu Nv) pp (pp + 1 + q))), (0, .ref a0), (1, .int (nI mo)), (2, .int (nI Nv)), (3, .int 1), (7, .int (fs2 (sbI (wrt nn (evS nn nu Nv)) pp (sbO (wrt nn (evS nn nu Nv)) (nn * nn) pp) q))), (8, .int (nI pp)), (9, .int (nI (pp + 1 + q)))]) hx hb dX5_even_111 hl (by decide) rfl (fun ls hl => ?_)
                  refine lv_iload hx hb dX5_even_113 (lv_at hl 9 rfl) ?_
                  refine lv_istore (lv' := [(7, .int (nI (pp + 1 + q))), (6, .int (nI pp)), (4, .long (wrt nn (evS nn nu Nv) pp (pp + 1 + q))), (10, .long (wrt nn (evS nn nu Nv) pp (pp + 1 + q))), (0, .ref a0), (1, .int (nI mo)), (2, .int (nI Nv)), (3, .int 1), (8, .int (nI pp)), (9, .int (nI (pp + 1 + q)))]) hx hb dX5_even_115 hl (by decide) rfl (fun ls hl => ?_)
                  refine lv_iinc (v := nI (pp + 1 + q + 1)) (lv' := [(9, .int (nI (pp + 1 + q + 1))), (7, .int (nI (pp + 1 + q))), (6, .int (nI pp)), (4, .long (wrt nn (evS nn nu Nv) pp (pp + 1 + q))), (10, .long (wrt nn (evS nn nu Nv) pp (pp + 1 + q))), (0, .ref a0), (1, .int (nI mo)), (2, .int (nI Nv)), (3, .int 1), (8, .int (nI pp))]) hx hb dX5_even_117 hl (k := 9) rfl (nI_1 _) (by decide) rfl (fun ls hl => ?_)
                  refine lv_goto (tgt := 70) hx hb dX5_even_120 (by decide) ?_
                  have eq_143 : (wrt nn (evS nn nu Nv) pp (pp + 1 + q) : Int64) = (sbI (wrt nn (evS nn nu Nv)) pp (sbO (wrt nn (evS nn nu Nv)) (nn * nn) pp) (q + 1)).1 := by rw [sbI_yes c_99]
                  have eq_144 : (nI pp : Int32) = fs1 (sbI (wrt nn (evS nn nu Nv)) pp (sbO (wrt nn (evS nn nu Nv)) (nn * nn) pp) (q + 1)) := by rw [sbI_yes c_99]; exact fs1_y (sb_pos (by omega) c_99)
                  have eq_145 : (nI (pp + 1 + q) : Int32) = fs2 (sbI (wrt nn (evS nn nu Nv)) pp (sbO (wrt nn (evS nn nu Nv)) (nn * nn) pp) (q + 1)) := by rw [sbI_yes c_99]; exact fs2_y (sb_pos (by omega) c_99)
                  have eq_146 : (nI (pp + 1 + q + 1) : Int32) = nI (pp + 1 + (q + 1)) := rfl
                  have hl := lv_sub (l' := [(0, .ref a0), (1, .int (nI mo)), (2, .int (nI Nv)), (3, .int 1), (4, .long (wrt nn (evS nn nu Nv) pp (pp + 1 + q))), (6, .int (nI pp)), (7, .int (nI (pp + 1 + q))), (8, .int (nI pp)), (9, .int (nI (pp + 1 + q + 1)))]) hl [5, 6, 7, 8, 3, 2, 1, 9, 0] rfl
                  have eL : ([(0, .ref a0), (1, .int (nI mo)), (2, .int (nI Nv)), (3, .int 1), (4, .long (wrt nn (evS nn nu Nv) pp (pp + 1 + q))), (6, .int (nI pp)), (7, .int (nI (pp + 1 + q))), (8, .int (nI pp)), (9, .int (nI (pp + 1 + q + 1)))] : List (Nat × Value)) = [(0, .ref a0), (1, .int (nI mo)), (2, .int (nI Nv)), (3, .int 1), (4, .long ((sbI (wrt nn (evS nn nu Nv)) pp (sbO (wrt nn (evS nn nu Nv)) (nn * nn) pp) (q + 1)).1)), (6, .int (fs1 (sbI (wrt nn (evS nn nu Nv)) pp (sbO (wrt nn (evS nn nu Nv)) (nn * nn) pp) (q + 1)))), (7, .int (fs2 (sbI (wrt nn (evS nn nu Nv)) pp (sbO (wrt nn (evS nn nu Nv)) (nn * nn) pp) (q + 1)))), (8, .int (nI pp)), (9, .int (nI (pp + 1 + (q + 1))))] := (congrArg (List.cons _) (congrArg (List.cons _) (congrArg (List.cons _) (congrArg (List.cons _) (congr (congrArg List.cons (congrArg (fun z => (((4 : Nat), Value.long z) : Nat × Value)) eq_143)) (congr (congrArg List.cons (congrArg (fun z => (((6 : Nat), Value.int z) : Nat × Value)) eq_144)) (congr (congrArg List.cons (congrArg (fun z => (((7 : Nat), Value.int z) : Nat × Value)) eq_145)) (congrArg (List.cons _) (congr (congrArg List.cons (congrArg (fun z => (((9 : Nat), Value.int z) : Nat × Value)) eq_146)) rfl)))))))))
                  rw [eL] at hl
                  exact ih_70 (q + 1) (by omega)  _ _ _ hP hD hS hl
                · have c_99 : wrt nn (evS nn nu Nv) pp (pp + 1 + q) ≤ (sbI (wrt nn (evS nn nu Nv)) pp (sbO (wrt nn (evS nn nu Nv)) (nn * nn) pp) q).1 := Int64.not_lt.mp (fun h => c_99 ((lg_cmp_gt _ _).mpr h))
                  refine lv_goto (tgt := 117) hx hb dX5_even_102 (by decide) ?_
                  refine lv_iinc (v := nI (pp + 1 + q + 1)) (lv' := [(9, .int (nI (pp + 1 + q + 1))), (10, .long (wrt nn (evS nn nu Nv) pp (pp + 1 + q))), (0, .ref a0), (1, .int (nI mo)), (2, .int (nI Nv)), (3, .int 1), (4, .long ((sbI (wrt nn (evS nn nu Nv)) pp (sbO (wrt nn (evS nn nu Nv)) (nn * nn) pp) q).1)), (6, .int (fs1 (sbI (wrt nn (evS nn nu Nv)) pp (sbO (wrt nn (evS nn nu Nv)) (nn * nn) pp) q))), (7, .int (fs2 (sbI (wrt nn (evS nn nu Nv)) pp (sbO (wrt nn (evS nn nu Nv)) (nn * nn) pp) q))), (8, .int (nI pp))]) hx hb dX5_even_117 hl (k := 9) rfl (nI_1 _) (by decide) rfl (fun ls hl => ?_)
                  refine lv_goto (tgt := 70) hx hb dX5_even_120 (by decide) ?_
                  have eq_155 : ((sbI (wrt nn (evS nn nu Nv)) pp (sbO (wrt nn (evS nn nu Nv)) (nn * nn) pp) q).1 : Int64) = (sbI (wrt nn (evS nn nu Nv)) pp (sbO (wrt nn (evS nn nu Nv)) (nn * nn) pp) (q + 1)).1 := by rw [sbI_no c_99]
                  have eq_156 : (fs1 (sbI (wrt nn (evS nn nu Nv)) pp (sbO (wrt nn (evS nn nu Nv)) (nn * nn) pp) q) : Int32) = fs1 (sbI (wrt nn (evS nn nu Nv)) pp (sbO (wrt nn (evS nn nu Nv)) (nn * nn) pp) (q + 1)) := by rw [sbI_no c_99]
                  have eq_157 : (fs2 (sbI (wrt nn (evS nn nu Nv)) pp (sbO (wrt nn (evS nn nu Nv)) (nn * nn) pp) q) : Int32) = fs2 (sbI (wrt nn (evS nn nu Nv)) pp (sbO (wrt nn (evS nn nu Nv)) (nn * nn) pp) (q + 1)) := by rw [sbI_no c_99]
                  have eq_158 : (nI (pp + 1 + q + 1) : Int32) = nI (pp + 1 + (q + 1)) := rfl
                  have hl := lv_sub (l' := [(0, .ref a0), (1, .int (nI mo)), (2, .int (nI Nv)), (3, .int 1), (4, .long ((sbI (wrt nn (evS nn nu Nv)) pp (sbO (wrt nn (evS nn nu Nv)) (nn * nn) pp) q).1)), (6, .int (fs1 (sbI (wrt nn (evS nn nu Nv)) pp (sbO (wrt nn (evS nn nu Nv)) (nn * nn) pp) q))), (7, .int (fs2 (sbI (wrt nn (evS nn nu Nv)) pp (sbO (wrt nn (evS nn nu Nv)) (nn * nn) pp) q))), (8, .int (nI pp)), (9, .int (nI (pp + 1 + q + 1)))]) hl [2, 3, 4, 5, 6, 7, 8, 9, 0] rfl
                  have eL : ([(0, .ref a0), (1, .int (nI mo)), (2, .int (nI Nv)), (3, .int 1), (4, .long ((sbI (wrt nn (evS nn nu Nv)) pp (sbO (wrt nn (evS nn nu Nv)) (nn * nn) pp) q).1)), (6, .int (fs1 (sbI (wrt nn (evS nn nu Nv)) pp (sbO (wrt nn (evS nn nu Nv)) (nn * nn) pp) q))), (7, .int (fs2 (sbI (wrt nn (evS nn nu Nv)) pp (sbO (wrt nn (evS nn nu Nv)) (nn * nn) pp) q))), (8, .int (nI pp)), (9, .int (nI (pp + 1 + q + 1)))] : List (Nat × Value)) = [(0, .ref a0), (1, .int (nI mo)), (2, .int (nI Nv)), (3, .int 1), (4, .long ((sbI (wrt nn (evS nn nu Nv)) pp (sbO (wrt nn (evS nn nu Nv)) (nn * nn) pp) (q + 1)).1)), (6, .int (fs1 (sbI (wrt nn (evS nn nu Nv)) pp (sbO (wrt nn (evS nn nu Nv)) (nn * nn) pp) (q + 1)))), (7, .int (fs2 (sbI (wrt nn (evS nn nu Nv)) pp (sbO (wrt nn (evS nn nu Nv)) (nn * nn) pp) (q + 1)))), (8, .int (nI pp)), (9, .int (nI (pp + 1 + (q + 1))))] := (congrArg (List.cons _) (congrArg (List.cons _) (congrArg (List.cons _) (congrArg (List.cons _) (congr (congrArg List.cons (congrArg (fun z => (((4 : Nat), Value.long z) : Nat × Value)) eq_155)) (congr (congrArg List.cons (congrArg (fun z => (((6 : Nat), Value.int z) : Nat × Value)) eq_156)) (congr (congrArg List.cons (congrArg (fun z => (((7 : Nat), Value.int z) : Nat × Value)) eq_157)) (congrArg (List.cons _) (congr (congrArg List.cons (congrArg (fun z => (((9 : Nat), Value.int z) : Nat × Value)) eq_158)) rfl)))))))))
                  rw [eL] at hl
                  exact ih_70 (q + 1) (by omega)  _ _ _ hP hD hS hl
            have eq_163 : ((sbO (wrt nn (evS nn nu Nv)) (nn * nn) pp).1 : Int64) = (sbI (wrt nn (evS nn nu Nv)) pp (sbO (wrt nn (evS nn nu Nv)) (nn * nn) pp) 0).1 := rfl
            have eq_164 : (fs1 (sbO (wrt nn (evS nn nu Nv)) (nn * nn) pp) : Int32) = fs1 (sbI (wrt nn (evS nn nu Nv)) pp (sbO (wrt nn (evS nn nu Nv)) (nn * nn) pp) 0) := rfl
            have eq_165 : (fs2 (sbO (wrt nn (evS nn nu Nv)) (nn * nn) pp) : Int32) = fs2 (sbI (wrt nn (evS nn nu Nv)) pp (sbO (wrt nn (evS nn nu Nv)) (nn * nn) pp) 0) := rfl
            have eq_166 : (nI pp + 1 : Int32) = nI (pp + 1 + 0) := nI_1 pp
            have hl := lv_sub (l' := [(0, .ref a0), (1, .int (nI mo)), (2, .int (nI Nv)), (3, .int 1), (4, .long ((sbO (wrt nn (evS nn nu Nv)) (nn * nn) pp).1)), (6, .int (fs1 (sbO (wrt nn (evS nn nu Nv)) (nn * nn) pp))), (7, .int (fs2 (sbO (wrt nn (evS nn nu Nv)) (nn * nn) pp))), (8, .int (nI pp)), (9, .int (nI pp + 1))]) hl [1, 2, 3, 4, 5, 6, 7, 8, 0] rfl
            have eL : ([(0, .ref a0), (1, .int (nI mo)), (2, .int (nI Nv)), (3, .int 1), (4, .long ((sbO (wrt nn (evS nn nu Nv)) (nn * nn) pp).1)), (6, .int (fs1 (sbO (wrt nn (evS nn nu Nv)) (nn * nn) pp))), (7, .int (fs2 (sbO (wrt nn (evS nn nu Nv)) (nn * nn) pp))), (8, .int (nI pp)), (9, .int (nI pp + 1))] : List (Nat × Value)) = [(0, .ref a0), (1, .int (nI mo)), (2, .int (nI Nv)), (3, .int 1), (4, .long ((sbI (wrt nn (evS nn nu Nv)) pp (sbO (wrt nn (evS nn nu Nv)) (nn * nn) pp) 0).1)), (6, .int (fs1 (sbI (wrt nn (evS nn nu Nv)) pp (sbO (wrt nn (evS nn nu Nv)) (nn * nn) pp) 0))), (7, .int (fs2 (sbI (wrt nn (evS nn nu Nv)) pp (sbO (wrt nn (evS nn nu Nv)) (nn * nn) pp) 0))), (8, .int (nI pp)), (9, .int (nI (pp + 1 + 0)))] := (congrArg (List.cons _) (congrArg (List.cons _) (congrArg (List.cons _) (congrArg (List.cons _) (congr (congrArg List.cons (congrArg (fun z => (((4 : Nat), Value.long z) : Nat × Value)) eq_163)) (congr (congrArg List.cons (congrArg (fun z => (((6 : Nat), Value.int z) : Nat × Value)) eq_164)) (congr (congrArg List.cons (congrArg (fun z => (((7 : Nat), Value.int z) : Nat × Value)) eq_165)) (congrArg (List.cons _) (congr (congrArg List.cons (congrArg (fun z => (((9 : Nat), Value.int z) : Nat × Value)) eq_166)) rfl)))))))))
            rw [eL] at hl
            exact L70 _ 0 (Nat.zero_add _)  _ _ _ hP hD hS hl
        have eq_171 : (0 : Int64) = (sbO (wrt nn (evS nn nu Nv)) (nn * nn) 0).1 := rfl
        have eq_172 : (-1 : Int32) = fs1 (sbO (wrt nn (evS nn nu Nv)) (nn * nn) 0) := fs1_00 _ _
        have eq_173 : (-1 : Int32) = fs2 (sbO (wrt nn (evS nn nu Nv)) (nn * nn) 0) := fs2_00 _ _
        have eq_174 : (0 : Int32) = nI 0 := rfl
        have hl := lv_sub (l' := [(0, .ref a0), (1, .int (nI mo)), (2, .int (nI Nv)), (3, .int 1), (4, .long 0), (6, .int (-1)), (7, .int (-1)), (8, .int 0)]) hl [4, 5, 6, 7, 3, 2, 1, 0] rfl
        have eL : ([(0, .ref a0), (1, .int (nI mo)), (2, .int (nI Nv)), (3, .int 1), (4, .long 0), (6, .int (-1)), (7, .int (-1)), (8, .int 0)] : List (Nat × Value)) = [(0, .ref a0), (1, .int (nI mo)), (2, .int (nI Nv)), (3, .int 1), (4, .long ((sbO (wrt nn (evS nn nu Nv)) (nn * nn) 0).1)), (6, .int (fs1 (sbO (wrt nn (evS nn nu Nv)) (nn * nn) 0))), (7, .int (fs2 (sbO (wrt nn (evS nn nu Nv)) (nn * nn) 0))), (8, .int (nI 0))] := (congrArg (List.cons _) (congrArg (List.cons _) (congrArg (List.cons _) (congrArg (List.cons _) (congr (congrArg List.cons (congrArg (fun z => (((4 : Nat), Value.long z) : Nat × Value)) eq_171)) (congr (congrArg List.cons (congrArg (fun z => (((6 : Nat), Value.int z) : Nat × Value)) eq_172)) (congr (congrArg List.cons (congrArg (fun z => (((7 : Nat), Value.int z) : Nat × Value)) eq_173)) (congr (congrArg List.cons (congrArg (fun z => (((8 : Nat), Value.int z) : Nat × Value)) eq_174)) rfl))))))))
        rw [eL] at hl
        exact L50 _ 0 (Nat.zero_add _)  _ _ _ hP hD hS hl
    | succ n ih_29 =>
      intro k hk_29  H locs ls hP hD hS hl
      refine lv_iload_n hx hb dX5_even_29 rfl (lv_at hl 2 rfl) ?_
      refine lv_iload_n hx hb dX5_even_30 rfl (lv_at hl 1 rfl) ?_
      refine lv_icmp_ge (tgt := 162) hx hb dX5_even_31 (by decide) (fun c_31 => xk_ab c_31 (nI_ge (by omega) (by omega))) (fun c_31 => ?_)
      refine lv_iload_n hx hb dX5_even_34 rfl (lv_at hl 3 rfl) ?_
      refine lv_if_eq (tgt := 162) hx hb dX5_even_35 (by decide) (fun c_35 => xk_ab c_35 ((by decide : ¬ (1 : Int32) = 0))) (fun c_35 => ?_)
      refine lv_lconst (v := 0) hx hb dX5_even_38 (by decide) ?_
      refine lv_lstore (lv' := [(4, .long 0), (0, .ref a0), (1, .int (nI mo)), (2, .int (nI k)), (3, .int 1)]) hx hb dX5_even_39 hl (by decide) rfl (fun ls hl => ?_)
      refine lv_iconst (v := (-1)) hx hb dX5_even_41 (by decide) ?_
      refine lv_istore (lv' := [(6, .int (-1)), (4, .long 0), (0, .ref a0), (1, .int (nI mo)), (2, .int (nI k)), (3, .int 1)]) hx hb dX5_even_42 hl (by decide) rfl (fun ls hl => ?_)
      refine lv_iconst (v := (-1)) hx hb dX5_even_44 (by decide) ?_
      refine lv_istore (lv' := [(7, .int (-1)), (6, .int (-1)), (4, .long 0), (0, .ref a0), (1, .int (nI mo)), (2, .int (nI k)), (3, .int 1)]) hx hb dX5_even_45 hl (by decide) rfl (fun ls hl => ?_)
      refine lv_iconst (v := 0) hx hb dX5_even_47 (by decide) ?_
      refine lv_istore (lv' := [(8, .int 0), (7, .int (-1)), (6, .int (-1)), (4, .long 0), (0, .ref a0), (1, .int (nI mo)), (2, .int (nI k)), (3, .int 1)]) hx hb dX5_even_48 hl (by decide) rfl (fun ls hl => ?_)
      have L50 : ∀ (n pp : Nat), pp + n = (nn * nn) → ∀ (H : Heap) (locs : List Loc) (ls : Array Slot), va_P D vwCl [(a0, .inr (5, [.int 0, .int (nI Wd), .int (nI Hh), .int (nI nn), .int na, .int nb, .int rk, .int pr, .int bk, .ref a1, .ref a2, .ref a3, .ref a4, .ref a5, .ref a6, .ref a7, .int lo, .long bt, .long bb])), (a2, .inl (cyI, 64, .inl (evS nn nu k)))] H → va_D A [(a0, .inr (5, [.int 0, .int (nI Wd), .int (nI Hh), .int (nI nn), .int na, .int nb, .int rk, .int pr, .int bk, .ref a1, .ref a2, .ref a3, .ref a4, .ref a5, .ref a6, .ref a7, .int lo, .long bt, .long bb])), (a2, .inl (cyI, 64, .inl (evS nn nu k)))] → va_S A s.heap H locs → lv_has ls 12 [(0, .ref a0), (1, .int (nI mo)), (2, .int (nI k)), (3, .int 1), (4, .long ((sbO (wrt nn (evS nn nu k)) (nn * nn) pp).1)), (6, .int (fs1 (sbO (wrt nn (evS nn nu k)) (nn * nn) pp))), (7, .int (fs2 (sbO (wrt nn (evS nn nu k)) (nn * nn) pp))), (8, .int (nI pp))] → W p l e rm_X5_even_ok s m ([.ref a0, .int (nI mo)] : List Value).toArray below meth c H locs 0 0 (MQ below (xk_Qi D A (nI Nv) [(a0, .inr (5, [.int 0, .int (nI Wd), .int (nI Hh), .int (nI nn), .int na, .int nb, .int rk, .int pr, .int bk, .ref a1, .ref a2, .ref a3, .ref a4, .ref a5, .ref a6, .ref a7, .int lo, .long bt, .long bb])), (a2, .inl (cyI, 64, .inl (evS nn nu Nv)))]) ([.ref a0, .int (nI mo)] : List Value).toArray s 0 0 A) (F0 m 50 ls []) := by
        intro n
        induction n with
        | zero =>
          intro pp hk_50  H locs ls hP hD hS hl
          have hz_50 : nn * nn = pp := hk_50.symm
          subst hz_50
          refine lv_iload hx hb dX5_even_50 (lv_at hl 7 rfl) ?_
          refine lv_aload_n hx hb dX5_even_52 rfl (lv_at hl 0 rfl) ?_
          refine va_get (D := D) (ci := 5) (v := .int (nI nn)) (C := RX5) (T := TX5) (N := 19) hx hb hts in_X5_even_ok_X5 hown hK hP 0 rfl rfl 3 (by decide) hf16 (fun _ h9 => h9) rfl dX5_even_53 ?_
          refine lv_aload_n hx hb dX5_even_56 rfl (lv_at hl 0 rfl) ?_
          refine va_get (D := D) (ci := 5) (v := .int (nI nn)) (C := RX5) (T := TX5) (N := 19) hx hb hts in_X5_even_ok_X5 hown hK hP 0 rfl rfl 3 (by decide) hf16 (fun _ h9 => h9) rfl dX5_even_57 ?_
          refine lv_imul hx hb dX5_even_60 ?_
          refine xk_topi (y := nI (nn * nn)) (pk_mul _ _) ?_
          refine lv_icmp_ge (tgt := 129) hx hb dX5_even_61 (by decide) (fun c_61 => ?_) (fun c_61 => xk_ba c_61 (nI_le (Nat.le_refl _) (by omega)))
          refine lv_iload hx hb dX5_even_129 (lv_at hl 5 rfl) ?_
          refine lv_iconst (v := (-1)) hx hb dX5_even_131 (by decide) ?_
          refine lv_icmp_eq (tgt := 139) hx hb dX5_even_132 (by decide) (fun c_132 => xk_ab c_132 (fun h => nI_nm1 (by have h1 := sbO_in (hgo k (by omega)); exact Nat.lt_of_lt_of_le (Nat.lt_trans h1.1 h1.2) (by omega)) ((fs1_t (hgo k (by omega))).symm.trans h))) (fun c_132 => ?_)
          refine lv_iconst (v := 1) hx hb dX5_even_135 (by decide) ?_
          refine lv_goto (tgt := 140) hx hb dX5_even_136 (by decide) ?_
          refine lv_istore_n (lv' := [(3, .int 1), (0, .ref a0), (1, .int (nI mo)), (2, .int (nI k)), (4, .long ((sbO (wrt nn (evS nn nu k)) (nn * nn) (nn * nn)).1)), (6, .int (fs1 (sbO (wrt nn (evS nn nu k)) (nn * nn) (nn * nn)))), (7, .int (fs2 (sbO (wrt nn (evS nn nu k)) (nn * nn) (nn * nn)))), (8, .int (nI (nn * nn)))]) hx hb dX5_even_140 rfl hl (by decide) rfl (fun ls hl => ?_)
          refine lv_iload_n hx hb dX5_even_141 rfl (lv_at hl 0 rfl) ?_
          refine lv_if_ne (tgt := 148) hx hb dX5_even_142 (by decide) (fun c_142 => ?_) (fun c_142 => xk_ab c_142 ((by decide : ¬ (1 : Int32) = 0)))
          refine lv_aload_n hx hb dX5_even_148 rfl (lv_at hl 1 rfl) ?_
          refine lv_iload hx hb dX5_even_149 (lv_at hl 5 rfl) ?_
          refine xk_topi (y := nI (bp nn (evS nn nu k)).2.1) (fs1_t (hgo k (by omega))) ?_
          refine lv_iload hx hb dX5_even_151 (lv_at hl 6 rfl) ?_
          refine xk_topi (y := nI (bp nn (evS nn nu k)).2.2) (fs2_t (hgo k (by omega))) ?_
          have hPc := hP.sub (ws' := [(a0, .inr (5, [.int 0, .int (nI Wd), .int (nI Hh), .int (nI nn), .int na, .int nb, .int rk, .int pr, .int bk, .ref a1, .ref a2, .ref a3, .ref a4, .ref a5, .ref a6, .ref a7, .int lo, .long bt, .long bb])), (a2, .inl (cyI, 64, .inl (evS nn nu k)))]) [0, 1] rfl
          have hDc := hD.sub (ws' := [(a0, .inr (5, [.int 0, .int (nI Wd), .int (nI Hh), .int (nI nn), .int na, .int nb, .int rk, .int pr, .int bk, .ref a1, .ref a2, .ref a3, .ref a4, .ref a5, .ref a6, .ref a7, .int lo, .long bt, .long bb])), (a2, .inl (cyI, 64, .inl (evS nn nu k)))]) [0, 1] (by decide) rfl
          refine xk_callv (wr := []) (w2 := [(a0, .inr (5, [.int 0, .int (nI Wd), .int (nI Hh), .int (nI nn), .int na, .int nb, .int rk, .int pr, .int bk, .ref a1, .ref a2, .ref a3, .ref a4, .ref a5, .ref a6, .ref a7, .int lo, .long bt, .long bb])), (a2, .inl (cyI, 64, .inl (sw (evS nn nu k) ((bp nn (evS nn nu k)).2.1) ((bp nn (evS nn nu k)).2.2))))]) (va_runV (As := [.int (nI (bp nn (evS nn nu k)).2.1), .int (nI (bp nn (evS nn nu k)).2.2)]) (rest := []) hC0 (ct_X5_change l D cyI cyZ a0 a1 a2 a3 a4 a5 a6 a7 _ 0 Wd Hh nn na nb rk pr bk lo bt bb (evS nn nu k) ((bp nn (evS nn nu k)).2.1) ((bp nn (evS nn nu k)).2.2) (by have h1 := sbO_in (hgo k (by omega)); exact Nat.lt_of_lt_of_le (Nat.lt_trans h1.1 h1.2) (by omega)) (by have h1 := sbO_in (hgo k (by omega)); exact Nat.lt_of_lt_of_le h1.2 (by omega))) (cwV 2 hts gX5_even_X5_change rfl rfl rfl (by decide +kernel) ⟨Nat.le_of_ble_eq_true rfl, Nat.le_of_ble_eq_true rfl⟩) ⟨xk_blind, va_recv hK hPc (ci := 5) (q0 := 0) rfl rfl, xk_pre hK hN hPc hDc⟩ rfl rfl hl.1 rfl (lv_room (Nat.le_of_ble_eq_true rfl)) dX5_even_153 ⟨Nat.le_of_ble_eq_true rfl, Nat.le_of_ble_eq_true rfl⟩) hP hD hS hA [0, 1] [] [0, 1] rfl rfl (by decide) (by decide) rfl (by decide) (fun H locs hP hD hS => ?_)
          refine lv_iinc (v := nI (k + 1)) (lv' := [(2, .int (nI (k + 1))), (3, .int 1), (0, .ref a0), (1, .int (nI mo)), (4, .long ((sbO (wrt nn (evS nn nu k)) (nn * nn) (nn * nn)).1)), (6, .int (fs1 (sbO (wrt nn (evS nn nu k)) (nn * nn) (nn * nn)))), (7, .int (fs2 (sbO (wrt nn (evS nn nu k)) (nn * nn) (nn * nn)))), (8, .int (nI (nn * nn)))]) hx hb dX5_even_156 hl (k := 3) rfl (nI_1 _) (by decide) rfl (fun ls hl => ?_)
          refine lv_goto (tgt := 29) hx hb dX5_even_159 (by decide) ?_
          have eq_227 : (sw (evS nn nu k) ((bp nn (evS nn nu k)).2.1) ((bp nn (evS nn nu k)).2.2) : Nat → Int32) = evS nn nu (k + 1) := rfl
          have eW : ([(a0, .inr (5, [.int 0, .int (nI Wd), .int (nI Hh), .int (nI nn), .int na, .int nb, .int rk, .int pr, .int bk, .ref a1, .ref a2, .ref a3, .ref a4, .ref a5, .ref a6, .ref a7, .int lo, .long bt, .long bb])), (a2, .inl (cyI, 64, .inl (sw (evS nn nu k) ((bp nn (evS nn nu k)).2.1) ((bp nn (evS nn nu k)).2.2))))] : va_W) = [(a0, .inr (5, [.int 0, .int (nI Wd), .int (nI Hh), .int (nI nn), .int na, .int nb, .int rk, .int pr, .int bk, .ref a1, .ref a2, .ref a3, .ref a4, .ref a5, .ref a6, .ref a7, .int lo, .long bt, .long bb])), (a2, .inl (cyI, 64, .inl (evS nn nu (k + 1))))] := (congrArg (List.cons _) (congr (congrArg List.cons (congrArg (fun z => ((a2, (Sum.inl (cyI, 64, Sum.inl z) : va_E)) : Nat × va_E)) eq_227)) rfl))
          rw [eW] at hP hD
          have hl := lv_sub (l' := [(0, .ref a0), (1, .int (nI mo)), (2, .int (nI (k + 1))), (3, .int 1)]) hl [2, 3, 0, 1] rfl
          exact ih_29 (k + 1) (by omega)  _ _ _ hP hD hS hl
        | succ n ih_50 =>
          intro pp hk_50  H locs ls hP hD hS hl
          refine lv_iload hx hb dX5_even_50 (lv_at hl 7 rfl) ?_
          refine lv_aload_n hx hb dX5_even_52 rfl (lv_at hl 0 rfl) ?_
          refine va_get (D := D) (ci := 5) (v := .int (nI nn)) (C := RX5) (T := TX5) (N := 19) hx hb hts in_X5_even_ok_X5 hown hK hP 0 rfl rfl 3 (by decide) hf16 (fun _ h9 => h9) rfl dX5_even_53 ?_
          refine lv_aload_n hx hb dX5_even_56 rfl (lv_at hl 0 rfl) ?_
          refine va_get (D := D) (ci := 5) (v := .int (nI nn)) (C := RX5) (T := TX5) (N := 19) hx hb hts in_X5_even_ok_X5 hown hK hP 0 rfl rfl 3 (by decide) hf16 (fun _ h9 => h9) rfl dX5_even_57 ?_
          refine lv_imul hx hb dX5_even_60 ?_
          refine xk_topi (y := nI (nn * nn)) (pk_mul _ _) ?_
          refine lv_icmp_ge (tgt := 129) hx hb dX5_even_61 (by decide) (fun c_61 => xk_ab c_61 (nI_ge (by omega) (by omega))) (fun c_61 => ?_)
          refine lv_iload hx hb dX5_even_64 (lv_at hl 7 rfl) ?_
          refine lv_iconst (v := 1) hx hb dX5_even_66 (by decide) ?_
          refine lv_iadd hx hb dX5_even_67 ?_
          refine lv_istore (lv' := [(9, .int (nI pp + 1)), (0, .ref a0), (1, .int (nI mo)), (2, .int (nI k)), (3, .int 1), (4, .long ((sbO (wrt nn (evS nn nu k)) (nn * nn) pp).1)), (6, .int (fs1 (sbO (wrt nn (evS nn nu k)) (nn * nn) pp))), (7, .int (fs2 (sbO (wrt nn (evS nn nu k)) (nn * nn) pp))), (8, .int (nI pp))]) hx hb dX5_even_68 hl (by decide) rfl (fun ls hl => ?_)
          have L70 : ∀ (n q : Nat), q + n = (nn * nn - (pp + 1)) → ∀ (H : Heap) (locs : List Loc) (ls : Array Slot), va_P D vwCl [(a0, .inr (5, [.int 0, .int (nI Wd), .int (nI Hh), .int (nI nn), .int na, .int nb, .int rk, .int pr, .int bk, .ref a1, .ref a2, .ref a3, .ref a4, .ref a5, .ref a6, .ref a7, .int lo, .long bt, .long bb])), (a2, .inl (cyI, 64, .inl (evS nn nu k)))] H → va_D A [(a0, .inr (5, [.int 0, .int (nI Wd), .int (nI Hh), .int (nI nn), .int na, .int nb, .int rk, .int pr, .int bk, .ref a1, .ref a2, .ref a3, .ref a4, .ref a5, .ref a6, .ref a7, .int lo, .long bt, .long bb])), (a2, .inl (cyI, 64, .inl (evS nn nu k)))] → va_S A s.heap H locs → lv_has ls 12 [(0, .ref a0), (1, .int (nI mo)), (2, .int (nI k)), (3, .int 1), (4, .long ((sbI (wrt nn (evS nn nu k)) pp (sbO (wrt nn (evS nn nu k)) (nn * nn) pp) q).1)), (6, .int (fs1 (sbI (wrt nn (evS nn nu k)) pp (sbO (wrt nn (evS nn nu k)) (nn * nn) pp) q))), (7, .int (fs2 (sbI (wrt nn (evS nn nu k)) pp (sbO (wrt nn (evS nn nu k)) (nn * nn) pp) q))), (8, .int (nI pp)), (9, .int (nI (pp + 1 + q)))] → W p l e rm_X5_even_ok s m ([.ref a0, .int (nI mo)] : List Value).toArray below meth c H locs 0 0 (MQ below (xk_Qi D A (nI Nv) [(a0, .inr (5, [.int 0, .int (nI Wd), .int (nI Hh), .int (nI nn), .int na, .int nb, .int rk, .int pr, .int bk, .ref a1, .ref a2, .ref a3, .ref a4, .ref a5, .ref a6, .ref a7, .int lo, .long bt, .long bb])), (a2, .inl (cyI, 64, .inl (evS nn nu Nv)))]) ([.ref a0, .int (nI mo)] : List Value).toArray s 0 0 A) (F0 m 70 ls []) := by
            intro n
            induction n with
            | zero =>
              intro q hk_70  H locs ls hP hD hS hl
              have hz_70 : nn * nn - (pp + 1) = q := hk_70.symm
              subst hz_70
              refine lv_iload hx hb dX5_even_70 (lv_at hl 8 rfl) ?_
              refine lv_aload_n hx hb dX5_even_72 rfl (lv_at hl 0 rfl) ?_
              refine va_get (D := D) (ci := 5) (v := .int (nI nn)) (C := RX5) (T := TX5) (N := 19) hx hb hts in_X5_even_ok_X5 hown hK hP 0 rfl rfl 3 (by decide) hf16 (fun _ h9 => h9) rfl dX5_even_73 ?_
              refine lv_aload_n hx hb dX5_even_76 rfl (lv_at hl 0 rfl) ?_
              refine va_get (D := D) (ci := 5) (v := .int (nI nn)) (C := RX5) (T := TX5) (N := 19) hx hb hts in_X5_even_ok_X5 hown hK hP 0 rfl rfl 3 (by decide) hf16 (fun _ h9 => h9) rfl dX5_even_77 ?_
              refine lv_imul hx hb dX5_even_80 ?_
              refine xk_topi (y := nI (nn * nn)) (pk_mul _ _) ?_
              refine lv_icmp_ge (tgt := 123) hx hb dX5_even_81 (by decide) (fun c_81 => ?_) (fun c_81 => xk_ba c_81 (nI_le (by omega) (by omega)))
              refine lv_iinc (v := nI (pp + 1)) (lv' := [(8, .int (nI (pp + 1))), (0, .ref a0), (1, .int (nI mo)), (2, .int (nI k)), (3, .int 1), (4, .long ((sbI (wrt nn (evS nn nu k)) pp (sbO (wrt nn (evS nn nu k)) (nn * nn) pp) (nn * nn - (pp + 1))).1)), (6, .int (fs1 (sbI (wrt nn (evS nn nu k)) pp (sbO (wrt nn (evS nn nu k)) (nn * nn) pp) (nn * nn - (pp + 1))))), (7, .int (fs2 (sbI (wrt nn (evS nn nu k)) pp (sbO (wrt nn (evS nn nu k)) (nn * nn) pp) (nn * nn - (pp + 1))))), (9, .int (nI (pp + 1 + (nn * nn - (pp + 1)))))]) hx hb dX5_even_123 hl (k := 7) rfl (nI_1 _) (by decide) rfl (fun ls hl => ?_)
              refine lv_goto (tgt := 50) hx hb dX5_even_126 (by decide) ?_
              have eq_263 : ((sbI (wrt nn (evS nn nu k)) pp (sbO (wrt nn (evS nn nu k)) (nn * nn) pp) (nn * nn - (pp + 1))).1 : Int64) = (sbO (wrt nn (evS nn nu k)) (nn * nn) (pp + 1)).1 := rfl
              have eq_264 : (fs1 (sbI (wrt nn (evS nn nu k)) pp (sbO (wrt nn (evS nn nu k)) (nn * nn) pp) (nn * nn - (pp + 1))) : Int32) = fs1 (sbO (wrt nn (evS nn nu k)) (nn * nn) (pp + 1)) := rfl
              have eq_265 : (fs2 (sbI (wrt nn (evS nn nu k)) pp (sbO (wrt nn (evS nn nu k)) (nn * nn) pp) (nn * nn - (pp + 1))) : Int32) = fs2 (sbO (wrt nn (evS nn nu k)) (nn * nn) (pp + 1)) := rfl
              have hl := lv_sub (l' := [(0, .ref a0), (1, .int (nI mo)), (2, .int (nI k)), (3, .int 1), (4, .long ((sbI (wrt nn (evS nn nu k)) pp (sbO (wrt nn (evS nn nu k)) (nn * nn) pp) (nn * nn - (pp + 1))).1)), (6, .int (fs1 (sbI (wrt nn (evS nn nu k)) pp (sbO (wrt nn (evS nn nu k)) (nn * nn) pp) (nn * nn - (pp + 1))))), (7, .int (fs2 (sbI (wrt nn (evS nn nu k)) pp (sbO (wrt nn (evS nn nu k)) (nn * nn) pp) (nn * nn - (pp + 1))))), (8, .int (nI (pp + 1)))]) hl [1, 2, 3, 4, 5, 6, 7, 0] rfl
              have eL : ([(0, .ref a0), (1, .int (nI mo)), (2, .int (nI k)), (3, .int 1), (4, .long ((sbI (wrt nn (evS nn nu k)) pp (sbO (wrt nn (evS nn nu k)) (nn * nn) pp) (nn * nn - (pp + 1))).1)), (6, .int (fs1 (sbI (wrt nn (evS nn nu k)) pp (sbO (wrt nn (evS nn nu k)) (nn * nn) pp) (nn * nn - (pp + 1))))), (7, .int (fs2 (sbI (wrt nn (evS nn nu k)) pp (sbO (wrt nn (evS nn nu k)) (nn * nn) pp) (nn * nn - (pp + 1))))), (8, .int (nI (pp + 1)))] : List (Nat × Value)) = [(0, .ref a0), (1, .int (nI mo)), (2, .int (nI k)), (3, .int 1), (4, .long ((sbO (wrt nn (evS nn nu k)) (nn * nn) (pp + 1)).1)), (6, .int (fs1 (sbO (wrt nn (evS nn nu k)) (nn * nn) (pp + 1)))), (7, .int (fs2 (sbO (wrt nn (evS nn nu k)) (nn * nn) (pp + 1)))), (8, .int (nI (pp + 1)))] := (congrArg (List.cons _) (congrArg (List.cons _) (congrArg (List.cons _) (congrArg (List.cons _) (congr (congrArg List.cons (congrArg (fun z => (((4 : Nat), Value.long z) : Nat × Value)) eq_263)) (congr (congrArg List.cons (congrArg (fun z => (((6 : Nat), Value.int z) : Nat × Value)) eq_264)) (congr (congrArg List.cons (congrArg (fun z => (((7 : Nat), Value.int z) : Nat × Value)) eq_265)) (congrArg (List.cons _) rfl))))))))
              rw [eL] at hl
              exact ih_50 (pp + 1) (by omega)  _ _ _ hP hD hS hl
            | succ n ih_70 =>
              intro q hk_70  H locs ls hP hD hS hl
              refine lv_iload hx hb dX5_even_70 (lv_at hl 8 rfl) ?_
              refine lv_aload_n hx hb dX5_even_72 rfl (lv_at hl 0 rfl) ?_
              refine va_get (D := D) (ci := 5) (v := .int (nI nn)) (C := RX5) (T := TX5) (N := 19) hx hb hts in_X5_even_ok_X5 hown hK hP 0 rfl rfl 3 (by decide) hf16 (fun _ h9 => h9) rfl dX5_even_73 ?_
              refine lv_aload_n hx hb dX5_even_76 rfl (lv_at hl 0 rfl) ?_
              refine va_get (D := D) (ci := 5) (v := .int (nI nn)) (C := RX5) (T := TX5) (N := 19) hx hb hts in_X5_even_ok_X5 hown hK hP 0 rfl rfl 3 (by decide) hf16 (fun _ h9 => h9) rfl dX5_even_77 ?_
              refine lv_imul hx hb dX5_even_80 ?_
              refine xk_topi (y := nI (nn * nn)) (pk_mul _ _) ?_
              refine lv_icmp_ge (tgt := 123) hx hb dX5_even_81 (by decide) (fun c_81 => xk_ab c_81 (nI_ge (by omega) (by omega))) (fun c_81 => ?_)
              refine lv_aload_n hx hb dX5_even_84 rfl (lv_at hl 0 rfl) ?_
              refine lv_iload hx hb dX5_even_85 (lv_at hl 7 rfl) ?_
              refine lv_iload hx hb dX5_even_87 (lv_at hl 8 rfl) ?_
              have hPc := hP.sub (ws' := [(a0, .inr (5, [.int 0, .int (nI Wd), .int (nI Hh), .int (nI nn), .int na, .int nb, .int rk, .int pr, .int bk, .ref a1, .ref a2, .ref a3, .ref a4, .ref a5, .ref a6, .ref a7, .int lo, .long bt, .long bb])), (a2, .inl (cyI, 64, .inl (evS nn nu k)))]) [0, 1] rfl
              have hDc := hD.sub (ws' := [(a0, .inr (5, [.int 0, .int (nI Wd), .int (nI Hh), .int (nI nn), .int na, .int nb, .int rk, .int pr, .int bk, .ref a1, .ref a2, .ref a3, .ref a4, .ref a5, .ref a6, .ref a7, .int lo, .long bt, .long bb])), (a2, .inl (cyI, 64, .inl (evS nn nu k)))]) [0, 1] (by decide) rfl
              refine xk_calll (wr := []) (w2 := [(a0, .inr (5, [.int 0, .int (nI Wd), .int (nI Hh), .int (nI nn), .int na, .int nb, .int rk, .int pr, .int bk, .ref a1, .ref a2, .ref a3, .ref a4, .ref a5, .ref a6, .ref a7, .int lo, .long bt, .long bb])), (a2, .inl (cyI, 64, .inl (evS nn nu k)))]) (va_runV (As := [.int (nI pp), .int (nI (pp + 1 + q))]) (rest := []) hC0 (ct_X5_worthOf l D cyI cyZ a0 a1 a2 a3 a4 a5 a6 a7 _ 0 Wd Hh nn na nb rk pr bk lo bt bb (evS nn nu k) pp (pp + 1 + q) (by first | assumption | omega) (by first | assumption | omega) (by omega) (by omega) (by omega)) (cwV 2 hts gX5_even_X5_worthOf rfl rfl rfl (by decide +kernel) ⟨Nat.le_of_ble_eq_true rfl, Nat.le_of_ble_eq_true rfl⟩) ⟨xk_blind, va_recv hK hPc (ci := 5) (q0 := 0) rfl rfl, xk_pre hK hN hPc hDc⟩ rfl rfl hl.1 rfl (lv_room (Nat.le_of_ble_eq_true rfl)) dX5_even_89 ⟨Nat.le_of_ble_eq_true rfl, Nat.le_of_ble_eq_true rfl⟩) hP hD hS hA [0, 1] [] [0, 1] rfl rfl (by decide) (by decide) rfl (by decide) (fun H locs hP hD hS => ?_)
              refine lv_lstore (lv' := [(10, .long (wrt nn (evS nn nu k) pp (pp + 1 + q))), (0, .ref a0), (1, .int (nI mo)), (2, .int (nI k)), (3, .int 1), (4, .long ((sbI (wrt nn (evS nn nu k)) pp (sbO (wrt nn (evS nn nu k)) (nn * nn) pp) q).1)), (6, .int (fs1 (sbI (wrt nn (evS nn nu k)) pp (sbO (wrt nn (evS nn nu k)) (nn * nn) pp) q))), (7, .int (fs2 (sbI (wrt nn (evS nn nu k)) pp (sbO (wrt nn (evS nn nu k)) (nn * nn) pp) q))), (8, .int (nI pp)), (9, .int (nI (pp + 1 + q)))]) hx hb dX5_even_92 hl (by decide) rfl (fun ls hl => ?_)
              refine lv_lload hx hb dX5_even_94 (lv_at hl 0 rfl) ?_
              refine lv_lload hx hb dX5_even_96 (lv_at hl 5 rfl) ?_
              refine W.lcmp hx hb dX5_even_98 ?_
              refine lv_if_gt (tgt := 105) hx hb dX5_even_99 (by decide) (fun c_99 => ?_) (fun c_99 => ?_)
              · have c_99 : ¬ wrt nn (evS nn nu k) pp (pp + 1 + q) ≤ (sbI (wrt nn (evS nn nu k)) pp (sbO (wrt nn (evS nn nu k)) (nn * nn) pp) q).1 := Int64.not_le.mpr ((lg_cmp_gt _ _).mp c_99)
                refine lv_lload hx hb dX5_even_105 (lv_at hl 0 rfl) ?_
                refine lv_lstore (lv' := [(4, .long (wrt nn (evS nn nu k) pp (pp + 1 + q))), (10, .long (wrt nn (evS nn nu k) pp (pp + 1 + q))), (0, .ref a0), (1, .int (nI mo)), (2, .int (nI k)), (3, .int 1), (6, .int (fs1 (sbI (wrt nn (evS nn nu k)) pp (sbO (wrt nn (evS nn nu k)) (nn * nn) pp) q))), (7, .int (fs2 (sbI (wrt nn (evS nn nu k)) pp (sbO (wrt nn (evS nn nu k)) (nn * nn) pp) q))), (8, .int (nI pp)), (9, .int (nI (pp + 1 + q)))]) hx hb dX5_even_107 hl (by decide) rfl (fun ls hl => ?_)
                refine lv_iload hx hb dX5_even_109 (lv_at hl 8 rfl) ?_
                refine lv_istore (lv' := [(6, .int (nI pp)), (4, .long (wrt nn (evS nn nu k) pp (pp + 1 + q))), (10, .long (wrt nn (evS nn nu k) pp (pp + 1 + q))), (0, .ref a0), (1, .int (nI mo)), (2, .int (nI k)), (3, .int 1), (7, .int (fs2 (sbI (wrt nn (evS nn nu k)) pp (sbO (wrt nn (evS nn nu k)) (nn * nn) pp) q))), (8, .int (nI pp)), (9, .int (nI (pp + 1 + q)))]) hx hb dX5_even_111 hl (by decide) rfl (fun ls hl => ?_)
                refine lv_iload hx hb dX5_even_113 (lv_at hl 9 rfl) ?_
                refine lv_istore (lv' := [(7, .int (nI (pp + 1 + q))), (6, .int (nI pp)), (4, .long (wrt nn (evS nn nu k) pp (pp + 1 + q))), (10, .long (wrt nn (evS nn nu k) pp (pp + 1 + q))), (0, .ref a0), (1, .int (nI mo)), (2, .int (nI k)), (3, .int 1), (8, .int (nI pp)), (9, .int (nI (pp + 1 + q)))]) hx hb dX5_even_115 hl (by decide) rfl (fun ls hl => ?_)
                refine lv_iinc (v := nI (pp + 1 + q + 1)) (lv' := [(9, .int (nI (pp + 1 + q + 1))), (7, .int (nI (pp + 1 + q))), (6, .int (nI pp)), (4, .long (wrt nn (evS nn nu k) pp (pp + 1 + q))), (10, .long (wrt nn (evS nn nu k) pp (pp + 1 + q))), (0, .ref a0), (1, .int (nI mo)), (2, .int (nI k)), (3, .int 1), (8, .int (nI pp))]) hx hb dX5_even_117 hl (k := 9) rfl (nI_1 _) (by decide) rfl (fun ls hl => ?_)
                refine lv_goto (tgt := 70) hx hb dX5_even_120 (by decide) ?_
                have eq_300 : (wrt nn (evS nn nu k) pp (pp + 1 + q) : Int64) = (sbI (wrt nn (evS nn nu k)) pp (sbO (wrt nn (evS nn nu k)) (nn * nn) pp) (q + 1)).1 := by rw [sbI_yes c_99]
                have eq_301 : (nI pp : Int32) = fs1 (sbI (wrt nn (evS nn nu k)) pp (sbO (wrt nn (evS nn nu k)) (nn * nn) pp) (q + 1)) := by rw [sbI_yes c_99]; exact fs1_y (sb_pos (by omega) c_99)
                have eq_302 : (nI (pp + 1 + q) : Int32) = fs2 (sbI (wrt nn (evS nn nu k)) pp (sbO (wrt nn (evS nn nu k)) (nn * nn) pp) (q + 1)) := by rw [sbI_yes c_99]; exact fs2_y (sb_pos (by omega) c_99)
                have eq_303 : (nI (pp + 1 + q + 1) : Int32) = nI (pp + 1 + (q + 1)) := rfl
                have hl := lv_sub (l' := [(0, .ref a0), (1, .int (nI mo)), (2, .int (nI k)), (3, .int 1), (4, .long (wrt nn (evS nn nu k) pp (pp + 1 + q))), (6, .int (nI pp)), (7, .int (nI (pp + 1 + q))), (8, .int (nI pp)), (9, .int (nI (pp + 1 + q + 1)))]) hl [5, 6, 7, 8, 3, 2, 1, 9, 0] rfl
                have eL : ([(0, .ref a0), (1, .int (nI mo)), (2, .int (nI k)), (3, .int 1), (4, .long (wrt nn (evS nn nu k) pp (pp + 1 + q))), (6, .int (nI pp)), (7, .int (nI (pp + 1 + q))), (8, .int (nI pp)), (9, .int (nI (pp + 1 + q + 1)))] : List (Nat × Value)) = [(0, .ref a0), (1, .int (nI mo)), (2, .int (nI k)), (3, .int 1), (4, .long ((sbI (wrt nn (evS nn nu k)) pp (sbO (wrt nn (evS nn nu k)) (nn * nn) pp) (q + 1)).1)), (6, .int (fs1 (sbI (wrt nn (evS nn nu k)) pp (sbO (wrt nn (evS nn nu k)) (nn * nn) pp) (q + 1)))), (7, .int (fs2 (sbI (wrt nn (evS nn nu k)) pp (sbO (wrt nn (evS nn nu k)) (nn * nn) pp) (q + 1)))), (8, .int (nI pp)), (9, .int (nI (pp + 1 + (q + 1))))] := (congrArg (List.cons _) (congrArg (List.cons _) (congrArg (List.cons _) (congrArg (List.cons _) (congr (congrArg List.cons (congrArg (fun z => (((4 : Nat), Value.long z) : Nat × Value)) eq_300)) (congr (congrArg List.cons (congrArg (fun z => (((6 : Nat), Value.int z) : Nat × Value)) eq_301)) (congr (congrArg List.cons (congrArg (fun z => (((7 : Nat), Value.int z) : Nat × Value)) eq_302)) (congrArg (List.cons _) (congr (congrArg List.cons (congrArg (fun z => (((9 : Nat), Value.int z) : Nat × Value)) eq_303)) rfl)))))))))
                rw [eL] at hl
                exact ih_70 (q + 1) (by omega)  _ _ _ hP hD hS hl
              · have c_99 : wrt nn (evS nn nu k) pp (pp + 1 + q) ≤ (sbI (wrt nn (evS nn nu k)) pp (sbO (wrt nn (evS nn nu k)) (nn * nn) pp) q).1 := Int64.not_lt.mp (fun h => c_99 ((lg_cmp_gt _ _).mpr h))
                refine lv_goto (tgt := 117) hx hb dX5_even_102 (by decide) ?_
                refine lv_iinc (v := nI (pp + 1 + q + 1)) (lv' := [(9, .int (nI (pp + 1 + q + 1))), (10, .long (wrt nn (evS nn nu k) pp (pp + 1 + q))), (0, .ref a0), (1, .int (nI mo)), (2, .int (nI k)), (3, .int 1), (4, .long ((sbI (wrt nn (evS nn nu k)) pp (sbO (wrt nn (evS nn nu k)) (nn * nn) pp) q).1)), (6, .int (fs1 (sbI (wrt nn (evS nn nu k)) pp (sbO (wrt nn (evS nn nu k)) (nn * nn) pp) q))), (7, .int (fs2 (sbI (wrt nn (evS nn nu k)) pp (sbO (wrt nn (evS nn nu k)) (nn * nn) pp) q))), (8, .int (nI pp))]) hx hb dX5_even_117 hl (k := 9) rfl (nI_1 _) (by decide) rfl (fun ls hl => ?_)
                refine lv_goto (tgt := 70) hx hb dX5_even_120 (by decide) ?_
                have eq_312 : ((sbI (wrt nn (evS nn nu k)) pp (sbO (wrt nn (evS nn nu k)) (nn * nn) pp) q).1 : Int64) = (sbI (wrt nn (evS nn nu k)) pp (sbO (wrt nn (evS nn nu k)) (nn * nn) pp) (q + 1)).1 := by rw [sbI_no c_99]
                have eq_313 : (fs1 (sbI (wrt nn (evS nn nu k)) pp (sbO (wrt nn (evS nn nu k)) (nn * nn) pp) q) : Int32) = fs1 (sbI (wrt nn (evS nn nu k)) pp (sbO (wrt nn (evS nn nu k)) (nn * nn) pp) (q + 1)) := by rw [sbI_no c_99]
                have eq_314 : (fs2 (sbI (wrt nn (evS nn nu k)) pp (sbO (wrt nn (evS nn nu k)) (nn * nn) pp) q) : Int32) = fs2 (sbI (wrt nn (evS nn nu k)) pp (sbO (wrt nn (evS nn nu k)) (nn * nn) pp) (q + 1)) := by rw [sbI_no c_99]
                have eq_315 : (nI (pp + 1 + q + 1) : Int32) = nI (pp + 1 + (q + 1)) := rfl
                have hl := lv_sub (l' := [(0, .ref a0), (1, .int (nI mo)), (2, .int (nI k)), (3, .int 1), (4, .long ((sbI (wrt nn (evS nn nu k)) pp (sbO (wrt nn (evS nn nu k)) (nn * nn) pp) q).1)), (6, .int (fs1 (sbI (wrt nn (evS nn nu k)) pp (sbO (wrt nn (evS nn nu k)) (nn * nn) pp) q))), (7, .int (fs2 (sbI (wrt nn (evS nn nu k)) pp (sbO (wrt nn (evS nn nu k)) (nn * nn) pp) q))), (8, .int (nI pp)), (9, .int (nI (pp + 1 + q + 1)))]) hl [2, 3, 4, 5, 6, 7, 8, 9, 0] rfl
                have eL : ([(0, .ref a0), (1, .int (nI mo)), (2, .int (nI k)), (3, .int 1), (4, .long ((sbI (wrt nn (evS nn nu k)) pp (sbO (wrt nn (evS nn nu k)) (nn * nn) pp) q).1)), (6, .int (fs1 (sbI (wrt nn (evS nn nu k)) pp (sbO (wrt nn (evS nn nu k)) (nn * nn) pp) q))), (7, .int (fs2 (sbI (wrt nn (evS nn nu k)) pp (sbO (wrt nn (evS nn nu k)) (nn * nn) pp) q))), (8, .int (nI pp)), (9, .int (nI (pp + 1 + q + 1)))] : List (Nat × Value)) = [(0, .ref a0), (1, .int (nI mo)), (2, .int (nI k)), (3, .int 1), (4, .long ((sbI (wrt nn (evS nn nu k)) pp (sbO (wrt nn (evS nn nu k)) (nn * nn) pp) (q + 1)).1)), (6, .int (fs1 (sbI (wrt nn (evS nn nu k)) pp (sbO (wrt nn (evS nn nu k)) (nn * nn) pp) (q + 1)))), (7, .int (fs2 (sbI (wrt nn (evS nn nu k)) pp (sbO (wrt nn (evS nn nu k)) (nn * nn) pp) (q + 1)))), (8, .int (nI pp)), (9, .int (nI (pp + 1 + (q + 1))))] := (congrArg (List.cons _) (congrArg (List.cons _) (congrArg (List.cons _) (congrArg (List.cons _) (congr (congrArg List.cons (congrArg (fun z => (((4 : Nat), Value.long z) : Nat × Value)) eq_312)) (congr (congrArg List.cons (congrArg (fun z => (((6 : Nat), Value.int z) : Nat × Value)) eq_313)) (congr (congrArg List.cons (congrArg (fun z => (((7 : Nat), Value.int z) : Nat × Value)) eq_314)) (congrArg (List.cons _) (congr (congrArg List.cons (congrArg (fun z => (((9 : Nat), Value.int z) : Nat × Value)) eq_315)) rfl)))))))))
                rw [eL] at hl
                exact ih_70 (q + 1) (by omega)  _ _ _ hP hD hS hl
          have eq_320 : ((sbO (wrt nn (evS nn nu k)) (nn * nn) pp).1 : Int64) = (sbI (wrt nn (evS nn nu k)) pp (sbO (wrt nn (evS nn nu k)) (nn * nn) pp) 0).1 := rfl
          have eq_321 : (fs1 (sbO (wrt nn (evS nn nu k)) (nn * nn) pp) : Int32) = fs1 (sbI (wrt nn (evS nn nu k)) pp (sbO (wrt nn (evS nn nu k)) (nn * nn) pp) 0) := rfl
          have eq_322 : (fs2 (sbO (wrt nn (evS nn nu k)) (nn * nn) pp) : Int32) = fs2 (sbI (wrt nn (evS nn nu k)) pp (sbO (wrt nn (evS nn nu k)) (nn * nn) pp) 0) := rfl
          have eq_323 : (nI pp + 1 : Int32) = nI (pp + 1 + 0) := nI_1 pp
          have hl := lv_sub (l' := [(0, .ref a0), (1, .int (nI mo)), (2, .int (nI k)), (3, .int 1), (4, .long ((sbO (wrt nn (evS nn nu k)) (nn * nn) pp).1)), (6, .int (fs1 (sbO (wrt nn (evS nn nu k)) (nn * nn) pp))), (7, .int (fs2 (sbO (wrt nn (evS nn nu k)) (nn * nn) pp))), (8, .int (nI pp)), (9, .int (nI pp + 1))]) hl [1, 2, 3, 4, 5, 6, 7, 8, 0] rfl
          have eL : ([(0, .ref a0), (1, .int (nI mo)), (2, .int (nI k)), (3, .int 1), (4, .long ((sbO (wrt nn (evS nn nu k)) (nn * nn) pp).1)), (6, .int (fs1 (sbO (wrt nn (evS nn nu k)) (nn * nn) pp))), (7, .int (fs2 (sbO (wrt nn (evS nn nu k)) (nn * nn) pp))), (8, .int (nI pp)), (9, .int (nI pp + 1))] : List (Nat × Value)) = [(0, .ref a0), (1, .int (nI mo)), (2, .int (nI k)), (3, .int 1), (4, .long ((sbI (wrt nn (evS nn nu k)) pp (sbO (wrt nn (evS nn nu k)) (nn * nn) pp) 0).1)), (6, .int (fs1 (sbI (wrt nn (evS nn nu k)) pp (sbO (wrt nn (evS nn nu k)) (nn * nn) pp) 0))), (7, .int (fs2 (sbI (wrt nn (evS nn nu k)) pp (sbO (wrt nn (evS nn nu k)) (nn * nn) pp) 0))), (8, .int (nI pp)), (9, .int (nI (pp + 1 + 0)))] := (congrArg (List.cons _) (congrArg (List.cons _) (congrArg (List.cons _) (congrArg (List.cons _) (congr (congrArg List.cons (congrArg (fun z => (((4 : Nat), Value.long z) : Nat × Value)) eq_320)) (congr (congrArg List.cons (congrArg (fun z => (((6 : Nat), Value.int z) : Nat × Value)) eq_321)) (congr (congrArg List.cons (congrArg (fun z => (((7 : Nat), Value.int z) : Nat × Value)) eq_322)) (congrArg (List.cons _) (congr (congrArg List.cons (congrArg (fun z => (((9 : Nat), Value.int z) : Nat × Value)) eq_323)) rfl)))))))))
          rw [eL] at hl
          exact L70 _ 0 (Nat.zero_add _)  _ _ _ hP hD hS hl
      have eq_328 : (0 : Int64) = (sbO (wrt nn (evS nn nu k)) (nn * nn) 0).1 := rfl
      have eq_329 : (-1 : Int32) = fs1 (sbO (wrt nn (evS nn nu k)) (nn * nn) 0) := fs1_00 _ _
      have eq_330 : (-1 : Int32) = fs2 (sbO (wrt nn (evS nn nu k)) (nn * nn) 0) := fs2_00 _ _
      have eq_331 : (0 : Int32) = nI 0 := rfl
      have hl := lv_sub (l' := [(0, .ref a0), (1, .int (nI mo)), (2, .int (nI k)), (3, .int 1), (4, .long 0), (6, .int (-1)), (7, .int (-1)), (8, .int 0)]) hl [4, 5, 6, 7, 3, 2, 1, 0] rfl
      have eL : ([(0, .ref a0), (1, .int (nI mo)), (2, .int (nI k)), (3, .int 1), (4, .long 0), (6, .int (-1)), (7, .int (-1)), (8, .int 0)] : List (Nat × Value)) = [(0, .ref a0), (1, .int (nI mo)), (2, .int (nI k)), (3, .int 1), (4, .long ((sbO (wrt nn (evS nn nu k)) (nn * nn) 0).1)), (6, .int (fs1 (sbO (wrt nn (evS nn nu k)) (nn * nn) 0))), (7, .int (fs2 (sbO (wrt nn (evS nn nu k)) (nn * nn) 0))), (8, .int (nI 0))] := (congrArg (List.cons _) (congrArg (List.cons _) (congrArg (List.cons _) (congrArg (List.cons _) (congr (congrArg List.cons (congrArg (fun z => (((4 : Nat), Value.long z) : Nat × Value)) eq_328)) (congr (congrArg List.cons (congrArg (fun z => (((6 : Nat), Value.int z) : Nat × Value)) eq_329)) (congr (congrArg List.cons (congrArg (fun z => (((7 : Nat), Value.int z) : Nat × Value)) eq_330)) (congr (congrArg List.cons (congrArg (fun z => (((8 : Nat), Value.int z) : Nat × Value)) eq_331)) rfl))))))))
      rw [eL] at hl
      exact L50 _ 0 (Nat.zero_add _)  _ _ _ hP hD hS hl
  have eq_336 : (0 : Int32) = nI 0 := rfl
  have eq_337 : (nu : Nat → Int32) = evS nn nu 0 := rfl
  have eW : ([(a0, .inr (5, [.int 0, .int (nI Wd), .int (nI Hh), .int (nI nn), .int na, .int nb, .int rk, .int pr, .int bk, .ref a1, .ref a2, .ref a3, .ref a4, .ref a5, .ref a6, .ref a7, .int lo, .long bt, .long bb])), (a2, .inl (cyI, 64, .inl nu))] : va_W) = [(a0, .inr (5, [.int 0, .int (nI Wd), .int (nI Hh), .int (nI nn), .int na, .int nb, .int rk, .int pr, .int bk, .ref a1, .ref a2, .ref a3, .ref a4, .ref a5, .ref a6, .ref a7, .int lo, .long bt, .long bb])), (a2, .inl (cyI, 64, .inl (evS nn nu 0)))] := (congrArg (List.cons _) (congr (congrArg List.cons (congrArg (fun z => ((a2, (Sum.inl (cyI, 64, Sum.inl z) : va_E)) : Nat × va_E)) eq_337)) rfl))
  rw [eW] at hP hD
  have hl := lv_sub (l' := [(0, .ref a0), (1, .int (nI mo)), (2, .int 0), (3, .int 1)]) hl [2, 3, 1, 0] rfl
  have eL : ([(0, .ref a0), (1, .int (nI mo)), (2, .int 0), (3, .int 1)] : List (Nat × Value)) = [(0, .ref a0), (1, .int (nI mo)), (2, .int (nI 0)), (3, .int 1)] := (congrArg (List.cons _) (congrArg (List.cons _) (congr (congrArg List.cons (congrArg (fun z => (((2 : Nat), Value.int z) : Nat × Value)) eq_336)) (congrArg (List.cons _) rfl))))
  rw [eL] at hl
  exact L29 _ 0 (Nat.zero_add _)  _ _ _ hP hD hS hl
