/-! Lattice: its methods -/
abbrev rm_X4_commonDivisor : Room := { frames := 0, cells := 0, slots := 0, locals := 0 }
set_option maxHeartbeats 4000000 in
set_option maxRecDepth 100000 in
theorem ct_X4_commonDivisor (l : Launch) (D : va_G) (cyI cyZ : ClassId) (sz : Nat) (x y : Nat) (hx5 : x < 2 ^ 15) (hy5 : y < 2 ^ 15) : Met l yX4_commonDivisor wsX4_commonDivisor rm_X4_commonDivisor (xk_Pc D cyI cyZ [.int (nI x), .int (nI y)] [] sz) (xk_Qi D (va_A [] sz) (nI (Nat.gcd x y)) []) 0 0 (va_A [] sz) := by
  refine xk_of (own := RX4) (cc := cX4_commonDivisor) (maxL := 6) (ret := (some .int)) (Qc := fun A => xk_Qi D A (nI (Nat.gcd x y)) []) (by decide) rfl rfl (Nat.le_of_ble_eq_true rfl) ?_
  intro p e s m below meth c A ls hx hb hr hml hown hlocks hin hts hA hP hK hN hD hS hl
  have hC0 := xk_fix hx hb hml hown hts
  have hl : lv_has ls 6 [(0, .int (nI x)), (1, .int (nI y))] := hl
  obtain ⟨Nv, hNv, hpos, hzero⟩ := eu_stop (x := x) hy5
  have hlt := eu_lt hx5 hy5
  refine lv_iload_n hx hb dX4_commonDivisor_0 rfl (lv_at hl 0 rfl) ?_
  refine lv_istore_n (lv' := [(2, .int (nI x)), (0, .int (nI x)), (1, .int (nI y))]) hx hb dX4_commonDivisor_1 rfl hl (by decide) rfl (fun ls hl => ?_)
  refine lv_iload_n hx hb dX4_commonDivisor_2 rfl (lv_at hl 2 rfl) ?_
  refine lv_istore_n (lv' := [(3, .int (nI y)), (2, .int (nI x)), (0, .int (nI x)), (1, .int (nI y))]) hx hb dX4_commonDivisor_3 rfl hl (by decide) rfl (fun ls hl => ?_)
  refine lv_iconst (v := 0) hx hb dX4_commonDivisor_4 (by decide) ?_
  refine lv_istore (lv' := [(4, .int 0), (3, .int (nI y)), (2, .int (nI x)), (0, .int (nI x)), (1, .int (nI y))]) hx hb dX4_commonDivisor_5 hl (by decide) rfl (fun ls hl => ?_)
  have L7 : ∀ (n k : Nat), k + n = Nv → ∀ (H : Heap) (locs : List Loc) (ls : Array Slot), va_P D vwCl [] H → va_D A [] → va_S A s.heap H locs → lv_has ls 6 [(0, .int (nI x)), (1, .int (nI y)), (2, .int (nI (eu x y k).1)), (3, .int (nI (eu x y k).2)), (4, .int (nI k))] → W p l e rm_X4_commonDivisor s m ([.int (nI x), .int (nI y)] : List Value).toArray below meth c H locs 0 0 (MQ below (xk_Qi D A (nI (Nat.gcd x y)) []) ([.int (nI x), .int (nI y)] : List Value).toArray s 0 0 A) (F0 m 7 ls []) := by
    intro n
    induction n with
    | zero =>
      intro k hk_7  H locs ls hP hD hS hl
      have hz_7 : Nv = k := hk_7.symm
      subst hz_7
      refine lv_iload hx hb dX4_commonDivisor_7 (lv_at hl 4 rfl) ?_
      refine lv_bipush (v := 64) hx hb dX4_commonDivisor_9 (by decide) ?_
      refine lv_icmp_ge (tgt := 34) hx hb dX4_commonDivisor_11 (by decide) (fun c_11 => ?_) (fun c_11 => ?_)
      · refine lv_iload_n hx hb dX4_commonDivisor_34 rfl (lv_at hl 2 rfl) ?_
        exact xk_iret hx hb hr hlocks hP hD hS (by rw [← eu_gcd x y Nv, hzero, Nat.gcd_zero_right]) (rfl) dX4_commonDivisor_35
      · refine lv_iload_n hx hb dX4_commonDivisor_14 rfl (lv_at hl 3 rfl) ?_
        refine lv_if_le (tgt := 34) hx hb dX4_commonDivisor_15 (by decide) (fun c_15 => ?_) (fun c_15 => xk_ba c_15 (by rw [hzero]; decide))
        refine lv_iload_n hx hb dX4_commonDivisor_34 rfl (lv_at hl 2 rfl) ?_
        exact xk_iret hx hb hr hlocks hP hD hS (by rw [← eu_gcd x y Nv, hzero, Nat.gcd_zero_right]) (rfl) dX4_commonDivisor_35
    | succ n ih_7 =>
      intro k hk_7  H locs ls hP hD hS hl
      refine lv_iload hx hb dX4_commonDivisor_7 (lv_at hl 4 rfl) ?_
      refine lv_bipush (v := 64) hx hb dX4_commonDivisor_9 (by decide) ?_
      refine lv_icmp_ge (tgt := 34) hx hb dX4_commonDivisor_11 (by decide) (fun c_11 => xk_ab c_11 (nI_ge (b := 64) (by omega) (by decide))) (fun c_11 => ?_)
      refine lv_iload_n hx hb dX4_commonDivisor_14 rfl (lv_at hl 3 rfl) ?_
      refine lv_if_le (tgt := 34) hx hb dX4_commonDivisor_15 (by decide) (fun c_15 => xk_ab c_15 (nI_nle (hpos k (by omega)) (by have := (hlt k).2; omega))) (fun c_15 => ?_)
      refine lv_iload_n hx hb dX4_commonDivisor_18 rfl (lv_at hl 2 rfl) ?_
      refine lv_iload_n hx hb dX4_commonDivisor_19 rfl (lv_at hl 3 rfl) ?_
      refine lv_irem hx hb dX4_commonDivisor_20 (nI_ne0 (hpos k (by omega)) (by have := (hlt k).2; omega)) ?_
      refine xk_topi (y := nI ((eu x y k).1 % (eu x y k).2)) (pk_rem (by have := (hlt k).1; omega) (hpos k (by omega)) (by have := (hlt k).2; omega)) ?_
      refine lv_istore (lv' := [(5, .int (nI ((eu x y k).1 % (eu x y k).2))), (0, .int (nI x)), (1, .int (nI y)), (2, .int (nI (eu x y k).1)), (3, .int (nI (eu x y k).2)), (4, .int (nI k))]) hx hb dX4_commonDivisor_21 hl (by decide) rfl (fun ls hl => ?_)
      refine lv_iload_n hx hb dX4_commonDivisor_23 rfl (lv_at hl 4 rfl) ?_
      refine lv_istore_n (lv' := [(2, .int (nI (eu x y k).2)), (5, .int (nI ((eu x y k).1 % (eu x y k).2))), (0, .int (nI x)), (1, .int (nI y)), (3, .int (nI (eu x y k).2)), (4, .int (nI k))]) hx hb dX4_commonDivisor_24 rfl hl (by decide) rfl (fun ls hl => ?_)
      refine lv_iload hx hb dX4_commonDivisor_25 (lv_at hl 1 rfl) ?_
      refine lv_istore_n (lv' := [(3, .int (nI ((eu x y k).1 % (eu x y k).2))), (2, .int (nI (eu x y k).2)), (5, .int (nI ((eu x y k).1 % (eu x y k).2))), (0, .int (nI x)), (1, .int (nI y)), (4, .int (nI k))]) hx hb dX4_commonDivisor_27 rfl hl (by decide) rfl (fun ls hl => ?_)
      refine lv_iinc (v := nI (k + 1)) (lv' := [(4, .int (nI (k + 1))), (3, .int (nI ((eu x y k).1 % (eu x y k).2))), (2, .int (nI (eu x y k).2)), (5, .int (nI ((eu x y k).1 % (eu x y k).2))), (0, .int (nI x)), (1, .int (nI y))]) hx hb dX4_commonDivisor_28 hl (k := 5) rfl (nI_1 _) (by decide) rfl (fun ls hl => ?_)
      refine lv_goto (tgt := 7) hx hb dX4_commonDivisor_31 (by decide) ?_
      have eq_40 : (nI (eu x y k).2 : Int32) = nI (eu x y (k + 1)).1 := rfl
      have eq_41 : (nI ((eu x y k).1 % (eu x y k).2) : Int32) = nI (eu x y (k + 1)).2 := rfl
      have hl := lv_sub (l' := [(0, .int (nI x)), (1, .int (nI y)), (2, .int (nI (eu x y k).2)), (3, .int (nI ((eu x y k).1 % (eu x y k).2))), (4, .int (nI (k + 1)))]) hl [4, 5, 2, 1, 0] rfl
      have eL : ([(0, .int (nI x)), (1, .int (nI y)), (2, .int (nI (eu x y k).2)), (3, .int (nI ((eu x y k).1 % (eu x y k).2))), (4, .int (nI (k + 1)))] : List (Nat × Value)) = [(0, .int (nI x)), (1, .int (nI y)), (2, .int (nI (eu x y (k + 1)).1)), (3, .int (nI (eu x y (k + 1)).2)), (4, .int (nI (k + 1)))] := (congrArg (List.cons _) (congrArg (List.cons _) (congr (congrArg List.cons (congrArg (fun z => (((2 : Nat), Value.int z) : Nat × Value)) eq_40)) (congr (congrArg List.cons (congrArg (fun z => (((3 : Nat), Value.int z) : Nat × Value)) eq_41)) (congrArg (List.cons _) rfl)))))
      rw [eL] at hl
      exact ih_7 (k + 1) (by omega)  _ _ _ hP hD hS hl
  have eq_46 : (nI x : Int32) = nI (eu x y 0).1 := rfl
  have eq_47 : (nI y : Int32) = nI (eu x y 0).2 := rfl
  have eq_48 : (0 : Int32) = nI 0 := rfl
  have hl := lv_sub (l' := [(0, .int (nI x)), (1, .int (nI y)), (2, .int (nI x)), (3, .int (nI y)), (4, .int 0)]) hl [3, 4, 2, 1, 0] rfl
  have eL : ([(0, .int (nI x)), (1, .int (nI y)), (2, .int (nI x)), (3, .int (nI y)), (4, .int 0)] : List (Nat × Value)) = [(0, .int (nI x)), (1, .int (nI y)), (2, .int (nI (eu x y 0).1)), (3, .int (nI (eu x y 0).2)), (4, .int (nI 0))] := (congrArg (List.cons _) (congrArg (List.cons _) (congr (congrArg List.cons (congrArg (fun z => (((2 : Nat), Value.int z) : Nat × Value)) eq_46)) (congr (congrArg List.cons (congrArg (fun z => (((3 : Nat), Value.int z) : Nat × Value)) eq_47)) (congr (congrArg List.cons (congrArg (fun z => (((4 : Nat), Value.int z) : Nat × Value)) eq_48)) rfl)))))
  rw [eL] at hl
  exact L7 _ 0 (Nat.zero_add _)  _ _ _ hP hD hS hl

abbrev rm_X1_allows : Room := { frames := 0, cells := 0, slots := 0, locals := 0 }
set_option maxHeartbeats 4000000 in
set_option maxRecDepth 100000 in
theorem ct_X1_allows (l : Launch) (D : va_G) (cyI cyZ : ClassId) (sz : Nat) (x y : Int32)  : Met l yX1_allows wsX1_allows rm_X1_allows (xk_Pc D cyI cyZ [.int x, .int y] [] sz) (xk_Qi D (va_A [] sz) (bI (nt_ok x y)) []) 0 0 (va_A [] sz) := by
  refine xk_of (own := RX1) (cc := cX1_allows) (maxL := 2) (ret := (some .boolean)) (Qc := fun A => xk_Qi D A (bI (nt_ok x y)) []) (by decide) rfl rfl (Nat.le_of_ble_eq_true rfl) ?_
  intro p e s m below meth c A ls hx hb hr hml hown hlocks hin hts hA hP hK hN hD hS hl
  have hC0 := xk_fix hx hb hml hown hts
  have hl : lv_has ls 2 [(0, .int x), (1, .int y)] := hl
  refine lv_iload_n hx hb dX1_allows_0 rfl (lv_at hl 0 rfl) ?_
  refine lv_bipush (v := (-8)) hx hb dX1_allows_1 (by decide) ?_
  refine lv_icmp_lt (tgt := 36) hx hb dX1_allows_3 (by decide) (fun c_3 => ?_) (fun c_3 => ?_)
  · refine lv_iconst (v := 0) hx hb dX1_allows_36 (by decide) ?_
    exact xk_zret hx hb hr hlocks hP hD hS (bI_0 (fun h => h.1.1 c_3)) (rfl) (bI_nar _) dX1_allows_37
  · refine lv_iload_n hx hb dX1_allows_6 rfl (lv_at hl 0 rfl) ?_
    refine lv_bipush (v := 8) hx hb dX1_allows_7 (by decide) ?_
    refine lv_icmp_gt (tgt := 36) hx hb dX1_allows_9 (by decide) (fun c_9 => ?_) (fun c_9 => ?_)
    · refine lv_iconst (v := 0) hx hb dX1_allows_36 (by decide) ?_
      exact xk_zret hx hb hr hlocks hP hD hS (bI_0 (fun h => h.1.2 c_9)) (rfl) (bI_nar _) dX1_allows_37
    · refine lv_iload_n hx hb dX1_allows_12 rfl (lv_at hl 1 rfl) ?_
      refine lv_bipush (v := (-8)) hx hb dX1_allows_13 (by decide) ?_
      refine lv_icmp_lt (tgt := 36) hx hb dX1_allows_15 (by decide) (fun c_15 => ?_) (fun c_15 => ?_)
      · refine lv_iconst (v := 0) hx hb dX1_allows_36 (by decide) ?_
        exact xk_zret hx hb hr hlocks hP hD hS (bI_0 (fun h => h.2.1.1 c_15)) (rfl) (bI_nar _) dX1_allows_37
      · refine lv_iload_n hx hb dX1_allows_18 rfl (lv_at hl 1 rfl) ?_
        refine lv_bipush (v := 8) hx hb dX1_allows_19 (by decide) ?_
        refine lv_icmp_gt (tgt := 36) hx hb dX1_allows_21 (by decide) (fun c_21 => ?_) (fun c_21 => ?_)
        · refine lv_iconst (v := 0) hx hb dX1_allows_36 (by decide) ?_
          exact xk_zret hx hb hr hlocks hP hD hS (bI_0 (fun h => h.2.1.2 c_21)) (rfl) (bI_nar _) dX1_allows_37
        · refine lv_iload_n hx hb dX1_allows_24 rfl (lv_at hl 0 rfl) ?_
          refine lv_if_ne (tgt := 32) hx hb dX1_allows_25 (by decide) (fun c_25 => ?_) (fun c_25 => ?_)
          · refine lv_iconst (v := 1) hx hb dX1_allows_32 (by decide) ?_
            refine lv_goto (tgt := 37) hx hb dX1_allows_33 (by decide) ?_
            exact xk_zret hx hb hr hlocks hP hD hS (bI_1 ⟨⟨c_3, c_9⟩, ⟨c_15, c_21⟩, fun h => c_25 h.1⟩) (rfl) (bI_nar _) dX1_allows_37
          · refine lv_iload_n hx hb dX1_allows_28 rfl (lv_at hl 1 rfl) ?_
            refine lv_if_eq (tgt := 36) hx hb dX1_allows_29 (by decide) (fun c_29 => ?_) (fun c_29 => ?_)
            · refine lv_iconst (v := 0) hx hb dX1_allows_36 (by decide) ?_
              exact xk_zret hx hb hr hlocks hP hD hS (bI_0 (fun h => h.2.2 ⟨c_25, c_29⟩)) (rfl) (bI_nar _) dX1_allows_37
            · refine lv_iconst (v := 1) hx hb dX1_allows_32 (by decide) ?_
              refine lv_goto (tgt := 37) hx hb dX1_allows_33 (by decide) ?_
              exact xk_zret hx hb hr hlocks hP hD hS (bI_1 ⟨⟨c_3, c_9⟩, ⟨c_15, c_21⟩, fun h => c_29 h.2⟩) (rfl) (bI_nar _) dX1_allows_37

abbrev rm_X1_square : Room := { frames := 0, cells := 0, slots := 0, locals := 0 }
theorem in_X1_square_X1 : ∀ w ∈ u_ws RX1 TX1 5, w ∈ wsX1_square := by decide +kernel
set_option maxHeartbeats 4000000 in
set_option maxRecDepth 100000 in
theorem ct_X1_square (l : Launch) (D : va_G) (cyI cyZ : ClassId) (q0 q1 : Nat) (sz : Nat) (ky : Nat → Int32) (na nb : Int32) (mm cn : Nat)   : Met l yX1_square wsX1_square rm_X1_square (xk_Pc D cyI cyZ [.ref q0] [(q0, .inr (1, [.ref q1, .int na, .int nb, .int (nI mm), .int (nI cn)])), (q1, .inl (cyI, 128, .inl ky))] sz) (xk_Qi D (va_A [(q0, .inr (1, [.ref q1, .int na, .int nb, .int (nI mm), .int (nI cn)])), (q1, .inl (cyI, 128, .inl ky))] sz) (nI mm) [(q0, .inr (1, [.ref q1, .int na, .int nb, .int (nI mm), .int (nI cn)])), (q1, .inl (cyI, 128, .inl ky))]) 0 0 (va_A [(q0, .inr (1, [.ref q1, .int na, .int nb, .int (nI mm), .int (nI cn)])), (q1, .inl (cyI, 128, .inl ky))] sz) := by
  refine xk_of (own := RX1) (cc := cX1_square) (maxL := 1) (ret := (some .int)) (Qc := fun A => xk_Qi D A (nI mm) [(q0, .inr (1, [.ref q1, .int na, .int nb, .int (nI mm), .int (nI cn)])), (q1, .inl (cyI, 128, .inl ky))]) (by decide) rfl rfl (Nat.le_of_ble_eq_true rfl) ?_
  intro p e s m below meth c A ls hx hb hr hml hown hlocks hin hts hA hP hK hN hD hS hl
  have hC0 := xk_fix hx hb hml hown hts
  have hl : lv_has ls 1 [(0, .ref q0)] := hl
  have hf26 := hts (.fieldLink RX1 26 "DotPress$Lattice" "square" "I") (by decide +kernel)
  refine lv_aload_n hx hb dX1_square_0 rfl (lv_at hl 0 rfl) ?_
  refine va_get (D := D) (ci := 1) (v := .int (nI mm)) (C := RX1) (T := TX1) (N := 5) hx hb hts in_X1_square_X1 hown hK hP 0 rfl rfl 3 (by decide) hf26 (fun _ h9 => h9) rfl dX1_square_1 ?_
  exact xk_iret hx hb hr hlocks hP hD hS (rfl) (rfl) dX1_square_4

abbrev rm_X1_pairCount : Room := { frames := 0, cells := 0, slots := 0, locals := 0 }
theorem in_X1_pairCount_X1 : ∀ w ∈ u_ws RX1 TX1 5, w ∈ wsX1_pairCount := by decide +kernel
set_option maxHeartbeats 4000000 in
set_option maxRecDepth 100000 in
theorem ct_X1_pairCount (l : Launch) (D : va_G) (cyI cyZ : ClassId) (q0 q1 : Nat) (sz : Nat) (ky : Nat → Int32) (na nb : Int32) (mm cn : Nat)   : Met l yX1_pairCount wsX1_pairCount rm_X1_pairCount (xk_Pc D cyI cyZ [.ref q0] [(q0, .inr (1, [.ref q1, .int na, .int nb, .int (nI mm), .int (nI cn)])), (q1, .inl (cyI, 128, .inl ky))] sz) (xk_Qi D (va_A [(q0, .inr (1, [.ref q1, .int na, .int nb, .int (nI mm), .int (nI cn)])), (q1, .inl (cyI, 128, .inl ky))] sz) (nI cn) [(q0, .inr (1, [.ref q1, .int na, .int nb, .int (nI mm), .int (nI cn)])), (q1, .inl (cyI, 128, .inl ky))]) 0 0 (va_A [(q0, .inr (1, [.ref q1, .int na, .int nb, .int (nI mm), .int (nI cn)])), (q1, .inl (cyI, 128, .inl ky))] sz) := by
  refine xk_of (own := RX1) (cc := cX1_pairCount) (maxL := 1) (ret := (some .int)) (Qc := fun A => xk_Qi D A (nI cn) [(q0, .inr (1, [.ref q1, .int na, .int nb, .int (nI mm), .int (nI cn)])), (q1, .inl (cyI, 128, .inl ky))]) (by decide) rfl rfl (Nat.le_of_ble_eq_true rfl) ?_
  intro p e s m below meth c A ls hx hb hr hml hown hlocks hin hts hA hP hK hN hD hS hl
  have hC0 := xk_fix hx hb hml hown hts
  have hl : lv_has ls 1 [(0, .ref q0)] := hl
  have hf29 := hts (.fieldLink RX1 29 "DotPress$Lattice" "pairs" "I") (by decide +kernel)
  refine lv_aload_n hx hb dX1_pairCount_0 rfl (lv_at hl 0 rfl) ?_
  refine va_get (D := D) (ci := 1) (v := .int (nI cn)) (C := RX1) (T := TX1) (N := 5) hx hb hts in_X1_pairCount_X1 hown hK hP 0 rfl rfl 4 (by decide) hf29 (fun _ h9 => h9) rfl dX1_pairCount_1 ?_
  exact xk_iret hx hb hr hlocks hP hD hS (rfl) (rfl) dX1_pairCount_4

abbrev rm_X1_keyAt : Room := { frames := 2, cells := 0, slots := 0, locals := 43 }
theorem in_X1_keyAt_X1 : ∀ w ∈ u_ws RX1 TX1 5, w ∈ wsX1_keyAt := by decide +kernel
set_option maxHeartbeats 4000000 in
set_option maxRecDepth 100000 in
theorem ct_X1_keyAt (l : Launch) (D : va_G) (cyI cyZ : ClassId) (q0 q1 : Nat) (sz : Nat) (ky : Nat → Int32) (na nb : Int32) (mm cn : Nat) (x y : Int32) (hm1 : 1 ≤ mm) (hm2 : mm ≤ 128) : Met l yX1_keyAt wsX1_keyAt rm_X1_keyAt (xk_Pc D cyI cyZ [.ref q0, .int x, .int y] [(q0, .inr (1, [.ref q1, .int na, .int nb, .int (nI mm), .int (nI cn)])), (q1, .inl (cyI, 128, .inl ky))] sz) (xk_Qi D (va_A [(q0, .inr (1, [.ref q1, .int na, .int nb, .int (nI mm), .int (nI cn)])), (q1, .inl (cyI, 128, .inl ky))] sz) (kyA na nb mm x y) [(q0, .inr (1, [.ref q1, .int na, .int nb, .int (nI mm), .int (nI cn)])), (q1, .inl (cyI, 128, .inl ky))]) 0 0 (va_A [(q0, .inr (1, [.ref q1, .int na, .int nb, .int (nI mm), .int (nI cn)])), (q1, .inl (cyI, 128, .inl ky))] sz) := by
  refine xk_of (own := RX1) (cc := cX1_keyAt) (maxL := 7) (ret := (some .int)) (Qc := fun A => xk_Qi D A (kyA na nb mm x y) [(q0, .inr (1, [.ref q1, .int na, .int nb, .int (nI mm), .int (nI cn)])), (q1, .inl (cyI, 128, .inl ky))]) (by decide) rfl rfl (Nat.le_of_ble_eq_true rfl) ?_
  intro p e s m below meth c A ls hx hb hr hml hown hlocks hin hts hA hP hK hN hD hS hl
  have hC0 := xk_fix hx hb hml hown hts
  have hl : lv_has ls 7 [(0, .ref q0), (1, .int x), (2, .int y)] := hl
  have hf19 := hts (.fieldLink RX1 19 "DotPress$Lattice" "a" "I") (by decide +kernel)
  have hf23 := hts (.fieldLink RX1 23 "DotPress$Lattice" "b" "I") (by decide +kernel)
  have hf26 := hts (.fieldLink RX1 26 "DotPress$Lattice" "square" "I") (by decide +kernel)
  refine lv_aload_n hx hb dX1_keyAt_0 rfl (lv_at hl 0 rfl) ?_
  refine va_get (D := D) (ci := 1) (v := .int na) (C := RX1) (T := TX1) (N := 5) hx hb hts in_X1_keyAt_X1 hown hK hP 0 rfl rfl 1 (by decide) hf19 (fun _ h9 => h9) rfl dX1_keyAt_1 ?_
  refine lv_iload_n hx hb dX1_keyAt_4 rfl (lv_at hl 1 rfl) ?_
  refine lv_imul hx hb dX1_keyAt_5 ?_
  refine lv_aload_n hx hb dX1_keyAt_6 rfl (lv_at hl 0 rfl) ?_
  refine va_get (D := D) (ci := 1) (v := .int nb) (C := RX1) (T := TX1) (N := 5) hx hb hts in_X1_keyAt_X1 hown hK hP 0 rfl rfl 2 (by decide) hf23 (fun _ h9 => h9) rfl dX1_keyAt_7 ?_
  refine lv_iload_n hx hb dX1_keyAt_10 rfl (lv_at hl 2 rfl) ?_
  refine lv_imul hx hb dX1_keyAt_11 ?_
  refine lv_iadd hx hb dX1_keyAt_12 ?_
  refine lv_aload_n hx hb dX1_keyAt_13 rfl (lv_at hl 0 rfl) ?_
  refine va_get (D := D) (ci := 1) (v := .int (nI mm)) (C := RX1) (T := TX1) (N := 5) hx hb hts in_X1_keyAt_X1 hown hK hP 0 rfl rfl 3 (by decide) hf26 (fun _ h9 => h9) rfl dX1_keyAt_14 ?_
  have hPc := hP.sub (ws' := []) [] rfl
  have hDc := hD.sub (ws' := []) [] (by decide) rfl
  refine xk_calli (wr := [(q0, .inr (1, [.ref q1, .int na, .int nb, .int (nI mm), .int (nI cn)])), (q1, .inl (cyI, 128, .inl ky))]) (w2 := [(q0, .inr (1, [.ref q1, .int na, .int nb, .int (nI mm), .int (nI cn)])), (q1, .inl (cyI, 128, .inl ky))]) (va_runSN (As := [.int ((na * x) + (nb * y)), .int (nI mm)]) (rest := []) hC0 (ct_X4_within l D cyI cyZ  _ ((na * x) + (nb * y)) mm (by first | assumption | omega) (by first | assumption | omega)) ⟨va_cnB 2 hts ggX1_keyAt_X4_within rfl rfl rfl hN.2.1 (hts (.initialized RX4) (by decide +kernel)) (by decide +kernel) ⟨Nat.le_of_ble_eq_true rfl, Nat.le_of_ble_eq_true rfl⟩, hts (.static yX4_within) (by decide +kernel), trivial⟩ ⟨xk_blind, xk_pre hK hN hPc hDc⟩ rfl rfl hl.1 rfl (lv_room (Nat.le_of_ble_eq_true rfl)) dX1_keyAt_17 ⟨Nat.le_of_ble_eq_true rfl, Nat.le_of_ble_eq_true rfl⟩) hP hD hS hA [] [0, 1] [0, 1] rfl rfl (by decide) (by decide) rfl (by decide) (fun H locs hP hD hS => ?_)
  refine xk_topi (y := kU na nb mm x y) (rfl) ?_
  refine lv_istore_n (lv' := [(3, .int (kU na nb mm x y)), (0, .ref q0), (1, .int x), (2, .int y)]) hx hb dX1_keyAt_20 rfl hl (by decide) rfl (fun ls hl => ?_)
  refine lv_aload_n hx hb dX1_keyAt_21 rfl (lv_at hl 1 rfl) ?_
  refine va_get (D := D) (ci := 1) (v := .int na) (C := RX1) (T := TX1) (N := 5) hx hb hts in_X1_keyAt_X1 hown hK hP 0 rfl rfl 1 (by decide) hf19 (fun _ h9 => h9) rfl dX1_keyAt_22 ?_
  refine lv_iload_n hx hb dX1_keyAt_25 rfl (lv_at hl 3 rfl) ?_
  refine lv_imul hx hb dX1_keyAt_26 ?_
  refine lv_aload_n hx hb dX1_keyAt_27 rfl (lv_at hl 1 rfl) ?_
  refine va_get (D := D) (ci := 1) (v := .int nb) (C := RX1) (T := TX1) (N := 5) hx hb hts in_X1_keyAt_X1 hown hK hP 0 rfl rfl 2 (by decide) hf23 (fun _ h9 => h9) rfl dX1_keyAt_28 ?_
  refine lv_iload_n hx hb dX1_keyAt_31 rfl (lv_at hl 2 rfl) ?_
  refine lv_imul hx hb dX1_keyAt_32 ?_
  refine lv_isub hx hb dX1_keyAt_33 ?_
  refine lv_aload_n hx hb dX1_keyAt_34 rfl (lv_at hl 1 rfl) ?_
  refine va_get (D := D) (ci := 1) (v := .int (nI mm)) (C := RX1) (T := TX1) (N := 5) hx hb hts in_X1_keyAt_X1 hown hK hP 0 rfl rfl 3 (by decide) hf26 (fun _ h9 => h9) rfl dX1_keyAt_35 ?_
  have hPc := hP.sub (ws' := []) [] rfl
  have hDc := hD.sub (ws' := []) [] (by decide) rfl
  refine xk_calli (wr := [(q0, .inr (1, [.ref q1, .int na, .int nb, .int (nI mm), .int (nI cn)])), (q1, .inl (cyI, 128, .inl ky))]) (w2 := [(q0, .inr (1, [.ref q1, .int na, .int nb, .int (nI mm), .int (nI cn)])), (q1, .inl (cyI, 128, .inl ky))]) (va_runSN (As := [.int ((na * y) - (nb * x)), .int (nI mm)]) (rest := []) hC0 (ct_X4_within l D cyI cyZ  _ ((na * y) - (nb * x)) mm (by first | assumption | omega) (by first | assumption | omega)) ⟨va_cnB 2 hts ggX1_keyAt_X4_within rfl rfl rfl hN.2.1 (hts (.initialized RX4) (by decide +kernel)) (by decide +kernel) ⟨Nat.le_of_ble_eq_true rfl, Nat.le_of_ble_eq_true rfl⟩, hts (.static yX4_within) (by decide +kernel), trivial⟩ ⟨xk_blind, xk_pre hK hN hPc hDc⟩ rfl rfl hl.1 rfl (lv_room (Nat.le_of_ble_eq_true rfl)) dX1_keyAt_38 ⟨Nat.le_of_ble_eq_true rfl, Nat.le_of_ble_eq_true rfl⟩) hP hD hS hA [] [0, 1] [0, 1] rfl rfl (by decide) (by decide) rfl (by decide) (fun H locs hP hD hS => ?_)
  refine xk_topi (y := kV na nb mm x y) (rfl) ?_
  refine lv_istore (lv' := [(4, .int (kV na nb mm x y)), (3, .int (kU na nb mm x y)), (0, .ref q0), (1, .int x), (2, .int y)]) hx hb dX1_keyAt_41 hl (by decide) rfl (fun ls hl => ?_)
  refine lv_iconst (v := 2) hx hb dX1_keyAt_43 (by decide) ?_
  refine lv_iload_n hx hb dX1_keyAt_44 rfl (lv_at hl 1 rfl) ?_
  refine lv_imul hx hb dX1_keyAt_45 ?_
  refine lv_iconst (v := 1) hx hb dX1_keyAt_46 (by decide) ?_
  refine lv_iadd hx hb dX1_keyAt_47 ?_
  refine lv_aload_n hx hb dX1_keyAt_48 rfl (lv_at hl 2 rfl) ?_
  refine va_get (D := D) (ci := 1) (v := .int (nI mm)) (C := RX1) (T := TX1) (N := 5) hx hb hts in_X1_keyAt_X1 hown hK hP 0 rfl rfl 3 (by decide) hf26 (fun _ h9 => h9) rfl dX1_keyAt_49 ?_
  refine lv_isub hx hb dX1_keyAt_52 ?_
  refine lv_istore (lv' := [(5, .int (((2 * kU na nb mm x y) + 1) - nI mm)), (4, .int (kV na nb mm x y)), (3, .int (kU na nb mm x y)), (0, .ref q0), (1, .int x), (2, .int y)]) hx hb dX1_keyAt_53 hl (by decide) rfl (fun ls hl => ?_)
  refine lv_iconst (v := 2) hx hb dX1_keyAt_55 (by decide) ?_
  refine lv_iload hx hb dX1_keyAt_56 (lv_at hl 1 rfl) ?_
  refine lv_imul hx hb dX1_keyAt_58 ?_
  refine lv_iconst (v := 1) hx hb dX1_keyAt_59 (by decide) ?_
  refine lv_iadd hx hb dX1_keyAt_60 ?_
  refine lv_aload_n hx hb dX1_keyAt_61 rfl (lv_at hl 3 rfl) ?_
  refine va_get (D := D) (ci := 1) (v := .int (nI mm)) (C := RX1) (T := TX1) (N := 5) hx hb hts in_X1_keyAt_X1 hown hK hP 0 rfl rfl 3 (by decide) hf26 (fun _ h9 => h9) rfl dX1_keyAt_62 ?_
  refine lv_isub hx hb dX1_keyAt_65 ?_
  refine lv_istore (lv' := [(6, .int (((2 * kV na nb mm x y) + 1) - nI mm)), (5, .int (((2 * kU na nb mm x y) + 1) - nI mm)), (4, .int (kV na nb mm x y)), (3, .int (kU na nb mm x y)), (0, .ref q0), (1, .int x), (2, .int y)]) hx hb dX1_keyAt_66 hl (by decide) rfl (fun ls hl => ?_)
  refine lv_iload hx hb dX1_keyAt_68 (lv_at hl 1 rfl) ?_
  refine lv_iload hx hb dX1_keyAt_70 (lv_at hl 1 rfl) ?_
  refine lv_imul hx hb dX1_keyAt_72 ?_
  refine lv_iload hx hb dX1_keyAt_73 (lv_at hl 0 rfl) ?_
  refine lv_iload hx hb dX1_keyAt_75 (lv_at hl 0 rfl) ?_
  refine lv_imul hx hb dX1_keyAt_77 ?_
  refine lv_iadd hx hb dX1_keyAt_78 ?_
  refine lv_sipush (v := 128) hx hb dX1_keyAt_79 (by decide) ?_
  refine lv_imul hx hb dX1_keyAt_82 ?_
  refine lv_iload_n hx hb dX1_keyAt_83 rfl (lv_at hl 3 rfl) ?_
  refine lv_iadd hx hb dX1_keyAt_84 ?_
  refine lv_sipush (v := 128) hx hb dX1_keyAt_85 (by decide) ?_
  refine lv_imul hx hb dX1_keyAt_88 ?_
  refine lv_iload hx hb dX1_keyAt_89 (lv_at hl 2 rfl) ?_
  refine lv_iadd hx hb dX1_keyAt_91 ?_
  exact xk_iret hx hb hr hlocks hP hD hS (rfl) (rfl) dX1_keyAt_92

abbrev rm_X1_upTo : Room := { frames := 0, cells := 0, slots := 0, locals := 0 }
theorem in_X1_upTo_X1 : ∀ w ∈ u_ws RX1 TX1 5, w ∈ wsX1_upTo := by decide +kernel
set_option maxHeartbeats 4000000 in
set_option maxRecDepth 100000 in
theorem ct_X1_upTo (l : Launch) (D : va_G) (cyI cyZ : ClassId) (q0 q1 : Nat) (sz : Nat) (ky : Nat → Int32) (na nb : Int32) (mm cn : Nat) (key : Int32) (hcn : cn ≤ 128) : Met l yX1_upTo wsX1_upTo rm_X1_upTo (xk_Pc D cyI cyZ [.ref q0, .int key] [(q0, .inr (1, [.ref q1, .int na, .int nb, .int (nI mm), .int (nI cn)])), (q1, .inl (cyI, 128, .inl ky))] sz) (xk_Qi D (va_A [(q0, .inr (1, [.ref q1, .int na, .int nb, .int (nI mm), .int (nI cn)])), (q1, .inl (cyI, 128, .inl ky))] sz) (nI (ub ky cn key 8) - 1) [(q0, .inr (1, [.ref q1, .int na, .int nb, .int (nI mm), .int (nI cn)])), (q1, .inl (cyI, 128, .inl ky))]) 0 0 (va_A [(q0, .inr (1, [.ref q1, .int na, .int nb, .int (nI mm), .int (nI cn)])), (q1, .inl (cyI, 128, .inl ky))] sz) := by
  refine xk_of (own := RX1) (cc := cX1_upTo) (maxL := 5) (ret := (some .int)) (Qc := fun A => xk_Qi D A (nI (ub ky cn key 8) - 1) [(q0, .inr (1, [.ref q1, .int na, .int nb, .int (nI mm), .int (nI cn)])), (q1, .inl (cyI, 128, .inl ky))]) (by decide) rfl rfl (Nat.le_of_ble_eq_true rfl) ?_
  intro p e s m below meth c A ls hx hb hr hml hown hlocks hin hts hA hP hK hN hD hS hl
  have hC0 := xk_fix hx hb hml hown hts
  have hl : lv_has ls 5 [(0, .ref q0), (1, .int key)] := hl
  have hf11 := hts (.fieldLink RX1 11 "DotPress$Lattice" "keys" "[I") (by decide +kernel)
  have hf29 := hts (.fieldLink RX1 29 "DotPress$Lattice" "pairs" "I") (by decide +kernel)
  refine lv_iconst (v := (-1)) hx hb dX1_upTo_0 (by decide) ?_
  refine lv_istore_n (lv' := [(2, .int (-1)), (0, .ref q0), (1, .int key)]) hx hb dX1_upTo_1 rfl hl (by decide) rfl (fun ls hl => ?_)
  refine lv_sipush (v := 128) hx hb dX1_upTo_2 (by decide) ?_
  refine lv_istore_n (lv' := [(3, .int 128), (2, .int (-1)), (0, .ref q0), (1, .int key)]) hx hb dX1_upTo_5 rfl hl (by decide) rfl (fun ls hl => ?_)
  have L6 : ∀ (n k : Nat), k + n = 8 → ∀ (H : Heap) (locs : List Loc) (ls : Array Slot), va_P D vwCl [(q0, .inr (1, [.ref q1, .int na, .int nb, .int (nI mm), .int (nI cn)])), (q1, .inl (cyI, 128, .inl ky))] H → va_D A [(q0, .inr (1, [.ref q1, .int na, .int nb, .int (nI mm), .int (nI cn)])), (q1, .inl (cyI, 128, .inl ky))] → va_S A s.heap H locs → lv_has ls 5 [(0, .ref q0), (1, .int key), (2, .int (nI (ub ky cn key k) - 1)), (3, .int (nI (lp k)))] → W p l e rm_X1_upTo s m ([.ref q0, .int key] : List Value).toArray below meth c H locs 0 0 (MQ below (xk_Qi D A (nI (ub ky cn key 8) - 1) [(q0, .inr (1, [.ref q1, .int na, .int nb, .int (nI mm), .int (nI cn)])), (q1, .inl (cyI, 128, .inl ky))]) ([.ref q0, .int key] : List Value).toArray s 0 0 A) (F0 m 6 ls []) := by
    intro n
    induction n with
    | zero =>
      intro k hk_6  H locs ls hP hD hS hl
      have hz_6 : 8 = k := hk_6.symm
      subst hz_6
      refine lv_iload_n hx hb dX1_upTo_6 rfl (lv_at hl 3 rfl) ?_
      refine lv_if_le (tgt := 55) hx hb dX1_upTo_7 (by decide) (fun c_7 => ?_) (fun c_7 => xk_ba c_7 (by rw [lp_8]; decide))
      refine lv_iload_n hx hb dX1_upTo_55 rfl (lv_at hl 2 rfl) ?_
      exact xk_iret hx hb hr hlocks hP hD hS (rfl) (rfl) dX1_upTo_56
    | succ n ih_6 =>
      intro k hk_6  H locs ls hP hD hS hl
      refine lv_iload_n hx hb dX1_upTo_6 rfl (lv_at hl 3 rfl) ?_
      refine lv_if_le (tgt := 55) hx hb dX1_upTo_7 (by decide) (fun c_7 => xk_ab c_7 (nI_nle (lp_pos k (by omega)) (by have := lp_le k; omega))) (fun c_7 => ?_)
      have hl1 := lp_pos k (by omega)
      have hl2 := lp_le k
      have hu := ub_le ky cn key k
      refine lv_iload_n hx hb dX1_upTo_10 rfl (lv_at hl 2 rfl) ?_
      refine lv_iload_n hx hb dX1_upTo_11 rfl (lv_at hl 3 rfl) ?_
      refine lv_iadd hx hb dX1_upTo_12 ?_
      refine xk_topi (y := nI (ub ky cn key k + lp k - 1)) (ub_nx hl1) ?_
      refine lv_istore (lv' := [(4, .int (nI (ub ky cn key k + lp k - 1))), (0, .ref q0), (1, .int key), (2, .int (nI (ub ky cn key k) - 1)), (3, .int (nI (lp k)))]) hx hb dX1_upTo_13 hl (by decide) rfl (fun ls hl => ?_)
      refine lv_iload hx hb dX1_upTo_15 (lv_at hl 0 rfl) ?_
      refine lv_aload_n hx hb dX1_upTo_17 rfl (lv_at hl 1 rfl) ?_
      refine va_get (D := D) (ci := 1) (v := .int (nI cn)) (C := RX1) (T := TX1) (N := 5) hx hb hts in_X1_upTo_X1 hown hK hP 0 rfl rfl 4 (by decide) hf29 (fun _ h9 => h9) rfl dX1_upTo_18 ?_
      refine lv_icmp_ge (tgt := 48) hx hb dX1_upTo_21 (by decide) (fun c_21 => ?_) (fun c_21 => ?_)
      · refine lv_iload_n hx hb dX1_upTo_48 rfl (lv_at hl 4 rfl) ?_
        refine lv_iconst (v := 2) hx hb dX1_upTo_49 (by decide) ?_
        refine lv_idiv hx hb dX1_upTo_50 (by decide) ?_
        refine xk_topi (y := nI (lp (k + 1))) (lp_s k) ?_
        refine lv_istore_n (lv' := [(3, .int (nI (lp (k + 1)))), (4, .int (nI (ub ky cn key k + lp k - 1))), (0, .ref q0), (1, .int key), (2, .int (nI (ub ky cn key k) - 1))]) hx hb dX1_upTo_51 rfl hl (by decide) rfl (fun ls hl => ?_)
        refine lv_goto (tgt := 6) hx hb dX1_upTo_52 (by decide) ?_
        have eq_37 : (nI (ub ky cn key k) - 1 : Int32) = nI (ub ky cn key (k + 1)) - 1 := by rw [ub_a (by have := (nI_leI (by omega) (by have := lp_le k; have := ub_le ky cn key k; omega)).mp c_21; have := lp_pos k (by omega); omega)]
        have hl := lv_sub (l' := [(0, .ref q0), (1, .int key), (2, .int (nI (ub ky cn key k) - 1)), (3, .int (nI (lp (k + 1))))]) hl [2, 3, 4, 0] rfl
        have eL : ([(0, .ref q0), (1, .int key), (2, .int (nI (ub ky cn key k) - 1)), (3, .int (nI (lp (k + 1))))] : List (Nat × Value)) = [(0, .ref q0), (1, .int key), (2, .int (nI (ub ky cn key (k + 1)) - 1)), (3, .int (nI (lp (k + 1))))] := (congrArg (List.cons _) (congrArg (List.cons _) (congr (congrArg List.cons (congrArg (fun z => (((2 : Nat), Value.int z) : Nat × Value)) eq_37)) (congrArg (List.cons _) rfl))))
        rw [eL] at hl
        exact ih_6 (k + 1) (by omega)  _ _ _ hP hD hS hl
      · have c_21 : ub ky cn key k + lp k - 1 < cn := Nat.lt_of_not_le (fun h => c_21 (nI_le h (by omega)))
        refine lv_iload hx hb dX1_upTo_24 (lv_at hl 0 rfl) ?_
        refine lv_aload_n hx hb dX1_upTo_26 rfl (lv_at hl 1 rfl) ?_
        refine va_get (D := D) (ci := 1) (v := .ref q1) (C := RX1) (T := TX1) (N := 5) hx hb hts in_X1_upTo_X1 hown hK hP 0 rfl rfl 0 (by decide) hf11 (fun _ h9 => h9) rfl dX1_upTo_27 ?_
        refine va_alen (v := nI 128) hx hb hK hP 1 0 rfl rfl rfl dX1_upTo_30 ?_
        refine lv_icmp_ge (tgt := 48) hx hb dX1_upTo_31 (by decide) (fun c_31 => xk_ab c_31 (nI_ge (b := 128) (by omega) (by decide))) (fun c_31 => ?_)
        refine lv_aload_n hx hb dX1_upTo_34 rfl (lv_at hl 1 rfl) ?_
        refine va_get (D := D) (ci := 1) (v := .ref q1) (C := RX1) (T := TX1) (N := 5) hx hb hts in_X1_upTo_X1 hown hK hP 0 rfl rfl 0 (by decide) hf11 (fun _ h9 => h9) rfl dX1_upTo_35 ?_
        refine lv_iload hx hb dX1_upTo_38 (lv_at hl 0 rfl) ?_
        refine xk_iald hx hb hK hP 1 rfl (ub ky cn key k + lp k - 1) (rfl) (by omega) (by decide) dX1_upTo_40 ?_
        refine lv_iload_n hx hb dX1_upTo_41 rfl (lv_at hl 2 rfl) ?_
        refine lv_icmp_gt (tgt := 48) hx hb dX1_upTo_42 (by decide) (fun c_42 => ?_) (fun c_42 => ?_)
        · refine lv_iload_n hx hb dX1_upTo_48 rfl (lv_at hl 4 rfl) ?_
          refine lv_iconst (v := 2) hx hb dX1_upTo_49 (by decide) ?_
          refine lv_idiv hx hb dX1_upTo_50 (by decide) ?_
          refine xk_topi (y := nI (lp (k + 1))) (lp_s k) ?_
          refine lv_istore_n (lv' := [(3, .int (nI (lp (k + 1)))), (4, .int (nI (ub ky cn key k + lp k - 1))), (0, .ref q0), (1, .int key), (2, .int (nI (ub ky cn key k) - 1))]) hx hb dX1_upTo_51 rfl hl (by decide) rfl (fun ls hl => ?_)
          refine lv_goto (tgt := 6) hx hb dX1_upTo_52 (by decide) ?_
          have eq_60 : (nI (ub ky cn key k) - 1 : Int32) = nI (ub ky cn key (k + 1)) - 1 := by rw [ub_b c_42]
          have hl := lv_sub (l' := [(0, .ref q0), (1, .int key), (2, .int (nI (ub ky cn key k) - 1)), (3, .int (nI (lp (k + 1))))]) hl [2, 3, 4, 0] rfl
          have eL : ([(0, .ref q0), (1, .int key), (2, .int (nI (ub ky cn key k) - 1)), (3, .int (nI (lp (k + 1))))] : List (Nat × Value)) = [(0, .ref q0), (1, .int key), (2, .int (nI (ub ky cn key (k + 1)) - 1)), (3, .int (nI (lp (k + 1))))] := (congrArg (List.cons _) (congrArg (List.cons _) (congr (congrArg List.cons (congrArg (fun z => (((2 : Nat), Value.int z) : Nat × Value)) eq_60)) (congrArg (List.cons _) rfl))))
          rw [eL] at hl
          exact ih_6 (k + 1) (by omega)  _ _ _ hP hD hS hl
        · refine lv_iload hx hb dX1_upTo_45 (lv_at hl 0 rfl) ?_
          refine lv_istore_n (lv' := [(2, .int (nI (ub ky cn key k + lp k - 1))), (4, .int (nI (ub ky cn key k + lp k - 1))), (0, .ref q0), (1, .int key), (3, .int (nI (lp k)))]) hx hb dX1_upTo_47 rfl hl (by decide) rfl (fun ls hl => ?_)
          refine lv_iload_n hx hb dX1_upTo_48 rfl (lv_at hl 4 rfl) ?_
          refine lv_iconst (v := 2) hx hb dX1_upTo_49 (by decide) ?_
          refine lv_idiv hx hb dX1_upTo_50 (by decide) ?_
          refine xk_topi (y := nI (lp (k + 1))) (lp_s k) ?_
          refine lv_istore_n (lv' := [(3, .int (nI (lp (k + 1)))), (2, .int (nI (ub ky cn key k + lp k - 1))), (4, .int (nI (ub ky cn key k + lp k - 1))), (0, .ref q0), (1, .int key)]) hx hb dX1_upTo_51 rfl hl (by decide) rfl (fun ls hl => ?_)
          refine lv_goto (tgt := 6) hx hb dX1_upTo_52 (by decide) ?_
          have eq_73 : (nI (ub ky cn key k + lp k - 1) : Int32) = nI (ub ky cn key (k + 1)) - 1 := by rw [ub_c (by omega) c_42, nI_m1 (by have := lp_pos k (by omega); omega)]
          have hl := lv_sub (l' := [(0, .ref q0), (1, .int key), (2, .int (nI (ub ky cn key k + lp k - 1))), (3, .int (nI (lp (k + 1))))]) hl [3, 4, 1, 0] rfl
          have eL : ([(0, .ref q0), (1, .int key), (2, .int (nI (ub ky cn key k + lp k - 1))), (3, .int (nI (lp (k + 1))))] : List (Nat × Value)) = [(0, .ref q0), (1, .int key), (2, .int (nI (ub ky cn key (k + 1)) - 1)), (3, .int (nI (lp (k + 1))))] := (congrArg (List.cons _) (congrArg (List.cons _) (congr (congrArg List.cons (congrArg (fun z => (((2 : Nat), Value.int z) : Nat × Value)) eq_73)) (congrArg (List.cons _) rfl))))
          rw [eL] at hl
          exact ih_6 (k + 1) (by omega)  _ _ _ hP hD hS hl
  have eq_78 : (-1 : Int32) = nI (ub ky cn key 0) - 1 := by show (-1 : Int32) = nI 0 - 1; decide
  have eq_79 : (128 : Int32) = nI (lp 0) := by decide
  have hl := lv_sub (l' := [(0, .ref q0), (1, .int key), (2, .int (-1)), (3, .int 128)]) hl [2, 3, 1, 0] rfl
  have eL : ([(0, .ref q0), (1, .int key), (2, .int (-1)), (3, .int 128)] : List (Nat × Value)) = [(0, .ref q0), (1, .int key), (2, .int (nI (ub ky cn key 0) - 1)), (3, .int (nI (lp 0)))] := (congrArg (List.cons _) (congrArg (List.cons _) (congr (congrArg List.cons (congrArg (fun z => (((2 : Nat), Value.int z) : Nat × Value)) eq_78)) (congr (congrArg List.cons (congrArg (fun z => (((3 : Nat), Value.int z) : Nat × Value)) eq_79)) rfl))))
  rw [eL] at hl
  exact L6 _ 0 (Nat.zero_add _)  _ _ _ hP hD hS hl

abbrev rm_X1_keep_t : Room := { frames := 1, cells := 0, slots := 0, locals := 24 }
theorem in_X1_keep_t_X1 : ∀ w ∈ u_ws RX1 TX1 5, w ∈ wsX1_keep := by decide +kernel
set_option maxHeartbeats 4000000 in
set_option maxRecDepth 100000 in
theorem ct_X1_keep_t (l : Launch) (D : va_G) (cyI cyZ : ClassId) (q0 q1 : Nat) (sz : Nat) (ky : Nat → Int32) (na nb : Int32) (mm cn : Nat) (key : Int32) (hcn : cn ≤ 128) (hkw : kwn ky cn key) : Met l yX1_keep wsX1_keep rm_X1_keep_t (xk_Pc D cyI cyZ [.ref q0, .int key] [(q0, .inr (1, [.ref q1, .int na, .int nb, .int (nI mm), .int (nI cn)])), (q1, .inl (cyI, 128, .inl ky))] sz) (xk_Qv D (va_A [(q0, .inr (1, [.ref q1, .int na, .int nb, .int (nI mm), .int (nI cn)])), (q1, .inl (cyI, 128, .inl ky))] sz) [(q0, .inr (1, [.ref q1, .int na, .int nb, .int (nI mm), .int (nI cn)])), (q1, .inl (cyI, 128, .inl ky))]) 0 0 (va_A [(q0, .inr (1, [.ref q1, .int na, .int nb, .int (nI mm), .int (nI cn)])), (q1, .inl (cyI, 128, .inl ky))] sz) := by
  refine xk_of (own := RX1) (cc := cX1_keep) (maxL := 5) (ret := none) (Qc := fun A => xk_Qv D A [(q0, .inr (1, [.ref q1, .int na, .int nb, .int (nI mm), .int (nI cn)])), (q1, .inl (cyI, 128, .inl ky))]) (by decide) rfl rfl (Nat.le_of_ble_eq_true rfl) ?_
  intro p e s m below meth c A ls hx hb hr hml hown hlocks hin hts hA hP hK hN hD hS hl
  have hC0 := xk_fix hx hb hml hown hts
  have hl : lv_has ls 5 [(0, .ref q0), (1, .int key)] := hl
  have hf11 := hts (.fieldLink RX1 11 "DotPress$Lattice" "keys" "[I") (by decide +kernel)
  have hu := ub_le ky cn key 8
  refine lv_aload_n hx hb dX1_keep_0 rfl (lv_at hl 0 rfl) ?_
  refine lv_iload_n hx hb dX1_keep_1 rfl (lv_at hl 1 rfl) ?_
  have hPc := hP.sub (ws' := [(q0, .inr (1, [.ref q1, .int na, .int nb, .int (nI mm), .int (nI cn)])), (q1, .inl (cyI, 128, .inl ky))]) [0, 1] rfl
  have hDc := hD.sub (ws' := [(q0, .inr (1, [.ref q1, .int na, .int nb, .int (nI mm), .int (nI cn)])), (q1, .inl (cyI, 128, .inl ky))]) [0, 1] (by decide) rfl
  refine xk_calli (wr := []) (w2 := [(q0, .inr (1, [.ref q1, .int na, .int nb, .int (nI mm), .int (nI cn)])), (q1, .inl (cyI, 128, .inl ky))]) (va_runV (As := [.int key]) (rest := []) hC0 (ct_X1_upTo l D cyI cyZ q0 q1 _ ky na nb mm cn key (by first | assumption | omega)) (cwV 1 hts gX1_keep_X1_upTo rfl rfl rfl (by decide +kernel) ⟨Nat.le_of_ble_eq_true rfl, Nat.le_of_ble_eq_true rfl⟩) ⟨xk_blind, va_recv hK hPc (ci := 1) (q0 := 0) rfl rfl, xk_pre hK hN hPc hDc⟩ rfl rfl hl.1 rfl (lv_room (Nat.le_of_ble_eq_true rfl)) dX1_keep_2 ⟨Nat.le_of_ble_eq_true rfl, Nat.le_of_ble_eq_true rfl⟩) hP hD hS hA [0, 1] [] [0, 1] rfl rfl (by decide) (by decide) rfl (by decide) (fun H locs hP hD hS => ?_)
  refine xk_topi (y := nI (ub ky cn key 8 - 1)) (nI_m1 hkw.1) ?_
  refine lv_istore_n (lv' := [(2, .int (nI (ub ky cn key 8 - 1))), (0, .ref q0), (1, .int key)]) hx hb dX1_keep_5 rfl hl (by decide) rfl (fun ls hl => ?_)
  refine lv_iload_n hx hb dX1_keep_6 rfl (lv_at hl 0 rfl) ?_
  refine lv_if_lt (tgt := 33) hx hb dX1_keep_7 (by decide) (fun c_7 => xk_ab c_7 (nI_pos (by omega))) (fun c_7 => ?_)
  refine lv_iload_n hx hb dX1_keep_10 rfl (lv_at hl 0 rfl) ?_
  refine lv_aload_n hx hb dX1_keep_11 rfl (lv_at hl 1 rfl) ?_
  refine va_get (D := D) (ci := 1) (v := .ref q1) (C := RX1) (T := TX1) (N := 5) hx hb hts in_X1_keep_t_X1 hown hK hP 0 rfl rfl 0 (by decide) hf11 (fun _ h9 => h9) rfl dX1_keep_12 ?_
  refine va_alen (v := nI 128) hx hb hK hP 1 0 rfl rfl rfl dX1_keep_15 ?_
  refine lv_icmp_ge (tgt := 33) hx hb dX1_keep_16 (by decide) (fun c_16 => xk_ab c_16 (nI_ge (b := 128) (by have := hkw.1; omega) (by decide))) (fun c_16 => ?_)
  refine lv_aload_n hx hb dX1_keep_19 rfl (lv_at hl 1 rfl) ?_
  refine va_get (D := D) (ci := 1) (v := .ref q1) (C := RX1) (T := TX1) (N := 5) hx hb hts in_X1_keep_t_X1 hown hK hP 0 rfl rfl 0 (by decide) hf11 (fun _ h9 => h9) rfl dX1_keep_20 ?_
  refine lv_iload_n hx hb dX1_keep_23 rfl (lv_at hl 0 rfl) ?_
  refine xk_iald hx hb hK hP 1 rfl (ub ky cn key 8 - 1) (rfl) (by have := hkw.1; omega) (by decide) dX1_keep_24 ?_
  refine lv_iload_n hx hb dX1_keep_25 rfl (lv_at hl 2 rfl) ?_
  refine lv_icmp_ne (tgt := 33) hx hb dX1_keep_26 (by decide) (fun c_26 => xk_ba c_26 (hkw.2)) (fun c_26 => ?_)
  refine lv_iconst (v := 1) hx hb dX1_keep_29 (by decide) ?_
  refine lv_goto (tgt := 34) hx hb dX1_keep_30 (by decide) ?_
  refine lv_istore_n (lv' := [(3, .int 1), (2, .int (nI (ub ky cn key 8 - 1))), (0, .ref q0), (1, .int key)]) hx hb dX1_keep_34 rfl hl (by decide) rfl (fun ls hl => ?_)
  refine lv_iload_n hx hb dX1_keep_35 rfl (lv_at hl 0 rfl) ?_
  refine lv_if_ne (tgt := 51) hx hb dX1_keep_36 (by decide) (fun c_36 => ?_) (fun c_36 => xk_ab c_36 ((by decide : ¬ (1 : Int32) = 0)))
  exact xk_vret hx hb hr hlocks hP hD hS (rfl) dX1_keep_51

abbrev rm_X1_keep_f : Room := { frames := 1, cells := 0, slots := 0, locals := 24 }
theorem in_X1_keep_f_X1 : ∀ w ∈ u_ws RX1 TX1 5, w ∈ wsX1_keep := by decide +kernel
set_option maxHeartbeats 4000000 in
set_option maxRecDepth 100000 in
theorem ct_X1_keep_f (l : Launch) (D : va_G) (cyI cyZ : ClassId) (q0 q1 : Nat) (sz : Nat) (ky : Nat → Int32) (na nb : Int32) (mm cn : Nat) (key : Int32) (hcn : cn < 128) (hkw : ¬ kwn ky cn key) : Met l yX1_keep wsX1_keep rm_X1_keep_f (xk_Pc D cyI cyZ [.ref q0, .int key] [(q0, .inr (1, [.ref q1, .int na, .int nb, .int (nI mm), .int (nI cn)])), (q1, .inl (cyI, 128, .inl ky))] sz) (xk_Qv D (va_A [(q0, .inr (1, [.ref q1, .int na, .int nb, .int (nI mm), .int (nI cn)])), (q1, .inl (cyI, 128, .inl ky))] sz) [(q0, .inr (1, [.ref q1, .int na, .int nb, .int (nI mm), .int (nI (cn + 1))])), (q1, .inl (cyI, 128, .inl (insK ky (ub ky cn key 8) cn key)))]) 0 0 (va_A [(q0, .inr (1, [.ref q1, .int na, .int nb, .int (nI mm), .int (nI cn)])), (q1, .inl (cyI, 128, .inl ky))] sz) := by
  refine xk_of (own := RX1) (cc := cX1_keep) (maxL := 5) (ret := none) (Qc := fun A => xk_Qv D A [(q0, .inr (1, [.ref q1, .int na, .int nb, .int (nI mm), .int (nI (cn + 1))])), (q1, .inl (cyI, 128, .inl (insK ky (ub ky cn key 8) cn key)))]) (by decide) rfl rfl (Nat.le_of_ble_eq_true rfl) ?_
  intro p e s m below meth c A ls hx hb hr hml hown hlocks hin hts hA hP hK hN hD hS hl
  have hC0 := xk_fix hx hb hml hown hts
  have hl : lv_has ls 5 [(0, .ref q0), (1, .int key)] := hl
  have hf11 := hts (.fieldLink RX1 11 "DotPress$Lattice" "keys" "[I") (by decide +kernel)
  have hf29 := hts (.fieldLink RX1 29 "DotPress$Lattice" "pairs" "I") (by decide +kernel)
  have hu := ub_le ky cn key 8
  refine lv_aload_n hx hb dX1_keep_0 rfl (lv_at hl 0 rfl) ?_
  refine lv_iload_n hx hb dX1_keep_1 rfl (lv_at hl 1 rfl) ?_
  have hPc := hP.sub (ws' := [(q0, .inr (1, [.ref q1, .int na, .int nb, .int (nI mm), .int (nI cn)])), (q1, .inl (cyI, 128, .inl ky))]) [0, 1] rfl
  have hDc := hD.sub (ws' := [(q0, .inr (1, [.ref q1, .int na, .int nb, .int (nI mm), .int (nI cn)])), (q1, .inl (cyI, 128, .inl ky))]) [0, 1] (by decide) rfl
  refine xk_calli (wr := []) (w2 := [(q0, .inr (1, [.ref q1, .int na, .int nb, .int (nI mm), .int (nI cn)])), (q1, .inl (cyI, 128, .inl ky))]) (va_runV (As := [.int key]) (rest := []) hC0 (ct_X1_upTo l D cyI cyZ q0 q1 _ ky na nb mm cn key (by first | assumption | omega)) (cwV 1 hts gX1_keep_X1_upTo rfl rfl rfl (by decide +kernel) ⟨Nat.le_of_ble_eq_true rfl, Nat.le_of_ble_eq_true rfl⟩) ⟨xk_blind, va_recv hK hPc (ci := 1) (q0 := 0) rfl rfl, xk_pre hK hN hPc hDc⟩ rfl rfl hl.1 rfl (lv_room (Nat.le_of_ble_eq_true rfl)) dX1_keep_2 ⟨Nat.le_of_ble_eq_true rfl, Nat.le_of_ble_eq_true rfl⟩) hP hD hS hA [0, 1] [] [0, 1] rfl rfl (by decide) (by decide) rfl (by decide) (fun H locs hP hD hS => ?_)
  refine lv_istore_n (lv' := [(2, .int (nI (ub ky cn key 8) - 1)), (0, .ref q0), (1, .int key)]) hx hb dX1_keep_5 rfl hl (by decide) rfl (fun ls hl => ?_)
  refine lv_iload_n hx hb dX1_keep_6 rfl (lv_at hl 0 rfl) ?_
  refine lv_if_lt (tgt := 33) hx hb dX1_keep_7 (by decide) (fun c_7 => ?_) (fun c_7 => ?_)
  · have hub0 : True := trivial
    refine lv_iconst (v := 0) hx hb dX1_keep_33 (by decide) ?_
    refine lv_istore_n (lv' := [(3, .int 0), (2, .int (nI (ub ky cn key 8) - 1)), (0, .ref q0), (1, .int key)]) hx hb dX1_keep_34 rfl hl (by decide) rfl (fun ls hl => ?_)
    refine lv_iload_n hx hb dX1_keep_35 rfl (lv_at hl 0 rfl) ?_
    refine lv_if_ne (tgt := 51) hx hb dX1_keep_36 (by decide) (fun c_36 => xk_ba c_36 ((rfl : (0 : Int32) = 0))) (fun c_36 => ?_)
    refine lv_aload_n hx hb dX1_keep_39 rfl (lv_at hl 2 rfl) ?_
    refine va_get (D := D) (ci := 1) (v := .int (nI cn)) (C := RX1) (T := TX1) (N := 5) hx hb hts in_X1_keep_f_X1 hown hK hP 0 rfl rfl 4 (by decide) hf29 (fun _ h9 => h9) rfl dX1_keep_40 ?_
    refine lv_aload_n hx hb dX1_keep_43 rfl (lv_at hl 2 rfl) ?_
    refine va_get (D := D) (ci := 1) (v := .ref q1) (C := RX1) (T := TX1) (N := 5) hx hb hts in_X1_keep_f_X1 hown hK hP 0 rfl rfl 0 (by decide) hf11 (fun _ h9 => h9) rfl dX1_keep_44 ?_
    refine va_alen (v := nI 128) hx hb hK hP 1 0 rfl rfl rfl dX1_keep_47 ?_
    refine lv_icmp_lt (tgt := 52) hx hb dX1_keep_48 (by decide) (fun c_48 => ?_) (fun c_48 => xk_ba c_48 (nI_lt (b := 128) hcn (by decide)))
    refine lv_aload_n hx hb dX1_keep_52 rfl (lv_at hl 2 rfl) ?_
    refine va_get (D := D) (ci := 1) (v := .int (nI cn)) (C := RX1) (T := TX1) (N := 5) hx hb hts in_X1_keep_f_X1 hown hK hP 0 rfl rfl 4 (by decide) hf29 (fun _ h9 => h9) rfl dX1_keep_53 ?_
    refine lv_istore (lv' := [(4, .int (nI cn)), (3, .int 0), (2, .int (nI (ub ky cn key 8) - 1)), (0, .ref q0), (1, .int key)]) hx hb dX1_keep_56 hl (by decide) rfl (fun ls hl => ?_)
    have L58 : ∀ (n k : Nat), k + n = (cn - ub ky cn key 8) → ∀ (H : Heap) (locs : List Loc) (ls : Array Slot), va_P D vwCl [(q0, .inr (1, [.ref q1, .int na, .int nb, .int (nI mm), .int (nI cn)])), (q1, .inl (cyI, 128, .inl (shf ky cn k)))] H → va_D A [(q0, .inr (1, [.ref q1, .int na, .int nb, .int (nI mm), .int (nI cn)])), (q1, .inl (cyI, 128, .inl (shf ky cn k)))] → va_S A s.heap H locs → lv_has ls 5 [(0, .ref q0), (1, .int key), (2, .int (nI (ub ky cn key 8) - 1)), (3, .int 0), (4, .int (nI (cn - k)))] → W p l e rm_X1_keep_f s m ([.ref q0, .int key] : List Value).toArray below meth c H locs 0 0 (MQ below (xk_Qv D A [(q0, .inr (1, [.ref q1, .int na, .int nb, .int (nI mm), .int (nI (cn + 1))])), (q1, .inl (cyI, 128, .inl (insK ky (ub ky cn key 8) cn key)))]) ([.ref q0, .int key] : List Value).toArray s 0 0 A) (F0 m 58 ls []) := by
      intro n
      induction n with
      | zero =>
        intro k hk_58  H locs ls hP hD hS hl
        have hz_58 : cn - ub ky cn key 8 = k := hk_58.symm
        subst hz_58
        refine lv_iload hx hb dX1_keep_58 (lv_at hl 4 rfl) ?_
        refine lv_iload_n hx hb dX1_keep_60 rfl (lv_at hl 2 rfl) ?_
        refine lv_iconst (v := 1) hx hb dX1_keep_61 (by decide) ?_
        refine lv_iadd hx hb dX1_keep_62 ?_
        refine xk_topi (y := nI (ub ky cn key 8)) (ub_p1 _) ?_
        refine lv_icmp_le (tgt := 94) hx hb dX1_keep_63 (by decide) (fun c_63 => ?_) (fun c_63 => xk_ba c_63 (nI_le (by omega) (by omega)))
        refine lv_iload_n hx hb dX1_keep_94 rfl (lv_at hl 2 rfl) ?_
        refine lv_iconst (v := 1) hx hb dX1_keep_95 (by decide) ?_
        refine lv_iadd hx hb dX1_keep_96 ?_
        refine xk_topi (y := nI (ub ky cn key 8)) (ub_p1 _) ?_
        refine lv_if_lt (tgt := 130) hx hb dX1_keep_97 (by decide) (fun c_97 => xk_ab c_97 (nI_pos (by omega))) (fun c_97 => ?_)
        refine lv_iload_n hx hb dX1_keep_100 rfl (lv_at hl 2 rfl) ?_
        refine lv_iconst (v := 1) hx hb dX1_keep_101 (by decide) ?_
        refine lv_iadd hx hb dX1_keep_102 ?_
        refine xk_topi (y := nI (ub ky cn key 8)) (ub_p1 _) ?_
        refine lv_aload_n hx hb dX1_keep_103 rfl (lv_at hl 0 rfl) ?_
        refine va_get (D := D) (ci := 1) (v := .ref q1) (C := RX1) (T := TX1) (N := 5) hx hb hts in_X1_keep_f_X1 hown hK hP 0 rfl rfl 0 (by decide) hf11 (fun _ h9 => h9) rfl dX1_keep_104 ?_
        refine va_alen (v := nI 128) hx hb hK hP 1 0 rfl rfl rfl dX1_keep_107 ?_
        refine lv_icmp_ge (tgt := 130) hx hb dX1_keep_108 (by decide) (fun c_108 => xk_ab c_108 (nI_ge (b := 128) (by omega) (by decide))) (fun c_108 => ?_)
        refine lv_aload_n hx hb dX1_keep_111 rfl (lv_at hl 0 rfl) ?_
        refine va_get (D := D) (ci := 1) (v := .ref q1) (C := RX1) (T := TX1) (N := 5) hx hb hts in_X1_keep_f_X1 hown hK hP 0 rfl rfl 0 (by decide) hf11 (fun _ h9 => h9) rfl dX1_keep_112 ?_
        refine lv_iload_n hx hb dX1_keep_115 rfl (lv_at hl 2 rfl) ?_
        refine lv_iconst (v := 1) hx hb dX1_keep_116 (by decide) ?_
        refine lv_iadd hx hb dX1_keep_117 ?_
        refine xk_topi (y := nI (ub ky cn key 8)) (ub_p1 _) ?_
        refine lv_iload_n hx hb dX1_keep_118 rfl (lv_at hl 1 rfl) ?_
        refine xk_iast (w2 := [(q0, .inr (1, [.ref q1, .int na, .int nb, .int (nI mm), .int (nI cn)])), (q1, .inl (cyI, 128, .inl (upd (shf ky cn (cn - ub ky cn key 8)) (ub ky cn key 8) key)))]) hx hb hK hP hD hS 1 rfl (ub ky cn key 8) (rfl) (by omega) (by decide) rfl dX1_keep_119 (fun H locs hP hD hS => ?_)
        refine lv_aload_n hx hb dX1_keep_120 rfl (lv_at hl 0 rfl) ?_
        refine lv_dup hx hb dX1_keep_121 rfl ?_
        refine va_get (D := D) (ci := 1) (v := .int (nI cn)) (C := RX1) (T := TX1) (N := 5) hx hb hts in_X1_keep_f_X1 hown hK hP 0 rfl rfl 4 (by decide) hf29 (fun _ h9 => h9) rfl dX1_keep_122 ?_
        refine lv_iconst (v := 1) hx hb dX1_keep_125 (by decide) ?_
        refine lv_iadd hx hb dX1_keep_126 ?_
        refine xk_topi (y := nI (cn + 1)) (nI_1 _) ?_
        refine va_put (D := D) (ci := 1) (v := .int (nI (cn + 1))) (ty := .int) (C := RX1) (T := TX1) (N := 5) hx hb hts in_X1_keep_f_X1 tyX1 tyX1_ok nmX1 hown hK hP hD hS 0 rfl rfl 4 (by decide) hf29 (fun _ h9 => h9) rfl (by decide +kernel) (rfl) (rfl) (Nat.le_of_ble_eq_true rfl) dX1_keep_127 (fun H locs hP hD hS => ?_)
        have hP : va_P D vwCl [(q0, .inr (1, [.ref q1, .int na, .int nb, .int (nI mm), .int (nI (cn + 1))])), (q1, .inl (cyI, 128, .inl (upd (shf ky cn (cn - ub ky cn key 8)) (ub ky cn key 8) key)))] H := hP
        have hD : va_D A [(q0, .inr (1, [.ref q1, .int na, .int nb, .int (nI mm), .int (nI (cn + 1))])), (q1, .inl (cyI, 128, .inl (upd (shf ky cn (cn - ub ky cn key 8)) (ub ky cn key 8) key)))] := hD
        exact xk_vret hx hb hr hlocks hP hD hS (rfl) dX1_keep_130
      | succ n ih_58 =>
        intro k hk_58  H locs ls hP hD hS hl
        refine lv_iload hx hb dX1_keep_58 (lv_at hl 4 rfl) ?_
        refine lv_iload_n hx hb dX1_keep_60 rfl (lv_at hl 2 rfl) ?_
        refine lv_iconst (v := 1) hx hb dX1_keep_61 (by decide) ?_
        refine lv_iadd hx hb dX1_keep_62 ?_
        refine xk_topi (y := nI (ub ky cn key 8)) (ub_p1 _) ?_
        refine lv_icmp_le (tgt := 94) hx hb dX1_keep_63 (by decide) (fun c_63 => xk_ab c_63 (nI_ge (by omega) (by omega))) (fun c_63 => ?_)
        refine lv_iload hx hb dX1_keep_66 (lv_at hl 4 rfl) ?_
        refine lv_iconst (v := 1) hx hb dX1_keep_68 (by decide) ?_
        refine lv_icmp_lt (tgt := 94) hx hb dX1_keep_69 (by decide) (fun c_69 => xk_ab c_69 (rg_lo (lo := 1) (by omega) (by omega))) (fun c_69 => ?_)
        refine lv_aload_n hx hb dX1_keep_72 rfl (lv_at hl 0 rfl) ?_
        refine va_get (D := D) (ci := 1) (v := .ref q1) (C := RX1) (T := TX1) (N := 5) hx hb hts in_X1_keep_f_X1 hown hK hP 0 rfl rfl 0 (by decide) hf11 (fun _ h9 => h9) rfl dX1_keep_73 ?_
        refine lv_iload hx hb dX1_keep_76 (lv_at hl 4 rfl) ?_
        refine lv_aload_n hx hb dX1_keep_78 rfl (lv_at hl 0 rfl) ?_
        refine va_get (D := D) (ci := 1) (v := .ref q1) (C := RX1) (T := TX1) (N := 5) hx hb hts in_X1_keep_f_X1 hown hK hP 0 rfl rfl 0 (by decide) hf11 (fun _ h9 => h9) rfl dX1_keep_79 ?_
        refine lv_iload hx hb dX1_keep_82 (lv_at hl 4 rfl) ?_
        refine lv_iconst (v := 1) hx hb dX1_keep_84 (by decide) ?_
        refine lv_isub hx hb dX1_keep_85 ?_
        refine xk_topi (y := nI (cn - k - 1)) (nI_m1 (by omega)) ?_
        refine xk_iald hx hb hK hP 1 rfl (cn - k - 1) (rfl) (by omega) (by decide) dX1_keep_86 ?_
        refine xk_iast (w2 := [(q0, .inr (1, [.ref q1, .int na, .int nb, .int (nI mm), .int (nI cn)])), (q1, .inl (cyI, 128, .inl (upd (shf ky cn k) (cn - k) ((shf ky cn k) (cn - k - 1)))))]) hx hb hK hP hD hS 1 rfl (cn - k) (rfl) (by omega) (by decide) rfl dX1_keep_87 (fun H locs hP hD hS => ?_)
        refine lv_iinc (v := (nI (cn - k) + (-1))) (lv' := [(4, .int (nI (cn - k) + (-1))), (0, .ref q0), (1, .int key), (2, .int (nI (ub ky cn key 8) - 1)), (3, .int 0)]) hx hb dX1_keep_88 hl (k := 4) rfl (rfl) (by decide) rfl (fun ls hl => ?_)
        refine lv_goto (tgt := 58) hx hb dX1_keep_91 (by decide) ?_
        have eq_90 : (nI (cn - k) + (-1) : Int32) = nI (cn - (k + 1)) := sb_m1 (by omega)
        have eq_91 : (upd (shf ky cn k) (cn - k) ((shf ky cn k) (cn - k - 1)) : Nat → Int32) = shf ky cn (k + 1) := shf_s (by omega)
        have eW : ([(q0, .inr (1, [.ref q1, .int na, .int nb, .int (nI mm), .int (nI cn)])), (q1, .inl (cyI, 128, .inl (upd (shf ky cn k) (cn - k) ((shf ky cn k) (cn - k - 1)))))] : va_W) = [(q0, .inr (1, [.ref q1, .int na, .int nb, .int (nI mm), .int (nI cn)])), (q1, .inl (cyI, 128, .inl (shf ky cn (k + 1))))] := (congrArg (List.cons _) (congr (congrArg List.cons (congrArg (fun z => ((q1, (Sum.inl (cyI, 128, Sum.inl z) : va_E)) : Nat × va_E)) eq_91)) rfl))
        rw [eW] at hP hD
        have hl := lv_sub (l' := [(0, .ref q0), (1, .int key), (2, .int (nI (ub ky cn key 8) - 1)), (3, .int 0), (4, .int (nI (cn - k) + (-1)))]) hl [1, 2, 3, 4, 0] rfl
        have eL : ([(0, .ref q0), (1, .int key), (2, .int (nI (ub ky cn key 8) - 1)), (3, .int 0), (4, .int (nI (cn - k) + (-1)))] : List (Nat × Value)) = [(0, .ref q0), (1, .int key), (2, .int (nI (ub ky cn key 8) - 1)), (3, .int 0), (4, .int (nI (cn - (k + 1))))] := (congrArg (List.cons _) (congrArg (List.cons _) (congrArg (List.cons _) (congrArg (List.cons _) (congr (congrArg List.cons (congrArg (fun z => (((4 : Nat), Value.int z) : Nat × Value)) eq_90)) rfl)))))
        rw [eL] at hl
        exact ih_58 (k + 1) (by omega)  _ _ _ hP hD hS hl
    have eq_98 : (nI cn : Int32) = nI (cn - 0) := rfl
    have eq_99 : (ky : Nat → Int32) = shf ky cn 0 := (shf_0 ky cn).symm
    have eW : ([(q0, .inr (1, [.ref q1, .int na, .int nb, .int (nI mm), .int (nI cn)])), (q1, .inl (cyI, 128, .inl ky))] : va_W) = [(q0, .inr (1, [.ref q1, .int na, .int nb, .int (nI mm), .int (nI cn)])), (q1, .inl (cyI, 128, .inl (shf ky cn 0)))] := (congrArg (List.cons _) (congr (congrArg List.cons (congrArg (fun z => ((q1, (Sum.inl (cyI, 128, Sum.inl z) : va_E)) : Nat × va_E)) eq_99)) rfl))
    rw [eW] at hP hD
    have hl := lv_sub (l' := [(0, .ref q0), (1, .int key), (2, .int (nI (ub ky cn key 8) - 1)), (3, .int 0), (4, .int (nI cn))]) hl [3, 4, 2, 1, 0] rfl
    have eL : ([(0, .ref q0), (1, .int key), (2, .int (nI (ub ky cn key 8) - 1)), (3, .int 0), (4, .int (nI cn))] : List (Nat × Value)) = [(0, .ref q0), (1, .int key), (2, .int (nI (ub ky cn key 8) - 1)), (3, .int 0), (4, .int (nI (cn - 0)))] := (congrArg (List.cons _) (congrArg (List.cons _) (congrArg (List.cons _) (congrArg (List.cons _) (congr (congrArg List.cons (congrArg (fun z => (((4 : Nat), Value.int z) : Nat × Value)) eq_98)) rfl)))))
    rw [eL] at hl
    exact L58 _ 0 (Nat.zero_add _)  _ _ _ hP hD hS hl
  · have hub1 : 1 ≤ ub ky cn key 8 := Nat.pos_of_ne_zero (fun h => c_7 (by rw [h]; decide))
    refine lv_iload_n hx hb dX1_keep_10 rfl (lv_at hl 0 rfl) ?_
    refine lv_aload_n hx hb dX1_keep_11 rfl (lv_at hl 1 rfl) ?_
    refine va_get (D := D) (ci := 1) (v := .ref q1) (C := RX1) (T := TX1) (N := 5) hx hb hts in_X1_keep_f_X1 hown hK hP 0 rfl rfl 0 (by decide) hf11 (fun _ h9 => h9) rfl dX1_keep_12 ?_
    refine va_alen (v := nI 128) hx hb hK hP 1 0 rfl rfl rfl dX1_keep_15 ?_
    refine lv_icmp_ge (tgt := 33) hx hb dX1_keep_16 (by decide) (fun c_16 => xk_ab c_16 (by rw [nI_m1 hub1]; exact nI_ge (b := 128) (by omega) (by decide))) (fun c_16 => ?_)
    refine lv_aload_n hx hb dX1_keep_19 rfl (lv_at hl 1 rfl) ?_
    refine va_get (D := D) (ci := 1) (v := .ref q1) (C := RX1) (T := TX1) (N := 5) hx hb hts in_X1_keep_f_X1 hown hK hP 0 rfl rfl 0 (by decide) hf11 (fun _ h9 => h9) rfl dX1_keep_20 ?_
    refine lv_iload_n hx hb dX1_keep_23 rfl (lv_at hl 0 rfl) ?_
    refine xk_iald hx hb hK hP 1 rfl (ub ky cn key 8 - 1) (nI_m1 hub1) (by omega) (by decide) dX1_keep_24 ?_
    refine lv_iload_n hx hb dX1_keep_25 rfl (lv_at hl 2 rfl) ?_
    refine lv_icmp_ne (tgt := 33) hx hb dX1_keep_26 (by decide) (fun c_26 => ?_) (fun c_26 => xk_ab c_26 (fun h => hkw ⟨hub1, h⟩))
    refine lv_iconst (v := 0) hx hb dX1_keep_33 (by decide) ?_
    refine lv_istore_n (lv' := [(3, .int 0), (2, .int (nI (ub ky cn key 8) - 1)), (0, .ref q0), (1, .int key)]) hx hb dX1_keep_34 rfl hl (by decide) rfl (fun ls hl => ?_)
    refine lv_iload_n hx hb dX1_keep_35 rfl (lv_at hl 0 rfl) ?_
    refine lv_if_ne (tgt := 51) hx hb dX1_keep_36 (by decide) (fun c_36 => xk_ba c_36 ((rfl : (0 : Int32) = 0))) (fun c_36 => ?_)
    refine lv_aload_n hx hb dX1_keep_39 rfl (lv_at hl 2 rfl) ?_
    refine va_get (D := D) (ci := 1) (v := .int (nI cn)) (C := RX1) (T := TX1) (N := 5) hx hb hts in_X1_keep_f_X1 hown hK hP 0 rfl rfl 4 (by decide) hf29 (fun _ h9 => h9) rfl dX1_keep_40 ?_
    refine lv_aload_n hx hb dX1_keep_43 rfl (lv_at hl 2 rfl) ?_
    refine va_get (D := D) (ci := 1) (v := .ref q1) (C := RX1) (T := TX1) (N := 5) hx hb hts in_X1_keep_f_X1 hown hK hP 0 rfl rfl 0 (by decide) hf11 (fun _ h9 => h9) rfl dX1_keep_44 ?_
    refine va_alen (v := nI 128) hx hb hK hP 1 0 rfl rfl rfl dX1_keep_47 ?_
    refine lv_icmp_lt (tgt := 52) hx hb dX1_keep_48 (by decide) (fun c_48 => ?_) (fun c_48 => xk_ba c_48 (nI_lt (b := 128) hcn (by decide)))
    refine lv_aload_n hx hb dX1_keep_52 rfl (lv_at hl 2 rfl) ?_
    refine va_get (D := D) (ci := 1) (v := .int (nI cn)) (C := RX1) (T := TX1) (N := 5) hx hb hts in_X1_keep_f_X1 hown hK hP 0 rfl rfl 4 (by decide) hf29 (fun _ h9 => h9) rfl dX1_keep_53 ?_
    refine lv_istore (lv' := [(4, .int (nI cn)), (3, .int 0), (2, .int (nI (ub ky cn key 8) - 1)), (0, .ref q0), (1, .int key)]) hx hb dX1_keep_56 hl (by decide) rfl (fun ls hl => ?_)
    have L58 : ∀ (n k : Nat), k + n = (cn - ub ky cn key 8) → ∀ (H : Heap) (locs : List Loc) (ls : Array Slot), va_P D vwCl [(q0, .inr (1, [.ref q1, .int na, .int nb, .int (nI mm), .int (nI cn)])), (q1, .inl (cyI, 128, .inl (shf ky cn k)))] H → va_D A [(q0, .inr (1, [.ref q1, .int na, .int nb, .int (nI mm), .int (nI cn)])), (q1, .inl (cyI, 128, .inl (shf ky cn k)))] → va_S A s.heap H locs → lv_has ls 5 [(0, .ref q0), (1, .int key), (2, .int (nI (ub ky cn key 8) - 1)), (3, .int 0), (4, .int (nI (cn - k)))] → W p l e rm_X1_keep_f s m ([.ref q0, .int key] : List Value).toArray below meth c H locs 0 0 (MQ below (xk_Qv D A [(q0, .inr (1, [.ref q1, .int na, .int nb, .int (nI mm), .int (nI (cn + 1))])), (q1, .inl (cyI, 128, .inl (insK ky (ub ky cn key 8) cn key)))]) ([.ref q0, .int key] : List Value).toArray s 0 0 A) (F0 m 58 ls []) := by
      intro n
      induction n with
      | zero =>
        intro k hk_58  H locs ls hP hD hS hl
        have hz_58 : cn - ub ky cn key 8 = k := hk_58.symm
        subst hz_58
        refine lv_iload hx hb dX1_keep_58 (lv_at hl 4 rfl) ?_
        refine lv_iload_n hx hb dX1_keep_60 rfl (lv_at hl 2 rfl) ?_
        refine lv_iconst (v := 1) hx hb dX1_keep_61 (by decide) ?_
        refine lv_iadd hx hb dX1_keep_62 ?_
        refine xk_topi (y := nI (ub ky cn key 8)) (ub_p1 _) ?_
        refine lv_icmp_le (tgt := 94) hx hb dX1_keep_63 (by decide) (fun c_63 => ?_) (fun c_63 => xk_ba c_63 (nI_le (by omega) (by omega)))
        refine lv_iload_n hx hb dX1_keep_94 rfl (lv_at hl 2 rfl) ?_
        refine lv_iconst (v := 1) hx hb dX1_keep_95 (by decide) ?_
        refine lv_iadd hx hb dX1_keep_96 ?_
        refine xk_topi (y := nI (ub ky cn key 8)) (ub_p1 _) ?_
        refine lv_if_lt (tgt := 130) hx hb dX1_keep_97 (by decide) (fun c_97 => xk_ab c_97 (nI_pos (by omega))) (fun c_97 => ?_)
        refine lv_iload_n hx hb dX1_keep_100 rfl (lv_at hl 2 rfl) ?_
        refine lv_iconst (v := 1) hx hb dX1_keep_101 (by decide) ?_
        refine lv_iadd hx hb dX1_keep_102 ?_
        refine xk_topi (y := nI (ub ky cn key 8)) (ub_p1 _) ?_
        refine lv_aload_n hx hb dX1_keep_103 rfl (lv_at hl 0 rfl) ?_
        refine va_get (D := D) (ci := 1) (v := .ref q1) (C := RX1) (T := TX1) (N := 5) hx hb hts in_X1_keep_f_X1 hown hK hP 0 rfl rfl 0 (by decide) hf11 (fun _ h9 => h9) rfl dX1_keep_104 ?_
        refine va_alen (v := nI 128) hx hb hK hP 1 0 rfl rfl rfl dX1_keep_107 ?_
        refine lv_icmp_ge (tgt := 130) hx hb dX1_keep_108 (by decide) (fun c_108 => xk_ab c_108 (nI_ge (b := 128) (by omega) (by decide))) (fun c_108 => ?_)
        refine lv_aload_n hx hb dX1_keep_111 rfl (lv_at hl 0 rfl) ?_
        refine va_get (D := D) (ci := 1) (v := .ref q1) (C := RX1) (T := TX1) (N := 5) hx hb hts in_X1_keep_f_X1 hown hK hP 0 rfl rfl 0 (by decide) hf11 (fun _ h9 => h9) rfl dX1_keep_112 ?_
        refine lv_iload_n hx hb dX1_keep_115 rfl (lv_at hl 2 rfl) ?_
        refine lv_iconst (v := 1) hx hb dX1_keep_116 (by decide) ?_
        refine lv_iadd hx hb dX1_keep_117 ?_
        refine xk_topi (y := nI (ub ky cn key 8)) (ub_p1 _) ?_
        refine lv_iload_n hx hb dX1_keep_118 rfl (lv_at hl 1 rfl) ?_
        refine xk_iast (w2 := [(q0, .inr (1, [.ref q1, .int na, .int nb, .int (nI mm), .int (nI cn)])), (q1, .inl (cyI, 128, .inl (upd (shf ky cn (cn - ub ky cn key 8)) (ub ky cn key 8) key)))]) hx hb hK hP hD hS 1 rfl (ub ky cn key 8) (rfl) (by omega) (by decide) rfl dX1_keep_119 (fun H locs hP hD hS => ?_)
        refine lv_aload_n hx hb dX1_keep_120 rfl (lv_at hl 0 rfl) ?_
        refine lv_dup hx hb dX1_keep_121 rfl ?_
        refine va_get (D := D) (ci := 1) (v := .int (nI cn)) (C := RX1) (T := TX1) (N := 5) hx hb hts in_X1_keep_f_X1 hown hK hP 0 rfl rfl 4 (by decide) hf29 (fun _ h9 => h9) rfl dX1_keep_122 ?_
        refine lv_iconst (v := 1) hx hb dX1_keep_125 (by decide) ?_
        refine lv_iadd hx hb dX1_keep_126 ?_
        refine xk_topi (y := nI (cn + 1)) (nI_1 _) ?_
        refine va_put (D := D) (ci := 1) (v := .int (nI (cn + 1))) (ty := .int) (C := RX1) (T := TX1) (N := 5) hx hb hts in_X1_keep_f_X1 tyX1 tyX1_ok nmX1 hown hK hP hD hS 0 rfl rfl 4 (by decide) hf29 (fun _ h9 => h9) rfl (by decide +kernel) (rfl) (rfl) (Nat.le_of_ble_eq_true rfl) dX1_keep_127 (fun H locs hP hD hS => ?_)
        have hP : va_P D vwCl [(q0, .inr (1, [.ref q1, .int na, .int nb, .int (nI mm), .int (nI (cn + 1))])), (q1, .inl (cyI, 128, .inl (upd (shf ky cn (cn - ub ky cn key 8)) (ub ky cn key 8) key)))] H := hP
        have hD : va_D A [(q0, .inr (1, [.ref q1, .int na, .int nb, .int (nI mm), .int (nI (cn + 1))])), (q1, .inl (cyI, 128, .inl (upd (shf ky cn (cn - ub ky cn key 8)) (ub ky cn key 8) key)))] := hD
        exact xk_vret hx hb hr hlocks hP hD hS (rfl) dX1_keep_130
      | succ n ih_58 =>
        intro k hk_58  H locs ls hP hD hS hl
        refine lv_iload hx hb dX1_keep_58 (lv_at hl 4 rfl) ?_
        refine lv_iload_n hx hb dX1_keep_60 rfl (lv_at hl 2 rfl) ?_
        refine lv_iconst (v := 1) hx hb dX1_keep_61 (by decide) ?_
        refine lv_iadd hx hb dX1_keep_62 ?_
        refine xk_topi (y := nI (ub ky cn key 8)) (ub_p1 _) ?_
        refine lv_icmp_le (tgt := 94) hx hb dX1_keep_63 (by decide) (fun c_63 => xk_ab c_63 (nI_ge (by omega) (by omega))) (fun c_63 => ?_)
        refine lv_iload hx hb dX1_keep_66 (lv_at hl 4 rfl) ?_
        refine lv_iconst (v := 1) hx hb dX1_keep_68 (by decide) ?_
        refine lv_icmp_lt (tgt := 94) hx hb dX1_keep_69 (by decide) (fun c_69 => xk_ab c_69 (rg_lo (lo := 1) (by omega) (by omega))) (fun c_69 => ?_)
        refine lv_aload_n hx hb dX1_keep_72 rfl (lv_at hl 0 rfl) ?_
        refine va_get (D := D) (ci := 1) (v := .ref q1) (C := RX1) (T := TX1) (N := 5) hx hb hts in_X1_keep_f_X1 hown hK hP 0 rfl rfl 0 (by decide) hf11 (fun _ h9 => h9) rfl dX1_keep_73 ?_
        refine lv_iload hx hb dX1_keep_76 (lv_at hl 4 rfl) ?_
        refine lv_aload_n hx hb dX1_keep_78 rfl (lv_at hl 0 rfl) ?_
        refine va_get (D := D) (ci := 1) (v := .ref q1) (C := RX1) (T := TX1) (N := 5) hx hb hts in_X1_keep_f_X1 hown hK hP 0 rfl rfl 0 (by decide) hf11 (fun _ h9 => h9) rfl dX1_keep_79 ?_
        refine lv_iload hx hb dX1_keep_82 (lv_at hl 4 rfl) ?_
        refine lv_iconst (v := 1) hx hb dX1_keep_84 (by decide) ?_
        refine lv_isub hx hb dX1_keep_85 ?_
        refine xk_topi (y := nI (cn - k - 1)) (nI_m1 (by omega)) ?_
        refine xk_iald hx hb hK hP 1 rfl (cn - k - 1) (rfl) (by omega) (by decide) dX1_keep_86 ?_
        refine xk_iast (w2 := [(q0, .inr (1, [.ref q1, .int na, .int nb, .int (nI mm), .int (nI cn)])), (q1, .inl (cyI, 128, .inl (upd (shf ky cn k) (cn - k) ((shf ky cn k) (cn - k - 1)))))]) hx hb hK hP hD hS 1 rfl (cn - k) (rfl) (by omega) (by decide) rfl dX1_keep_87 (fun H locs hP hD hS => ?_)
        refine lv_iinc (v := (nI (cn - k) + (-1))) (lv' := [(4, .int (nI (cn - k) + (-1))), (0, .ref q0), (1, .int key), (2, .int (nI (ub ky cn key 8) - 1)), (3, .int 0)]) hx hb dX1_keep_88 hl (k := 4) rfl (rfl) (by decide) rfl (fun ls hl => ?_)
        refine lv_goto (tgt := 58) hx hb dX1_keep_91 (by decide) ?_
        have eq_199 : (nI (cn - k) + (-1) : Int32) = nI (cn - (k + 1)) := sb_m1 (by omega)
        have eq_200 : (upd (shf ky cn k) (cn - k) ((shf ky cn k) (cn - k - 1)) : Nat → Int32) = shf ky cn (k + 1) := shf_s (by omega)
        have eW : ([(q0, .inr (1, [.ref q1, .int na, .int nb, .int (nI mm), .int (nI cn)])), (q1, .inl (cyI, 128, .inl (upd (shf ky cn k) (cn - k) ((shf ky cn k) (cn - k - 1)))))] : va_W) = [(q0, .inr (1, [.ref q1, .int na, .int nb, .int (nI mm), .int (nI cn)])), (q1, .inl (cyI, 128, .inl (shf ky cn (k + 1))))] := (congrArg (List.cons _) (congr (congrArg List.cons (congrArg (fun z => ((q1, (Sum.inl (cyI, 128, Sum.inl z) : va_E)) : Nat × va_E)) eq_200)) rfl))
        rw [eW] at hP hD
        have hl := lv_sub (l' := [(0, .ref q0), (1, .int key), (2, .int (nI (ub ky cn key 8) - 1)), (3, .int 0), (4, .int (nI (cn - k) + (-1)))]) hl [1, 2, 3, 4, 0] rfl
        have eL : ([(0, .ref q0), (1, .int key), (2, .int (nI (ub ky cn key 8) - 1)), (3, .int 0), (4, .int (nI (cn - k) + (-1)))] : List (Nat × Value)) = [(0, .ref q0), (1, .int key), (2, .int (nI (ub ky cn key 8) - 1)), (3, .int 0), (4, .int (nI (cn - (k + 1))))] := (congrArg (List.cons _) (congrArg (List.cons _) (congrArg (List.cons _) (congrArg (List.cons _) (congr (congrArg List.cons (congrArg (fun z => (((4 : Nat), Value.int z) : Nat × Value)) eq_199)) rfl)))))
        rw [eL] at hl
        exact ih_58 (k + 1) (by omega)  _ _ _ hP hD hS hl
    have eq_207 : (nI cn : Int32) = nI (cn - 0) := rfl
    have eq_208 : (ky : Nat → Int32) = shf ky cn 0 := (shf_0 ky cn).symm
    have eW : ([(q0, .inr (1, [.ref q1, .int na, .int nb, .int (nI mm), .int (nI cn)])), (q1, .inl (cyI, 128, .inl ky))] : va_W) = [(q0, .inr (1, [.ref q1, .int na, .int nb, .int (nI mm), .int (nI cn)])), (q1, .inl (cyI, 128, .inl (shf ky cn 0)))] := (congrArg (List.cons _) (congr (congrArg List.cons (congrArg (fun z => ((q1, (Sum.inl (cyI, 128, Sum.inl z) : va_E)) : Nat × va_E)) eq_208)) rfl))
    rw [eW] at hP hD
    have hl := lv_sub (l' := [(0, .ref q0), (1, .int key), (2, .int (nI (ub ky cn key 8) - 1)), (3, .int 0), (4, .int (nI cn))]) hl [3, 4, 2, 1, 0] rfl
    have eL : ([(0, .ref q0), (1, .int key), (2, .int (nI (ub ky cn key 8) - 1)), (3, .int 0), (4, .int (nI cn))] : List (Nat × Value)) = [(0, .ref q0), (1, .int key), (2, .int (nI (ub ky cn key 8) - 1)), (3, .int 0), (4, .int (nI (cn - 0)))] := (congrArg (List.cons _) (congrArg (List.cons _) (congrArg (List.cons _) (congrArg (List.cons _) (congr (congrArg List.cons (congrArg (fun z => (((4 : Nat), Value.int z) : Nat × Value)) eq_207)) rfl)))))
    rw [eL] at hl
    exact L58 _ 0 (Nat.zero_add _)  _ _ _ hP hD hS hl

theorem ct_X1_keep (l : Launch) (D : va_G) (cyI cyZ : ClassId) (q0 q1 : Nat) (sz : Nat) (ky : Nat → Int32) (na nb : Int32) (mm cn : Nat) (key : Int32) (hcn : cn < 128) : Met l yX1_keep wsX1_keep rm_X1_keep_f (xk_Pc D cyI cyZ [.ref q0, .int key] [(q0, .inr (1, [.ref q1, .int na, .int nb, .int (nI mm), .int (nI cn)])), (q1, .inl (cyI, 128, .inl ky))] sz) (xk_Qv D (va_A [(q0, .inr (1, [.ref q1, .int na, .int nb, .int (nI mm), .int (nI cn)])), (q1, .inl (cyI, 128, .inl ky))] sz) [(q0, .inr (1, [.ref q1, .int na, .int nb, .int (nI mm), .int (nI ((kp key (ky, cn)).2))])), (q1, .inl (cyI, 128, .inl ((kp key (ky, cn)).1)))]) 0 0 (va_A [(q0, .inr (1, [.ref q1, .int na, .int nb, .int (nI mm), .int (nI cn)])), (q1, .inl (cyI, 128, .inl ky))] sz) := by
  by_cases h : kwn ky cn key
  · rw [kp_t (s := (ky, cn)) h]
    exact ct_X1_keep_t l D cyI cyZ q0 q1 sz ky na nb mm cn key (by omega) h
  · rw [kp_f (s := (ky, cn)) h]
    exact ct_X1_keep_f l D cyI cyZ q0 q1 sz ky na nb mm cn key hcn h

abbrev rm_X1_renew : Room := { frames := 3, cells := 0, slots := 0, locals := 69 }
theorem in_X1_renew_X1 : ∀ w ∈ u_ws RX1 TX1 5, w ∈ wsX1_renew := by decide +kernel
set_option maxHeartbeats 4000000 in
set_option maxRecDepth 100000 in
theorem ct_X1_renew (l : Launch) (D : va_G) (cyI cyZ : ClassId) (q0 q1 : Nat) (sz : Nat) (ky : Nat → Int32) (na nb : Int32) (mm cn : Nat) (x y : Int32) (A1 B1 mm2 : Nat) (hAb : abI x = nI A1) (hBb : abI y = nI B1) (hmq : x * x + y * y = nI mm2) (hA8 : A1 ≤ 8) (hB8 : B1 ≤ 8) (hm1 : 1 ≤ mm2) (hm2 : mm2 ≤ 128) (hg1 : 1 ≤ Nat.gcd A1 B1) (hg2 : Nat.gcd A1 B1 ≤ 8) : Met l yX1_renew wsX1_renew rm_X1_renew (xk_Pc D cyI cyZ [.ref q0, .int x, .int y] [(q0, .inr (1, [.ref q1, .int na, .int nb, .int (nI mm), .int (nI cn)])), (q1, .inl (cyI, 128, .inl ky))] sz) (xk_Qv D (va_A [(q0, .inr (1, [.ref q1, .int na, .int nb, .int (nI mm), .int (nI cn)])), (q1, .inl (cyI, 128, .inl ky))] sz) [(q0, .inr (1, [.ref q1, .int x, .int y, .int (nI mm2), .int (nI ((kpo (kyF x y mm2) (mm2 / Nat.gcd A1 B1) (ky, 0) (Nat.gcd A1 B1)).2))])), (q1, .inl (cyI, 128, .inl ((kpo (kyF x y mm2) (mm2 / Nat.gcd A1 B1) (ky, 0) (Nat.gcd A1 B1)).1)))]) 0 0 (va_A [(q0, .inr (1, [.ref q1, .int na, .int nb, .int (nI mm), .int (nI cn)])), (q1, .inl (cyI, 128, .inl ky))] sz) := by
  refine xk_of (own := RX1) (cc := cX1_renew) (maxL := 7) (ret := none) (Qc := fun A => xk_Qv D A [(q0, .inr (1, [.ref q1, .int x, .int y, .int (nI mm2), .int (nI ((kpo (kyF x y mm2) (mm2 / Nat.gcd A1 B1) (ky, 0) (Nat.gcd A1 B1)).2))])), (q1, .inl (cyI, 128, .inl ((kpo (kyF x y mm2) (mm2 / Nat.gcd A1 B1) (ky, 0) (Nat.gcd A1 B1)).1)))]) (by decide) rfl rfl (Nat.le_of_ble_eq_true rfl) ?_
  intro p e s m below meth c A ls hx hb hr hml hown hlocks hin hts hA hP hK hN hD hS hl
  have hC0 := xk_fix hx hb hml hown hts
  have hl : lv_has ls 7 [(0, .ref q0), (1, .int x), (2, .int y)] := hl
  have hf19 := hts (.fieldLink RX1 19 "DotPress$Lattice" "a" "I") (by decide +kernel)
  have hf23 := hts (.fieldLink RX1 23 "DotPress$Lattice" "b" "I") (by decide +kernel)
  have hf26 := hts (.fieldLink RX1 26 "DotPress$Lattice" "square" "I") (by decide +kernel)
  have hf29 := hts (.fieldLink RX1 29 "DotPress$Lattice" "pairs" "I") (by decide +kernel)
  have hper : mm2 / Nat.gcd A1 B1 ≤ mm2 := Nat.div_le_self _ _
  refine lv_aload_n hx hb dX1_renew_0 rfl (lv_at hl 0 rfl) ?_
  refine lv_iload_n hx hb dX1_renew_1 rfl (lv_at hl 1 rfl) ?_
  refine va_put (D := D) (ci := 1) (v := .int x) (ty := .int) (C := RX1) (T := TX1) (N := 5) hx hb hts in_X1_renew_X1 tyX1 tyX1_ok nmX1 hown hK hP hD hS 0 rfl rfl 1 (by decide) hf19 (fun _ h9 => h9) rfl (by decide +kernel) (rfl) (rfl) (Nat.le_of_ble_eq_true rfl) dX1_renew_2 (fun H locs hP hD hS => ?_)
  have hP : va_P D vwCl [(q0, .inr (1, [.ref q1, .int x, .int nb, .int (nI mm), .int (nI cn)])), (q1, .inl (cyI, 128, .inl ky))] H := hP
  have hD : va_D A [(q0, .inr (1, [.ref q1, .int x, .int nb, .int (nI mm), .int (nI cn)])), (q1, .inl (cyI, 128, .inl ky))] := hD
  refine lv_aload_n hx hb dX1_renew_5 rfl (lv_at hl 0 rfl) ?_
  refine lv_iload_n hx hb dX1_renew_6 rfl (lv_at hl 2 rfl) ?_
  refine va_put (D := D) (ci := 1) (v := .int y) (ty := .int) (C := RX1) (T := TX1) (N := 5) hx hb hts in_X1_renew_X1 tyX1 tyX1_ok nmX1 hown hK hP hD hS 0 rfl rfl 2 (by decide) hf23 (fun _ h9 => h9) rfl (by decide +kernel) (rfl) (rfl) (Nat.le_of_ble_eq_true rfl) dX1_renew_7 (fun H locs hP hD hS => ?_)
  have hP : va_P D vwCl [(q0, .inr (1, [.ref q1, .int x, .int y, .int (nI mm), .int (nI cn)])), (q1, .inl (cyI, 128, .inl ky))] H := hP
  have hD : va_D A [(q0, .inr (1, [.ref q1, .int x, .int y, .int (nI mm), .int (nI cn)])), (q1, .inl (cyI, 128, .inl ky))] := hD
  refine lv_aload_n hx hb dX1_renew_10 rfl (lv_at hl 0 rfl) ?_
  refine lv_iload_n hx hb dX1_renew_11 rfl (lv_at hl 1 rfl) ?_
  refine lv_iload_n hx hb dX1_renew_12 rfl (lv_at hl 1 rfl) ?_
  refine lv_imul hx hb dX1_renew_13 ?_
  refine lv_iload_n hx hb dX1_renew_14 rfl (lv_at hl 2 rfl) ?_
  refine lv_iload_n hx hb dX1_renew_15 rfl (lv_at hl 2 rfl) ?_
  refine lv_imul hx hb dX1_renew_16 ?_
  refine lv_iadd hx hb dX1_renew_17 ?_
  refine xk_topi (y := nI mm2) (hmq) ?_
  refine va_put (D := D) (ci := 1) (v := .int (nI mm2)) (ty := .int) (C := RX1) (T := TX1) (N := 5) hx hb hts in_X1_renew_X1 tyX1 tyX1_ok nmX1 hown hK hP hD hS 0 rfl rfl 3 (by decide) hf26 (fun _ h9 => h9) rfl (by decide +kernel) (rfl) (rfl) (Nat.le_of_ble_eq_true rfl) dX1_renew_18 (fun H locs hP hD hS => ?_)
  have hP : va_P D vwCl [(q0, .inr (1, [.ref q1, .int x, .int y, .int (nI mm2), .int (nI cn)])), (q1, .inl (cyI, 128, .inl ky))] H := hP
  have hD : va_D A [(q0, .inr (1, [.ref q1, .int x, .int y, .int (nI mm2), .int (nI cn)])), (q1, .inl (cyI, 128, .inl ky))] := hD
  refine lv_aload_n hx hb dX1_renew_21 rfl (lv_at hl 0 rfl) ?_
  refine lv_iconst (v := 0) hx hb dX1_renew_22 (by decide) ?_
  refine va_put (D := D) (ci := 1) (v := .int 0) (ty := .int) (C := RX1) (T := TX1) (N := 5) hx hb hts in_X1_renew_X1 tyX1 tyX1_ok nmX1 hown hK hP hD hS 0 rfl rfl 4 (by decide) hf29 (fun _ h9 => h9) rfl (by decide +kernel) (rfl) (rfl) (Nat.le_of_ble_eq_true rfl) dX1_renew_23 (fun H locs hP hD hS => ?_)
  have hP : va_P D vwCl [(q0, .inr (1, [.ref q1, .int x, .int y, .int (nI mm2), .int 0])), (q1, .inl (cyI, 128, .inl ky))] H := hP
  have hD : va_D A [(q0, .inr (1, [.ref q1, .int x, .int y, .int (nI mm2), .int 0])), (q1, .inl (cyI, 128, .inl ky))] := hD
  refine lv_iload_n hx hb dX1_renew_26 rfl (lv_at hl 1 rfl) ?_
  refine va_mabs hx hb (hml.trans hl.1.symm) hown (hts (.methodLink RX1 32 Lib.Math.abs.name) (by decide +kernel)) (hts (.static Lib.Math.abs.name) (by decide +kernel)) (hts (.initialized "java/lang/Math") (by decide +kernel)) (hts (.code Lib.Math.abs.name Lib.Math.abs.code 1 (some .int)) (by decide +kernel)) (Nat.le_of_ble_eq_true rfl) (Nat.le_of_ble_eq_true rfl) (Nat.zero_le _) (Nat.zero_le _) dX1_renew_27 ?_
  refine xk_topi (y := nI A1) (hAb) ?_
  refine lv_iload_n hx hb dX1_renew_30 rfl (lv_at hl 2 rfl) ?_
  refine va_mabs hx hb (hml.trans hl.1.symm) hown (hts (.methodLink RX1 32 Lib.Math.abs.name) (by decide +kernel)) (hts (.static Lib.Math.abs.name) (by decide +kernel)) (hts (.initialized "java/lang/Math") (by decide +kernel)) (hts (.code Lib.Math.abs.name Lib.Math.abs.code 1 (some .int)) (by decide +kernel)) (Nat.le_of_ble_eq_true rfl) (Nat.le_of_ble_eq_true rfl) (Nat.zero_le _) (Nat.zero_le _) dX1_renew_31 ?_
  refine xk_topi (y := nI B1) (hBb) ?_
  have hPc := hP.sub (ws' := []) [] rfl
  have hDc := hD.sub (ws' := []) [] (by decide) rfl
  refine xk_calli (wr := [(q0, .inr (1, [.ref q1, .int x, .int y, .int (nI mm2), .int 0])), (q1, .inl (cyI, 128, .inl ky))]) (w2 := [(q0, .inr (1, [.ref q1, .int x, .int y, .int (nI mm2), .int 0])), (q1, .inl (cyI, 128, .inl ky))]) (va_runSN (As := [.int (nI A1), .int (nI B1)]) (rest := []) hC0 (ct_X4_commonDivisor l D cyI cyZ  _ A1 B1 (by first | assumption | omega) (by first | assumption | omega)) ⟨va_cnB 2 hts ggX1_renew_X4_commonDivisor rfl rfl rfl hN.1 (hts (.initialized RX4) (by decide +kernel)) (by decide +kernel) ⟨Nat.le_of_ble_eq_true rfl, Nat.le_of_ble_eq_true rfl⟩, hts (.static yX4_commonDivisor) (by decide +kernel), trivial⟩ ⟨xk_blind, xk_pre hK hN hPc hDc⟩ rfl rfl hl.1 rfl (lv_room (Nat.le_of_ble_eq_true rfl)) dX1_renew_34 ⟨Nat.le_of_ble_eq_true rfl, Nat.le_of_ble_eq_true rfl⟩) hP hD hS hA [] [0, 1] [0, 1] rfl rfl (by decide) (by decide) rfl (by decide) (fun H locs hP hD hS => ?_)
  refine lv_istore_n (lv' := [(3, .int (nI (Nat.gcd A1 B1))), (0, .ref q0), (1, .int x), (2, .int y)]) hx hb dX1_renew_37 rfl hl (by decide) rfl (fun ls hl => ?_)
  refine lv_iload_n hx hb dX1_renew_38 rfl (lv_at hl 0 rfl) ?_
  refine lv_iconst (v := 1) hx hb dX1_renew_39 (by decide) ?_
  refine lv_icmp_ge (tgt := 47) hx hb dX1_renew_40 (by decide) (fun c_40 => ?_) (fun c_40 => xk_ba c_40 (nI_le (a := 1) hg1 (by omega)))
  refine lv_aload_n hx hb dX1_renew_47 rfl (lv_at hl 1 rfl) ?_
  refine va_get (D := D) (ci := 1) (v := .int (nI mm2)) (C := RX1) (T := TX1) (N := 5) hx hb hts in_X1_renew_X1 hown hK hP 0 rfl rfl 3 (by decide) hf26 (fun _ h9 => h9) rfl dX1_renew_48 ?_
  refine lv_iload_n hx hb dX1_renew_51 rfl (lv_at hl 0 rfl) ?_
  refine lv_idiv hx hb dX1_renew_52 (nI_ne0 hg1 (by omega)) ?_
  refine xk_topi (y := nI (mm2 / Nat.gcd A1 B1)) (pk_div (by omega) hg1 (by omega)) ?_
  refine lv_istore (lv' := [(4, .int (nI (mm2 / Nat.gcd A1 B1))), (3, .int (nI (Nat.gcd A1 B1))), (0, .ref q0), (1, .int x), (2, .int y)]) hx hb dX1_renew_53 hl (by decide) rfl (fun ls hl => ?_)
  refine lv_iconst (v := 0) hx hb dX1_renew_55 (by decide) ?_
  refine lv_istore (lv' := [(5, .int 0), (4, .int (nI (mm2 / Nat.gcd A1 B1))), (3, .int (nI (Nat.gcd A1 B1))), (0, .ref q0), (1, .int x), (2, .int y)]) hx hb dX1_renew_56 hl (by decide) rfl (fun ls hl => ?_)
  have L58 : ∀ (n i : Nat), i + n = (Nat.gcd A1 B1) → ∀ (H : Heap) (locs : List Loc) (ls : Array Slot), va_P D vwCl [(q0, .inr (1, [.ref q1, .int x, .int y, .int (nI mm2), .int (nI (kpo (kyF x y mm2) (mm2 / Nat.gcd A1 B1) (ky, 0) i).2)])), (q1, .inl (cyI, 128, .inl ((kpo (kyF x y mm2) (mm2 / Nat.gcd A1 B1) (ky, 0) i).1)))] H → va_D A [(q0, .inr (1, [.ref q1, .int x, .int y, .int (nI mm2), .int (nI (kpo (kyF x y mm2) (mm2 / Nat.gcd A1 B1) (ky, 0) i).2)])), (q1, .inl (cyI, 128, .inl ((kpo (kyF x y mm2) (mm2 / Nat.gcd A1 B1) (ky, 0) i).1)))] → va_S A s.heap H locs → lv_has ls 7 [(0, .ref q0), (1, .int x), (2, .int y), (3, .int (nI (Nat.gcd A1 B1))), (4, .int (nI (mm2 / Nat.gcd A1 B1))), (5, .int (nI i))] → W p l e rm_X1_renew s m ([.ref q0, .int x, .int y] : List Value).toArray below meth c H locs 0 0 (MQ below (xk_Qv D A [(q0, .inr (1, [.ref q1, .int x, .int y, .int (nI mm2), .int (nI ((kpo (kyF x y mm2) (mm2 / Nat.gcd A1 B1) (ky, 0) (Nat.gcd A1 B1)).2))])), (q1, .inl (cyI, 128, .inl ((kpo (kyF x y mm2) (mm2 / Nat.gcd A1 B1) (ky, 0) (Nat.gcd A1 B1)).1)))]) ([.ref q0, .int x, .int y] : List Value).toArray s 0 0 A) (F0 m 58 ls []) := by
    intro n
    induction n with
    | zero =>
      intro i hk_58  H locs ls hP hD hS hl
      have hz_58 : Nat.gcd A1 B1 = i := hk_58.symm
      subst hz_58
      refine lv_iload hx hb dX1_renew_58 (lv_at hl 5 rfl) ?_
      refine lv_iload_n hx hb dX1_renew_60 rfl (lv_at hl 3 rfl) ?_
      refine lv_icmp_ge (tgt := 98) hx hb dX1_renew_61 (by decide) (fun c_61 => ?_) (fun c_61 => xk_ba c_61 (nI_le (Nat.le_refl _) (by omega)))
      exact xk_vret hx hb hr hlocks hP hD hS (rfl) dX1_renew_98
    | succ n ih_58 =>
      intro i hk_58  H locs ls hP hD hS hl
      refine lv_iload hx hb dX1_renew_58 (lv_at hl 5 rfl) ?_
      refine lv_iload_n hx hb dX1_renew_60 rfl (lv_at hl 3 rfl) ?_
      refine lv_icmp_ge (tgt := 98) hx hb dX1_renew_61 (by decide) (fun c_61 => xk_ab c_61 (nI_ge (by omega) (by omega))) (fun c_61 => ?_)
      refine lv_iconst (v := 0) hx hb dX1_renew_64 (by decide) ?_
      refine lv_istore (lv' := [(6, .int 0), (0, .ref q0), (1, .int x), (2, .int y), (3, .int (nI (Nat.gcd A1 B1))), (4, .int (nI (mm2 / Nat.gcd A1 B1))), (5, .int (nI i))]) hx hb dX1_renew_65 hl (by decide) rfl (fun ls hl => ?_)
      have L67 : ∀ (n j : Nat), j + n = (mm2 / Nat.gcd A1 B1) → ∀ (H : Heap) (locs : List Loc) (ls : Array Slot), va_P D vwCl [(q0, .inr (1, [.ref q1, .int x, .int y, .int (nI mm2), .int (nI (kpi (kyF x y mm2) i (kpo (kyF x y mm2) (mm2 / Nat.gcd A1 B1) (ky, 0) i) j).2)])), (q1, .inl (cyI, 128, .inl ((kpi (kyF x y mm2) i (kpo (kyF x y mm2) (mm2 / Nat.gcd A1 B1) (ky, 0) i) j).1)))] H → va_D A [(q0, .inr (1, [.ref q1, .int x, .int y, .int (nI mm2), .int (nI (kpi (kyF x y mm2) i (kpo (kyF x y mm2) (mm2 / Nat.gcd A1 B1) (ky, 0) i) j).2)])), (q1, .inl (cyI, 128, .inl ((kpi (kyF x y mm2) i (kpo (kyF x y mm2) (mm2 / Nat.gcd A1 B1) (ky, 0) i) j).1)))] → va_S A s.heap H locs → lv_has ls 7 [(0, .ref q0), (1, .int x), (2, .int y), (3, .int (nI (Nat.gcd A1 B1))), (4, .int (nI (mm2 / Nat.gcd A1 B1))), (5, .int (nI i)), (6, .int (nI j))] → W p l e rm_X1_renew s m ([.ref q0, .int x, .int y] : List Value).toArray below meth c H locs 0 0 (MQ below (xk_Qv D A [(q0, .inr (1, [.ref q1, .int x, .int y, .int (nI mm2), .int (nI ((kpo (kyF x y mm2) (mm2 / Nat.gcd A1 B1) (ky, 0) (Nat.gcd A1 B1)).2))])), (q1, .inl (cyI, 128, .inl ((kpo (kyF x y mm2) (mm2 / Nat.gcd A1 B1) (ky, 0) (Nat.gcd A1 B1)).1)))]) ([.ref q0, .int x, .int y] : List Value).toArray s 0 0 A) (F0 m 67 ls []) := by
        intro n
        induction n with
        | zero =>
          intro j hk_67  H locs ls hP hD hS hl
          have hz_67 : mm2 / Nat.gcd A1 B1 = j := hk_67.symm
          subst hz_67
          refine lv_iload hx hb dX1_renew_67 (lv_at hl 6 rfl) ?_
          refine lv_iload hx hb dX1_renew_69 (lv_at hl 4 rfl) ?_
          refine lv_icmp_ge (tgt := 92) hx hb dX1_renew_71 (by decide) (fun c_71 => ?_) (fun c_71 => xk_ba c_71 (nI_le (Nat.le_refl _) (by omega)))
          refine lv_iinc (v := nI (i + 1)) (lv' := [(5, .int (nI (i + 1))), (0, .ref q0), (1, .int x), (2, .int y), (3, .int (nI (Nat.gcd A1 B1))), (4, .int (nI (mm2 / Nat.gcd A1 B1))), (6, .int (nI (mm2 / Nat.gcd A1 B1)))]) hx hb dX1_renew_92 hl (k := 5) rfl (nI_1 _) (by decide) rfl (fun ls hl => ?_)
          refine lv_goto (tgt := 58) hx hb dX1_renew_95 (by decide) ?_
          have eq_78 : (nI (kpi (kyF x y mm2) i (kpo (kyF x y mm2) (mm2 / Nat.gcd A1 B1) (ky, 0) i) (mm2 / Nat.gcd A1 B1)).2 : Int32) = nI (kpo (kyF x y mm2) (mm2 / Nat.gcd A1 B1) (ky, 0) (i + 1)).2 := rfl
          have eq_79 : ((kpi (kyF x y mm2) i (kpo (kyF x y mm2) (mm2 / Nat.gcd A1 B1) (ky, 0) i) (mm2 / Nat.gcd A1 B1)).1 : Nat → Int32) = (kpo (kyF x y mm2) (mm2 / Nat.gcd A1 B1) (ky, 0) (i + 1)).1 := rfl
          have eW : ([(q0, .inr (1, [.ref q1, .int x, .int y, .int (nI mm2), .int (nI (kpi (kyF x y mm2) i (kpo (kyF x y mm2) (mm2 / Nat.gcd A1 B1) (ky, 0) i) (mm2 / Nat.gcd A1 B1)).2)])), (q1, .inl (cyI, 128, .inl ((kpi (kyF x y mm2) i (kpo (kyF x y mm2) (mm2 / Nat.gcd A1 B1) (ky, 0) i) (mm2 / Nat.gcd A1 B1)).1)))] : va_W) = [(q0, .inr (1, [.ref q1, .int x, .int y, .int (nI mm2), .int (nI (kpo (kyF x y mm2) (mm2 / Nat.gcd A1 B1) (ky, 0) (i + 1)).2)])), (q1, .inl (cyI, 128, .inl ((kpo (kyF x y mm2) (mm2 / Nat.gcd A1 B1) (ky, 0) (i + 1)).1)))] := (congr (congrArg List.cons (congrArg (fun z => ((q0, (Sum.inr (1, z) : va_E)) : Nat × va_E)) (congrArg (List.cons _) (congrArg (List.cons _) (congrArg (List.cons _) (congrArg (List.cons _) (congr (congrArg List.cons (congrArg Value.int eq_78)) rfl))))))) (congr (congrArg List.cons (congrArg (fun z => ((q1, (Sum.inl (cyI, 128, Sum.inl z) : va_E)) : Nat × va_E)) eq_79)) rfl))
          rw [eW] at hP hD
          have hl := lv_sub (l' := [(0, .ref q0), (1, .int x), (2, .int y), (3, .int (nI (Nat.gcd A1 B1))), (4, .int (nI (mm2 / Nat.gcd A1 B1))), (5, .int (nI (i + 1)))]) hl [1, 2, 3, 4, 5, 0] rfl
          exact ih_58 (i + 1) (by omega)  _ _ _ hP hD hS hl
        | succ n ih_67 =>
          intro j hk_67  H locs ls hP hD hS hl
          refine lv_iload hx hb dX1_renew_67 (lv_at hl 6 rfl) ?_
          refine lv_iload hx hb dX1_renew_69 (lv_at hl 4 rfl) ?_
          refine lv_icmp_ge (tgt := 92) hx hb dX1_renew_71 (by decide) (fun c_71 => xk_ab c_71 (nI_ge (by omega) (by omega))) (fun c_71 => ?_)
          refine lv_aload_n hx hb dX1_renew_74 rfl (lv_at hl 0 rfl) ?_
          refine lv_aload_n hx hb dX1_renew_75 rfl (lv_at hl 0 rfl) ?_
          refine lv_iload hx hb dX1_renew_76 (lv_at hl 5 rfl) ?_
          refine lv_iload hx hb dX1_renew_78 (lv_at hl 6 rfl) ?_
          have hPc := hP.sub (ws' := [(q0, .inr (1, [.ref q1, .int x, .int y, .int (nI mm2), .int (nI (kpi (kyF x y mm2) i (kpo (kyF x y mm2) (mm2 / Nat.gcd A1 B1) (ky, 0) i) j).2)])), (q1, .inl (cyI, 128, .inl ((kpi (kyF x y mm2) i (kpo (kyF x y mm2) (mm2 / Nat.gcd A1 B1) (ky, 0) i) j).1)))]) [0, 1] rfl
          have hDc := hD.sub (ws' := [(q0, .inr (1, [.ref q1, .int x, .int y, .int (nI mm2), .int (nI (kpi (kyF x y mm2) i (kpo (kyF x y mm2) (mm2 / Nat.gcd A1 B1) (ky, 0) i) j).2)])), (q1, .inl (cyI, 128, .inl ((kpi (kyF x y mm2) i (kpo (kyF x y mm2) (mm2 / Nat.gcd A1 B1) (ky, 0) i) j).1)))]) [0, 1] (by decide) rfl
          refine xk_calli (wr := []) (w2 := [(q0, .inr (1, [.ref q1, .int x, .int y, .int (nI mm2), .int (nI ((kpi (kyF x y mm2) i (kpo (kyF x y mm2) (mm2 / Nat.gcd A1 B1) (ky, 0) i) j).2))])), (q1, .inl (cyI, 128, .inl ((kpi (kyF x y mm2) i (kpo (kyF x y mm2) (mm2 / Nat.gcd A1 B1) (ky, 0) i) j).1)))]) (va_runV (As := [.int (nI i), .int (nI j)]) (rest := [.ref q0]) hC0 (ct_X1_keyAt l D cyI cyZ q0 q1 _ ((kpi (kyF x y mm2) i (kpo (kyF x y mm2) (mm2 / Nat.gcd A1 B1) (ky, 0) i) j).1) x y mm2 ((kpi (kyF x y mm2) i (kpo (kyF x y mm2) (mm2 / Nat.gcd A1 B1) (ky, 0) i) j).2) (nI i) (nI j) (hm1) (hm2)) (cwV 2 hts gX1_renew_X1_keyAt rfl rfl rfl (by decide +kernel) ⟨Nat.le_of_ble_eq_true rfl, Nat.le_of_ble_eq_true rfl⟩) ⟨xk_blind, va_recv hK hPc (ci := 1) (q0 := 0) rfl rfl, xk_pre hK hN hPc hDc⟩ rfl rfl hl.1 rfl (lv_room (Nat.le_of_ble_eq_true rfl)) dX1_renew_80 ⟨Nat.le_of_ble_eq_true rfl, Nat.le_of_ble_eq_true rfl⟩) hP hD hS hA [0, 1] [] [0, 1] rfl rfl (by decide) (by decide) rfl (by decide) (fun H locs hP hD hS => ?_)
          have hc1 := kpi_le (kyF x y mm2) i (kpo (kyF x y mm2) (mm2 / Nat.gcd A1 B1) (ky, 0) i) j
          have hc2 := kpo_le (kyF x y mm2) (mm2 / Nat.gcd A1 B1) (ky, 0) i
          have hc4 := kp_bound (i := i) (j := j) (g := Nat.gcd A1 B1) (m := mm2) (by omega) (by omega)
          have hc3 : (kpi (kyF x y mm2) i (kpo (kyF x y mm2) (mm2 / Nat.gcd A1 B1) (ky, 0) i) j).2 < 128 := by have hc5 : ((ky, 0) : (Nat → Int32) × Nat).2 = 0 := rfl; omega
          have hPc := hP.sub (ws' := [(q0, .inr (1, [.ref q1, .int x, .int y, .int (nI mm2), .int (nI ((kpi (kyF x y mm2) i (kpo (kyF x y mm2) (mm2 / Nat.gcd A1 B1) (ky, 0) i) j).2))])), (q1, .inl (cyI, 128, .inl ((kpi (kyF x y mm2) i (kpo (kyF x y mm2) (mm2 / Nat.gcd A1 B1) (ky, 0) i) j).1)))]) [0, 1] rfl
          have hDc := hD.sub (ws' := [(q0, .inr (1, [.ref q1, .int x, .int y, .int (nI mm2), .int (nI ((kpi (kyF x y mm2) i (kpo (kyF x y mm2) (mm2 / Nat.gcd A1 B1) (ky, 0) i) j).2))])), (q1, .inl (cyI, 128, .inl ((kpi (kyF x y mm2) i (kpo (kyF x y mm2) (mm2 / Nat.gcd A1 B1) (ky, 0) i) j).1)))]) [0, 1] (by decide) rfl
          refine xk_callv (wr := []) (w2 := [(q0, .inr (1, [.ref q1, .int x, .int y, .int (nI mm2), .int (nI ((kp (kyA x y mm2 (nI i) (nI j)) (((kpi (kyF x y mm2) i (kpo (kyF x y mm2) (mm2 / Nat.gcd A1 B1) (ky, 0) i) j).1), ((kpi (kyF x y mm2) i (kpo (kyF x y mm2) (mm2 / Nat.gcd A1 B1) (ky, 0) i) j).2))).2))])), (q1, .inl (cyI, 128, .inl ((kp (kyA x y mm2 (nI i) (nI j)) (((kpi (kyF x y mm2) i (kpo (kyF x y mm2) (mm2 / Nat.gcd A1 B1) (ky, 0) i) j).1), ((kpi (kyF x y mm2) i (kpo (kyF x y mm2) (mm2 / Nat.gcd A1 B1) (ky, 0) i) j).2))).1)))]) (va_runV (As := [.int (kyA x y mm2 (nI i) (nI j))]) (rest := []) hC0 (ct_X1_keep l D cyI cyZ q0 q1 _ ((kpi (kyF x y mm2) i (kpo (kyF x y mm2) (mm2 / Nat.gcd A1 B1) (ky, 0) i) j).1) x y mm2 ((kpi (kyF x y mm2) i (kpo (kyF x y mm2) (mm2 / Nat.gcd A1 B1) (ky, 0) i) j).2) (kyA x y mm2 (nI i) (nI j)) (hc3)) (cwV 1 hts gX1_renew_X1_keep rfl rfl rfl (by decide +kernel) ⟨Nat.le_of_ble_eq_true rfl, Nat.le_of_ble_eq_true rfl⟩) ⟨xk_blind, va_recv hK hPc (ci := 1) (q0 := 0) rfl rfl, xk_pre hK hN hPc hDc⟩ rfl rfl hl.1 rfl (lv_room (Nat.le_of_ble_eq_true rfl)) dX1_renew_83 ⟨Nat.le_of_ble_eq_true rfl, Nat.le_of_ble_eq_true rfl⟩) hP hD hS hA [0, 1] [] [0, 1] rfl rfl (by decide) (by decide) rfl (by decide) (fun H locs hP hD hS => ?_)
          refine lv_iinc (v := nI (j + 1)) (lv' := [(6, .int (nI (j + 1))), (0, .ref q0), (1, .int x), (2, .int y), (3, .int (nI (Nat.gcd A1 B1))), (4, .int (nI (mm2 / Nat.gcd A1 B1))), (5, .int (nI i))]) hx hb dX1_renew_86 hl (k := 6) rfl (nI_1 _) (by decide) rfl (fun ls hl => ?_)
          refine lv_goto (tgt := 67) hx hb dX1_renew_89 (by decide) ?_
          have eq_105 : (nI ((kp (kyA x y mm2 (nI i) (nI j)) (((kpi (kyF x y mm2) i (kpo (kyF x y mm2) (mm2 / Nat.gcd A1 B1) (ky, 0) i) j).1), ((kpi (kyF x y mm2) i (kpo (kyF x y mm2) (mm2 / Nat.gcd A1 B1) (ky, 0) i) j).2))).2) : Int32) = nI (kpi (kyF x y mm2) i (kpo (kyF x y mm2) (mm2 / Nat.gcd A1 B1) (ky, 0) i) (j + 1)).2 := rfl
          have eq_106 : ((kp (kyA x y mm2 (nI i) (nI j)) (((kpi (kyF x y mm2) i (kpo (kyF x y mm2) (mm2 / Nat.gcd A1 B1) (ky, 0) i) j).1), ((kpi (kyF x y mm2) i (kpo (kyF x y mm2) (mm2 / Nat.gcd A1 B1) (ky, 0) i) j).2))).1 : Nat → Int32) = (kpi (kyF x y mm2) i (kpo (kyF x y mm2) (mm2 / Nat.gcd A1 B1) (ky, 0) i) (j + 1)).1 := rfl
          have eW : ([(q0, .inr (1, [.ref q1, .int x, .int y, .int (nI mm2), .int (nI ((kp (kyA x y mm2 (nI i) (nI j)) (((kpi (kyF x y mm2) i (kpo (kyF x y mm2) (mm2 / Nat.gcd A1 B1) (ky, 0) i) j).1), ((kpi (kyF x y mm2) i (kpo (kyF x y mm2) (mm2 / Nat.gcd A1 B1) (ky, 0) i) j).2))).2))])), (q1, .inl (cyI, 128, .inl ((kp (kyA x y mm2 (nI i) (nI j)) (((kpi (kyF x y mm2) i (kpo (kyF x y mm2) (mm2 / Nat.gcd A1 B1) (ky, 0) i) j).1), ((kpi (kyF x y mm2) i (kpo (kyF x y mm2) (mm2 / Nat.gcd A1 B1) (ky, 0) i) j).2))).1)))] : va_W) = [(q0, .inr (1, [.ref q1, .int x, .int y, .int (nI mm2), .int (nI (kpi (kyF x y mm2) i (kpo (kyF x y mm2) (mm2 / Nat.gcd A1 B1) (ky, 0) i) (j + 1)).2)])), (q1, .inl (cyI, 128, .inl ((kpi (kyF x y mm2) i (kpo (kyF x y mm2) (mm2 / Nat.gcd A1 B1) (ky, 0) i) (j + 1)).1)))] := (congr (congrArg List.cons (congrArg (fun z => ((q0, (Sum.inr (1, z) : va_E)) : Nat × va_E)) (congrArg (List.cons _) (congrArg (List.cons _) (congrArg (List.cons _) (congrArg (List.cons _) (congr (congrArg List.cons (congrArg Value.int eq_105)) rfl))))))) (congr (congrArg List.cons (congrArg (fun z => ((q1, (Sum.inl (cyI, 128, Sum.inl z) : va_E)) : Nat × va_E)) eq_106)) rfl))
          rw [eW] at hP hD
          have hl := lv_sub (l' := [(0, .ref q0), (1, .int x), (2, .int y), (3, .int (nI (Nat.gcd A1 B1))), (4, .int (nI (mm2 / Nat.gcd A1 B1))), (5, .int (nI i)), (6, .int (nI (j + 1)))]) hl [1, 2, 3, 4, 5, 6, 0] rfl
          exact ih_67 (j + 1) (by omega)  _ _ _ hP hD hS hl
      have eq_111 : (0 : Int32) = nI 0 := rfl
      have eq_112 : (nI (kpo (kyF x y mm2) (mm2 / Nat.gcd A1 B1) (ky, 0) i).2 : Int32) = nI (kpi (kyF x y mm2) i (kpo (kyF x y mm2) (mm2 / Nat.gcd A1 B1) (ky, 0) i) 0).2 := rfl
      have eq_113 : ((kpo (kyF x y mm2) (mm2 / Nat.gcd A1 B1) (ky, 0) i).1 : Nat → Int32) = (kpi (kyF x y mm2) i (kpo (kyF x y mm2) (mm2 / Nat.gcd A1 B1) (ky, 0) i) 0).1 := rfl
      have eW : ([(q0, .inr (1, [.ref q1, .int x, .int y, .int (nI mm2), .int (nI (kpo (kyF x y mm2) (mm2 / Nat.gcd A1 B1) (ky, 0) i).2)])), (q1, .inl (cyI, 128, .inl ((kpo (kyF x y mm2) (mm2 / Nat.gcd A1 B1) (ky, 0) i).1)))] : va_W) = [(q0, .inr (1, [.ref q1, .int x, .int y, .int (nI mm2), .int (nI (kpi (kyF x y mm2) i (kpo (kyF x y mm2) (mm2 / Nat.gcd A1 B1) (ky, 0) i) 0).2)])), (q1, .inl (cyI, 128, .inl ((kpi (kyF x y mm2) i (kpo (kyF x y mm2) (mm2 / Nat.gcd A1 B1) (ky, 0) i) 0).1)))] := (congr (congrArg List.cons (congrArg (fun z => ((q0, (Sum.inr (1, z) : va_E)) : Nat × va_E)) (congrArg (List.cons _) (congrArg (List.cons _) (congrArg (List.cons _) (congrArg (List.cons _) (congr (congrArg List.cons (congrArg Value.int eq_112)) rfl))))))) (congr (congrArg List.cons (congrArg (fun z => ((q1, (Sum.inl (cyI, 128, Sum.inl z) : va_E)) : Nat × va_E)) eq_113)) rfl))
      rw [eW] at hP hD
      have hl := lv_sub (l' := [(0, .ref q0), (1, .int x), (2, .int y), (3, .int (nI (Nat.gcd A1 B1))), (4, .int (nI (mm2 / Nat.gcd A1 B1))), (5, .int (nI i)), (6, .int 0)]) hl [1, 2, 3, 4, 5, 6, 0] rfl
      have eL : ([(0, .ref q0), (1, .int x), (2, .int y), (3, .int (nI (Nat.gcd A1 B1))), (4, .int (nI (mm2 / Nat.gcd A1 B1))), (5, .int (nI i)), (6, .int 0)] : List (Nat × Value)) = [(0, .ref q0), (1, .int x), (2, .int y), (3, .int (nI (Nat.gcd A1 B1))), (4, .int (nI (mm2 / Nat.gcd A1 B1))), (5, .int (nI i)), (6, .int (nI 0))] := (congrArg (List.cons _) (congrArg (List.cons _) (congrArg (List.cons _) (congrArg (List.cons _) (congrArg (List.cons _) (congrArg (List.cons _) (congr (congrArg List.cons (congrArg (fun z => (((6 : Nat), Value.int z) : Nat × Value)) eq_111)) rfl)))))))
      rw [eL] at hl
      exact L67 _ 0 (Nat.zero_add _)  _ _ _ hP hD hS hl
  have eq_120 : (0 : Int32) = nI 0 := rfl
  have eq_121 : (0 : Int32) = nI (kpo (kyF x y mm2) (mm2 / Nat.gcd A1 B1) (ky, 0) 0).2 := rfl
  have eq_122 : (ky : Nat → Int32) = (kpo (kyF x y mm2) (mm2 / Nat.gcd A1 B1) (ky, 0) 0).1 := rfl
  have eW : ([(q0, .inr (1, [.ref q1, .int x, .int y, .int (nI mm2), .int 0])), (q1, .inl (cyI, 128, .inl ky))] : va_W) = [(q0, .inr (1, [.ref q1, .int x, .int y, .int (nI mm2), .int (nI (kpo (kyF x y mm2) (mm2 / Nat.gcd A1 B1) (ky, 0) 0).2)])), (q1, .inl (cyI, 128, .inl ((kpo (kyF x y mm2) (mm2 / Nat.gcd A1 B1) (ky, 0) 0).1)))] := (congr (congrArg List.cons (congrArg (fun z => ((q0, (Sum.inr (1, z) : va_E)) : Nat × va_E)) (congrArg (List.cons _) (congrArg (List.cons _) (congrArg (List.cons _) (congrArg (List.cons _) (congr (congrArg List.cons (congrArg Value.int eq_121)) rfl))))))) (congr (congrArg List.cons (congrArg (fun z => ((q1, (Sum.inl (cyI, 128, Sum.inl z) : va_E)) : Nat × va_E)) eq_122)) rfl))
  rw [eW] at hP hD
  have hl := lv_sub (l' := [(0, .ref q0), (1, .int x), (2, .int y), (3, .int (nI (Nat.gcd A1 B1))), (4, .int (nI (mm2 / Nat.gcd A1 B1))), (5, .int 0)]) hl [3, 4, 5, 2, 1, 0] rfl
  have eL : ([(0, .ref q0), (1, .int x), (2, .int y), (3, .int (nI (Nat.gcd A1 B1))), (4, .int (nI (mm2 / Nat.gcd A1 B1))), (5, .int 0)] : List (Nat × Value)) = [(0, .ref q0), (1, .int x), (2, .int y), (3, .int (nI (Nat.gcd A1 B1))), (4, .int (nI (mm2 / Nat.gcd A1 B1))), (5, .int (nI 0))] := (congrArg (List.cons _) (congrArg (List.cons _) (congrArg (List.cons _) (congrArg (List.cons _) (congrArg (List.cons _) (congr (congrArg List.cons (congrArg (fun z => (((5 : Nat), Value.int z) : Nat × Value)) eq_120)) rfl))))))
  rw [eL] at hl
  exact L58 _ 0 (Nat.zero_add _)  _ _ _ hP hD hS hl

abbrev rm_X1_rankAt : Room := { frames := 3, cells := 0, slots := 0, locals := 69 }
set_option maxHeartbeats 4000000 in
set_option maxRecDepth 100000 in
theorem ct_X1_rankAt (l : Launch) (D : va_G) (cyI cyZ : ClassId) (q0 q1 : Nat) (sz : Nat) (ky : Nat → Int32) (na nb : Int32) (mm cn : Nat) (x y : Int32) (hm1 : 1 ≤ mm) (hm2 : mm ≤ 128) (hcn : cn ≤ 128) : Met l yX1_rankAt wsX1_rankAt rm_X1_rankAt (xk_Pc D cyI cyZ [.ref q0, .int x, .int y] [(q0, .inr (1, [.ref q1, .int na, .int nb, .int (nI mm), .int (nI cn)])), (q1, .inl (cyI, 128, .inl ky))] sz) (xk_Qi D (va_A [(q0, .inr (1, [.ref q1, .int na, .int nb, .int (nI mm), .int (nI cn)])), (q1, .inl (cyI, 128, .inl ky))] sz) (nI (ub ky cn (kyA na nb mm x y) 8) - 1) [(q0, .inr (1, [.ref q1, .int na, .int nb, .int (nI mm), .int (nI cn)])), (q1, .inl (cyI, 128, .inl ky))]) 0 0 (va_A [(q0, .inr (1, [.ref q1, .int na, .int nb, .int (nI mm), .int (nI cn)])), (q1, .inl (cyI, 128, .inl ky))] sz) := by
  refine xk_of (own := RX1) (cc := cX1_rankAt) (maxL := 3) (ret := (some .int)) (Qc := fun A => xk_Qi D A (nI (ub ky cn (kyA na nb mm x y) 8) - 1) [(q0, .inr (1, [.ref q1, .int na, .int nb, .int (nI mm), .int (nI cn)])), (q1, .inl (cyI, 128, .inl ky))]) (by decide) rfl rfl (Nat.le_of_ble_eq_true rfl) ?_
  intro p e s m below meth c A ls hx hb hr hml hown hlocks hin hts hA hP hK hN hD hS hl
  have hC0 := xk_fix hx hb hml hown hts
  have hl : lv_has ls 3 [(0, .ref q0), (1, .int x), (2, .int y)] := hl
  refine lv_aload_n hx hb dX1_rankAt_0 rfl (lv_at hl 0 rfl) ?_
  refine lv_aload_n hx hb dX1_rankAt_1 rfl (lv_at hl 0 rfl) ?_
  refine lv_iload_n hx hb dX1_rankAt_2 rfl (lv_at hl 1 rfl) ?_
  refine lv_iload_n hx hb dX1_rankAt_3 rfl (lv_at hl 2 rfl) ?_
  have hPc := hP.sub (ws' := [(q0, .inr (1, [.ref q1, .int na, .int nb, .int (nI mm), .int (nI cn)])), (q1, .inl (cyI, 128, .inl ky))]) [0, 1] rfl
  have hDc := hD.sub (ws' := [(q0, .inr (1, [.ref q1, .int na, .int nb, .int (nI mm), .int (nI cn)])), (q1, .inl (cyI, 128, .inl ky))]) [0, 1] (by decide) rfl
  refine xk_calli (wr := []) (w2 := [(q0, .inr (1, [.ref q1, .int na, .int nb, .int (nI mm), .int (nI cn)])), (q1, .inl (cyI, 128, .inl ky))]) (va_runV (As := [.int x, .int y]) (rest := [.ref q0]) hC0 (ct_X1_keyAt l D cyI cyZ q0 q1 _ ky na nb mm cn x y (by first | assumption | omega) (by first | assumption | omega)) (cwV 2 hts gX1_rankAt_X1_keyAt rfl rfl rfl (by decide +kernel) ⟨Nat.le_of_ble_eq_true rfl, Nat.le_of_ble_eq_true rfl⟩) ⟨xk_blind, va_recv hK hPc (ci := 1) (q0 := 0) rfl rfl, xk_pre hK hN hPc hDc⟩ rfl rfl hl.1 rfl (lv_room (Nat.le_of_ble_eq_true rfl)) dX1_rankAt_4 ⟨Nat.le_of_ble_eq_true rfl, Nat.le_of_ble_eq_true rfl⟩) hP hD hS hA [0, 1] [] [0, 1] rfl rfl (by decide) (by decide) rfl (by decide) (fun H locs hP hD hS => ?_)
  have hPc := hP.sub (ws' := [(q0, .inr (1, [.ref q1, .int na, .int nb, .int (nI mm), .int (nI cn)])), (q1, .inl (cyI, 128, .inl ky))]) [0, 1] rfl
  have hDc := hD.sub (ws' := [(q0, .inr (1, [.ref q1, .int na, .int nb, .int (nI mm), .int (nI cn)])), (q1, .inl (cyI, 128, .inl ky))]) [0, 1] (by decide) rfl
  refine xk_calli (wr := []) (w2 := [(q0, .inr (1, [.ref q1, .int na, .int nb, .int (nI mm), .int (nI cn)])), (q1, .inl (cyI, 128, .inl ky))]) (va_runV (As := [.int (kyA na nb mm x y)]) (rest := []) hC0 (ct_X1_upTo l D cyI cyZ q0 q1 _ ky na nb mm cn (kyA na nb mm x y) (by first | assumption | omega)) (cwV 1 hts gX1_rankAt_X1_upTo rfl rfl rfl (by decide +kernel) ⟨Nat.le_of_ble_eq_true rfl, Nat.le_of_ble_eq_true rfl⟩) ⟨xk_blind, va_recv hK hPc (ci := 1) (q0 := 0) rfl rfl, xk_pre hK hN hPc hDc⟩ rfl rfl hl.1 rfl (lv_room (Nat.le_of_ble_eq_true rfl)) dX1_rankAt_7 ⟨Nat.le_of_ble_eq_true rfl, Nat.le_of_ble_eq_true rfl⟩) hP hD hS hA [0, 1] [] [0, 1] rfl rfl (by decide) (by decide) rfl (by decide) (fun H locs hP hD hS => ?_)
  exact xk_iret hx hb hr hlocks hP hD hS (rfl) (rfl) dX1_rankAt_10

abbrev rm_X1_inks : Room := { frames := 4, cells := 0, slots := 0, locals := 91 }
theorem in_X1_inks_X1 : ∀ w ∈ u_ws RX1 TX1 5, w ∈ wsX1_inks := by decide +kernel
set_option maxHeartbeats 4000000 in
set_option maxRecDepth 100000 in
theorem ct_X1_inks (l : Launch) (D : va_G) (cyI cyZ : ClassId) (q0 q1 : Nat) (sz : Nat) (ky : Nat → Int32) (na nb : Int32) (mm cn : Nat) (v x y : Int32) (hm1 : 1 ≤ mm) (hm2 : mm ≤ 128) (hcn : cn ≤ 128) : Met l yX1_inks wsX1_inks rm_X1_inks (xk_Pc D cyI cyZ [.ref q0, .int v, .int x, .int y] [(q0, .inr (1, [.ref q1, .int na, .int nb, .int (nI mm), .int (nI cn)])), (q1, .inl (cyI, 128, .inl ky))] sz) (xk_Qi D (va_A [(q0, .inr (1, [.ref q1, .int na, .int nb, .int (nI mm), .int (nI cn)])), (q1, .inl (cyI, 128, .inl ky))] sz) (bI (¬ nI cn * v ≤ 255 * (nI (ub ky cn (kyA na nb mm x y) 8) - 1))) [(q0, .inr (1, [.ref q1, .int na, .int nb, .int (nI mm), .int (nI cn)])), (q1, .inl (cyI, 128, .inl ky))]) 0 0 (va_A [(q0, .inr (1, [.ref q1, .int na, .int nb, .int (nI mm), .int (nI cn)])), (q1, .inl (cyI, 128, .inl ky))] sz) := by
  refine xk_of (own := RX1) (cc := cX1_inks) (maxL := 4) (ret := (some .boolean)) (Qc := fun A => xk_Qi D A (bI (¬ nI cn * v ≤ 255 * (nI (ub ky cn (kyA na nb mm x y) 8) - 1))) [(q0, .inr (1, [.ref q1, .int na, .int nb, .int (nI mm), .int (nI cn)])), (q1, .inl (cyI, 128, .inl ky))]) (by decide) rfl rfl (Nat.le_of_ble_eq_true rfl) ?_
  intro p e s m below meth c A ls hx hb hr hml hown hlocks hin hts hA hP hK hN hD hS hl
  have hC0 := xk_fix hx hb hml hown hts
  have hl : lv_has ls 4 [(0, .ref q0), (1, .int v), (2, .int x), (3, .int y)] := hl
  have hf29 := hts (.fieldLink RX1 29 "DotPress$Lattice" "pairs" "I") (by decide +kernel)
  refine lv_aload_n hx hb dX1_inks_0 rfl (lv_at hl 0 rfl) ?_
  refine va_get (D := D) (ci := 1) (v := .int (nI cn)) (C := RX1) (T := TX1) (N := 5) hx hb hts in_X1_inks_X1 hown hK hP 0 rfl rfl 4 (by decide) hf29 (fun _ h9 => h9) rfl dX1_inks_1 ?_
  refine lv_iload_n hx hb dX1_inks_4 rfl (lv_at hl 1 rfl) ?_
  refine lv_imul hx hb dX1_inks_5 ?_
  refine lv_sipush (v := 255) hx hb dX1_inks_6 (by decide) ?_
  refine lv_aload_n hx hb dX1_inks_9 rfl (lv_at hl 0 rfl) ?_
  refine lv_iload_n hx hb dX1_inks_10 rfl (lv_at hl 2 rfl) ?_
  refine lv_iload_n hx hb dX1_inks_11 rfl (lv_at hl 3 rfl) ?_
  have hPc := hP.sub (ws' := [(q0, .inr (1, [.ref q1, .int na, .int nb, .int (nI mm), .int (nI cn)])), (q1, .inl (cyI, 128, .inl ky))]) [0, 1] rfl
  have hDc := hD.sub (ws' := [(q0, .inr (1, [.ref q1, .int na, .int nb, .int (nI mm), .int (nI cn)])), (q1, .inl (cyI, 128, .inl ky))]) [0, 1] (by decide) rfl
  refine xk_calli (wr := []) (w2 := [(q0, .inr (1, [.ref q1, .int na, .int nb, .int (nI mm), .int (nI cn)])), (q1, .inl (cyI, 128, .inl ky))]) (va_runV (As := [.int x, .int y]) (rest := [.int 255, .int (nI cn * v)]) hC0 (ct_X1_rankAt l D cyI cyZ q0 q1 _ ky na nb mm cn x y (by first | assumption | omega) (by first | assumption | omega) (by first | assumption | omega)) (cwV 2 hts gX1_inks_X1_rankAt rfl rfl rfl (by decide +kernel) ⟨Nat.le_of_ble_eq_true rfl, Nat.le_of_ble_eq_true rfl⟩) ⟨xk_blind, va_recv hK hPc (ci := 1) (q0 := 0) rfl rfl, xk_pre hK hN hPc hDc⟩ rfl rfl hl.1 rfl (lv_room (Nat.le_of_ble_eq_true rfl)) dX1_inks_12 ⟨Nat.le_of_ble_eq_true rfl, Nat.le_of_ble_eq_true rfl⟩) hP hD hS hA [0, 1] [] [0, 1] rfl rfl (by decide) (by decide) rfl (by decide) (fun H locs hP hD hS => ?_)
  refine lv_imul hx hb dX1_inks_15 ?_
  refine lv_icmp_le (tgt := 23) hx hb dX1_inks_16 (by decide) (fun c_16 => ?_) (fun c_16 => ?_)
  · refine lv_iconst (v := 0) hx hb dX1_inks_23 (by decide) ?_
    exact xk_zret hx hb hr hlocks hP hD hS (bI_0 (fun h => h c_16)) (rfl) (bI_nar _) dX1_inks_24
  · refine lv_iconst (v := 1) hx hb dX1_inks_19 (by decide) ?_
    refine lv_goto (tgt := 24) hx hb dX1_inks_20 (by decide) ?_
    exact xk_zret hx hb hr hlocks hP hD hS (bI_1 c_16) (rfl) (bI_nar _) dX1_inks_24

abbrev rm_X1_beatAbove : Room := { frames := 1, cells := 0, slots := 0, locals := 15 }
theorem in_X1_beatAbove_X1 : ∀ w ∈ u_ws RX1 TX1 5, w ∈ wsX1_beatAbove := by decide +kernel
set_option maxHeartbeats 4000000 in
set_option maxRecDepth 100000 in
theorem ct_X1_beatAbove (l : Launch) (D : va_G) (cyI cyZ : ClassId) (q0 q1 : Nat) (sz : Nat) (ky : Nat → Int32) (na nb : Int32) (mm cn : Nat) (x y : Int32)  : Met l yX1_beatAbove wsX1_beatAbove rm_X1_beatAbove (xk_Pc D cyI cyZ [.ref q0, .int x, .int y] [(q0, .inr (1, [.ref q1, .int na, .int nb, .int (nI mm), .int (nI cn)])), (q1, .inl (cyI, 128, .inl ky))] sz) (xk_Qi D (va_A [(q0, .inr (1, [.ref q1, .int na, .int nb, .int (nI mm), .int (nI cn)])), (q1, .inl (cyI, 128, .inl ky))] sz) (btA na nb mm x y) [(q0, .inr (1, [.ref q1, .int na, .int nb, .int (nI mm), .int (nI cn)])), (q1, .inl (cyI, 128, .inl ky))]) 0 0 (va_A [(q0, .inr (1, [.ref q1, .int na, .int nb, .int (nI mm), .int (nI cn)])), (q1, .inl (cyI, 128, .inl ky))] sz) := by
  refine xk_of (own := RX1) (cc := cX1_beatAbove) (maxL := 5) (ret := (some .int)) (Qc := fun A => xk_Qi D A (btA na nb mm x y) [(q0, .inr (1, [.ref q1, .int na, .int nb, .int (nI mm), .int (nI cn)])), (q1, .inl (cyI, 128, .inl ky))]) (by decide) rfl rfl (Nat.le_of_ble_eq_true rfl) ?_
  intro p e s m below meth c A ls hx hb hr hml hown hlocks hin hts hA hP hK hN hD hS hl
  have hC0 := xk_fix hx hb hml hown hts
  have hl : lv_has ls 5 [(0, .ref q0), (1, .int x), (2, .int y)] := hl
  have hf19 := hts (.fieldLink RX1 19 "DotPress$Lattice" "a" "I") (by decide +kernel)
  have hf23 := hts (.fieldLink RX1 23 "DotPress$Lattice" "b" "I") (by decide +kernel)
  have hf26 := hts (.fieldLink RX1 26 "DotPress$Lattice" "square" "I") (by decide +kernel)
  refine lv_aload_n hx hb dX1_beatAbove_0 rfl (lv_at hl 0 rfl) ?_
  refine va_get (D := D) (ci := 1) (v := .int na) (C := RX1) (T := TX1) (N := 5) hx hb hts in_X1_beatAbove_X1 hown hK hP 0 rfl rfl 1 (by decide) hf19 (fun _ h9 => h9) rfl dX1_beatAbove_1 ?_
  refine lv_iload_n hx hb dX1_beatAbove_4 rfl (lv_at hl 1 rfl) ?_
  refine lv_imul hx hb dX1_beatAbove_5 ?_
  refine lv_aload_n hx hb dX1_beatAbove_6 rfl (lv_at hl 0 rfl) ?_
  refine va_get (D := D) (ci := 1) (v := .int nb) (C := RX1) (T := TX1) (N := 5) hx hb hts in_X1_beatAbove_X1 hown hK hP 0 rfl rfl 2 (by decide) hf23 (fun _ h9 => h9) rfl dX1_beatAbove_7 ?_
  refine lv_iload_n hx hb dX1_beatAbove_10 rfl (lv_at hl 2 rfl) ?_
  refine lv_imul hx hb dX1_beatAbove_11 ?_
  refine lv_iadd hx hb dX1_beatAbove_12 ?_
  refine va_mabs hx hb (hml.trans hl.1.symm) hown (hts (.methodLink RX1 32 Lib.Math.abs.name) (by decide +kernel)) (hts (.static Lib.Math.abs.name) (by decide +kernel)) (hts (.initialized "java/lang/Math") (by decide +kernel)) (hts (.code Lib.Math.abs.name Lib.Math.abs.code 1 (some .int)) (by decide +kernel)) (Nat.le_of_ble_eq_true rfl) (Nat.le_of_ble_eq_true rfl) (Nat.zero_le _) (Nat.zero_le _) dX1_beatAbove_13 ?_
  refine xk_topi (y := abI (na * x + nb * y)) (rfl) ?_
  refine lv_istore_n (lv' := [(3, .int (abI (na * x + nb * y))), (0, .ref q0), (1, .int x), (2, .int y)]) hx hb dX1_beatAbove_16 rfl hl (by decide) rfl (fun ls hl => ?_)
  refine lv_aload_n hx hb dX1_beatAbove_17 rfl (lv_at hl 1 rfl) ?_
  refine va_get (D := D) (ci := 1) (v := .int na) (C := RX1) (T := TX1) (N := 5) hx hb hts in_X1_beatAbove_X1 hown hK hP 0 rfl rfl 1 (by decide) hf19 (fun _ h9 => h9) rfl dX1_beatAbove_18 ?_
  refine lv_iload_n hx hb dX1_beatAbove_21 rfl (lv_at hl 3 rfl) ?_
  refine lv_imul hx hb dX1_beatAbove_22 ?_
  refine lv_aload_n hx hb dX1_beatAbove_23 rfl (lv_at hl 1 rfl) ?_
  refine va_get (D := D) (ci := 1) (v := .int nb) (C := RX1) (T := TX1) (N := 5) hx hb hts in_X1_beatAbove_X1 hown hK hP 0 rfl rfl 2 (by decide) hf23 (fun _ h9 => h9) rfl dX1_beatAbove_24 ?_
  refine lv_iload_n hx hb dX1_beatAbove_27 rfl (lv_at hl 2 rfl) ?_
  refine lv_imul hx hb dX1_beatAbove_28 ?_
  refine lv_isub hx hb dX1_beatAbove_29 ?_
  refine va_mabs hx hb (hml.trans hl.1.symm) hown (hts (.methodLink RX1 32 Lib.Math.abs.name) (by decide +kernel)) (hts (.static Lib.Math.abs.name) (by decide +kernel)) (hts (.initialized "java/lang/Math") (by decide +kernel)) (hts (.code Lib.Math.abs.name Lib.Math.abs.code 1 (some .int)) (by decide +kernel)) (Nat.le_of_ble_eq_true rfl) (Nat.le_of_ble_eq_true rfl) (Nat.zero_le _) (Nat.zero_le _) dX1_beatAbove_30 ?_
  refine xk_topi (y := abI (na * y - nb * x)) (rfl) ?_
  refine lv_istore (lv' := [(4, .int (abI (na * y - nb * x))), (3, .int (abI (na * x + nb * y))), (0, .ref q0), (1, .int x), (2, .int y)]) hx hb dX1_beatAbove_33 hl (by decide) rfl (fun ls hl => ?_)
  refine lv_aload_n hx hb dX1_beatAbove_35 rfl (lv_at hl 2 rfl) ?_
  refine va_get (D := D) (ci := 1) (v := .int (nI mm)) (C := RX1) (T := TX1) (N := 5) hx hb hts in_X1_beatAbove_X1 hown hK hP 0 rfl rfl 3 (by decide) hf26 (fun _ h9 => h9) rfl dX1_beatAbove_36 ?_
  refine lv_iload_n hx hb dX1_beatAbove_39 rfl (lv_at hl 3 rfl) ?_
  refine lv_iload_n hx hb dX1_beatAbove_40 rfl (lv_at hl 3 rfl) ?_
  refine lv_imul hx hb dX1_beatAbove_41 ?_
  refine lv_iadd hx hb dX1_beatAbove_42 ?_
  refine lv_iload_n hx hb dX1_beatAbove_43 rfl (lv_at hl 4 rfl) ?_
  refine lv_iload_n hx hb dX1_beatAbove_44 rfl (lv_at hl 4 rfl) ?_
  refine lv_imul hx hb dX1_beatAbove_45 ?_
  refine lv_iadd hx hb dX1_beatAbove_46 ?_
  refine lv_iconst (v := 2) hx hb dX1_beatAbove_47 (by decide) ?_
  refine lv_iload_n hx hb dX1_beatAbove_48 rfl (lv_at hl 1 rfl) ?_
  refine lv_iload hx hb dX1_beatAbove_49 (lv_at hl 0 rfl) ?_
  refine va_mmax hx hb (hml.trans hl.1.symm) hown (hts (.methodLink RX1 58 Lib.Math.max.name) (by decide +kernel)) (hts (.static Lib.Math.max.name) (by decide +kernel)) (hts (.initialized "java/lang/Math") (by decide +kernel)) (hts (.code Lib.Math.max.name Lib.Math.max.code 2 (some .int)) (by decide +kernel)) (Nat.le_of_ble_eq_true rfl) (Nat.le_of_ble_eq_true rfl) (Nat.zero_le _) (Nat.zero_le _) dX1_beatAbove_51 ?_
  refine xk_topi (y := mxI (abI (na * x + nb * y)) (abI (na * y - nb * x))) (rfl) ?_
  refine lv_imul hx hb dX1_beatAbove_54 ?_
  refine lv_isub hx hb dX1_beatAbove_55 ?_
  exact xk_iret hx hb hr hlocks hP hD hS (rfl) (rfl) dX1_beatAbove_56

abbrev rm_X1_beatBelow : Room := { frames := 0, cells := 0, slots := 0, locals := 0 }
theorem in_X1_beatBelow_X1 : ∀ w ∈ u_ws RX1 TX1 5, w ∈ wsX1_beatBelow := by decide +kernel
set_option maxHeartbeats 4000000 in
set_option maxRecDepth 100000 in
theorem ct_X1_beatBelow (l : Launch) (D : va_G) (cyI cyZ : ClassId) (q0 q1 : Nat) (sz : Nat) (ky : Nat → Int32) (na nb : Int32) (mm cn : Nat) (x y : Int32)  : Met l yX1_beatBelow wsX1_beatBelow rm_X1_beatBelow (xk_Pc D cyI cyZ [.ref q0, .int x, .int y] [(q0, .inr (1, [.ref q1, .int na, .int nb, .int (nI mm), .int (nI cn)])), (q1, .inl (cyI, 128, .inl ky))] sz) (xk_Qi D (va_A [(q0, .inr (1, [.ref q1, .int na, .int nb, .int (nI mm), .int (nI cn)])), (q1, .inl (cyI, 128, .inl ky))] sz) (btB mm x y) [(q0, .inr (1, [.ref q1, .int na, .int nb, .int (nI mm), .int (nI cn)])), (q1, .inl (cyI, 128, .inl ky))]) 0 0 (va_A [(q0, .inr (1, [.ref q1, .int na, .int nb, .int (nI mm), .int (nI cn)])), (q1, .inl (cyI, 128, .inl ky))] sz) := by
  refine xk_of (own := RX1) (cc := cX1_beatBelow) (maxL := 3) (ret := (some .int)) (Qc := fun A => xk_Qi D A (btB mm x y) [(q0, .inr (1, [.ref q1, .int na, .int nb, .int (nI mm), .int (nI cn)])), (q1, .inl (cyI, 128, .inl ky))]) (by decide) rfl rfl (Nat.le_of_ble_eq_true rfl) ?_
  intro p e s m below meth c A ls hx hb hr hml hown hlocks hin hts hA hP hK hN hD hS hl
  have hC0 := xk_fix hx hb hml hown hts
  have hl : lv_has ls 3 [(0, .ref q0), (1, .int x), (2, .int y)] := hl
  have hf26 := hts (.fieldLink RX1 26 "DotPress$Lattice" "square" "I") (by decide +kernel)
  refine lv_aload_n hx hb dX1_beatBelow_0 rfl (lv_at hl 0 rfl) ?_
  refine va_get (D := D) (ci := 1) (v := .int (nI mm)) (C := RX1) (T := TX1) (N := 5) hx hb hts in_X1_beatBelow_X1 hown hK hP 0 rfl rfl 3 (by decide) hf26 (fun _ h9 => h9) rfl dX1_beatBelow_1 ?_
  refine lv_iload_n hx hb dX1_beatBelow_4 rfl (lv_at hl 1 rfl) ?_
  refine lv_iload_n hx hb dX1_beatBelow_5 rfl (lv_at hl 1 rfl) ?_
  refine lv_imul hx hb dX1_beatBelow_6 ?_
  refine lv_iload_n hx hb dX1_beatBelow_7 rfl (lv_at hl 2 rfl) ?_
  refine lv_iload_n hx hb dX1_beatBelow_8 rfl (lv_at hl 2 rfl) ?_
  refine lv_imul hx hb dX1_beatBelow_9 ?_
  refine lv_iadd hx hb dX1_beatBelow_10 ?_
  refine lv_imul hx hb dX1_beatBelow_11 ?_
  exact xk_iret hx hb hr hlocks hP hD hS (rfl) (rfl) dX1_beatBelow_12
