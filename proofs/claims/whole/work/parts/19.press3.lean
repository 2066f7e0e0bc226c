/-! DotPress: nets, ranks, beats, counts -/
theorem gcd_lt {x y : Nat} (h : 1 ≤ Nat.gcd x y) (hx : x < 2 ^ 15) (hy : y < 2 ^ 15) : Nat.gcd x y < 2 ^ 15 := by
  rcases Nat.eq_zero_or_pos x with q | q
  · subst q; rw [Nat.gcd_zero_left]; exact hy
  · exact Nat.lt_of_le_of_lt (Nat.le_of_dvd q (Nat.gcd_dvd_left x y)) hx
abbrev rm_X4_net_no : Room := { frames := 1, cells := 0, slots := 0, locals := 21 }
set_option maxHeartbeats 4000000 in
set_option maxRecDepth 100000 in
theorem ct_X4_net_no (l : Launch) (D : va_G) (cyI cyZ : ClassId) (d0 s0 t0 r0 q0 q1 : Nat) (sz : Nat) (bk : Int32) (ky : Nat → Int32) (na nb : Int32) (mm cn : Nat) (x y : Int32) (hno : ¬ nt_ok x y) : Met l yX4_net wsX4_net rm_X4_net_no (xk_Pc D cyI cyZ [.ref d0, .int x, .int y] [(d0, .inr (4, [.ref s0, .ref t0, .ref r0, .ref q0, .int bk])), (q0, .inr (1, [.ref q1, .int na, .int nb, .int (nI mm), .int (nI cn)])), (q1, .inl (cyI, 128, .inl ky))] sz) (xk_Qi D (va_A [(d0, .inr (4, [.ref s0, .ref t0, .ref r0, .ref q0, .int bk])), (q0, .inr (1, [.ref q1, .int na, .int nb, .int (nI mm), .int (nI cn)])), (q1, .inl (cyI, 128, .inl ky))] sz) 0 [(d0, .inr (4, [.ref s0, .ref t0, .ref r0, .ref q0, .int bk])), (q0, .inr (1, [.ref q1, .int na, .int nb, .int (nI mm), .int (nI cn)])), (q1, .inl (cyI, 128, .inl ky))]) 0 0 (va_A [(d0, .inr (4, [.ref s0, .ref t0, .ref r0, .ref q0, .int bk])), (q0, .inr (1, [.ref q1, .int na, .int nb, .int (nI mm), .int (nI cn)])), (q1, .inl (cyI, 128, .inl ky))] sz) := by
  refine xk_of (own := RX4) (cc := cX4_net) (maxL := 3) (ret := (some .boolean)) (Qc := fun A => xk_Qi D A 0 [(d0, .inr (4, [.ref s0, .ref t0, .ref r0, .ref q0, .int bk])), (q0, .inr (1, [.ref q1, .int na, .int nb, .int (nI mm), .int (nI cn)])), (q1, .inl (cyI, 128, .inl ky))]) (by decide) rfl rfl (Nat.le_of_ble_eq_true rfl) ?_
  intro p e s m below meth c A ls hx hb hr hml hown hlocks hin hts hA hP hK hN hD hS hl
  have hC0 := xk_fix hx hb hml hown hts
  have hl : lv_has ls 3 [(0, .ref d0), (1, .int x), (2, .int y)] := hl
  refine lv_iload_n hx hb dX4_net_0 rfl (lv_at hl 1 rfl) ?_
  refine lv_iload_n hx hb dX4_net_1 rfl (lv_at hl 2 rfl) ?_
  have hPc := hP.sub (ws' := []) [] rfl
  have hDc := hD.sub (ws' := []) [] (by decide) rfl
  refine xk_calli (wr := [(d0, .inr (4, [.ref s0, .ref t0, .ref r0, .ref q0, .int bk])), (q0, .inr (1, [.ref q1, .int na, .int nb, .int (nI mm), .int (nI cn)])), (q1, .inl (cyI, 128, .inl ky))]) (w2 := [(d0, .inr (4, [.ref s0, .ref t0, .ref r0, .ref q0, .int bk])), (q0, .inr (1, [.ref q1, .int na, .int nb, .int (nI mm), .int (nI cn)])), (q1, .inl (cyI, 128, .inl ky))]) (va_runS (As := [.int x, .int y]) (rest := []) hC0 (ct_X1_allows l D cyI cyZ  _ x y ) (va_cwS 2 hts gX4_net_X1_allows rfl rfl rfl (by decide +kernel) ⟨Nat.le_of_ble_eq_true rfl, Nat.le_of_ble_eq_true rfl⟩) ⟨xk_blind, xk_pre hK hN hPc hDc⟩ rfl rfl hl.1 rfl (lv_room (Nat.le_of_ble_eq_true rfl)) dX4_net_2 ⟨Nat.le_of_ble_eq_true rfl, Nat.le_of_ble_eq_true rfl⟩) hP hD hS hA [] [0, 1, 2] [0, 1, 2] rfl rfl (by decide) (by decide) rfl (by decide) (fun H locs hP hD hS => ?_)
  refine lv_if_ne (tgt := 10) hx hb dX4_net_5 (by decide) (fun c_5 => xk_ba c_5 (bI_z.mpr hno)) (fun c_5 => ?_)
  have c_5 := bI_z.mp c_5
  refine lv_iconst (v := 0) hx hb dX4_net_8 (by decide) ?_
  exact xk_zret hx hb hr hlocks hP hD hS (rfl) (rfl) (rfl) dX4_net_9

abbrev rm_X4_net_ok : Room := { frames := 4, cells := 0, slots := 0, locals := 95 }
theorem in_X4_net_ok_X4 : ∀ w ∈ u_ws RX4 TX4 5, w ∈ wsX4_net := by decide +kernel
set_option maxHeartbeats 4000000 in
set_option maxRecDepth 100000 in
theorem ct_X4_net_ok (l : Launch) (D : va_G) (cyI cyZ : ClassId) (d0 s0 t0 r0 q0 q1 : Nat) (sz : Nat) (bk : Int32) (ky : Nat → Int32) (na nb : Int32) (mm cn : Nat) (x y : Int32) (A1 B1 mm2 : Nat) (hno : nt_ok x y) (hAb : abI x = nI A1) (hBb : abI y = nI B1) (hmq : x * x + y * y = nI mm2) (hA8 : A1 ≤ 8) (hB8 : B1 ≤ 8) (hm1 : 1 ≤ mm2) (hm2 : mm2 ≤ 128) (hg1 : 1 ≤ Nat.gcd A1 B1) (hg2 : Nat.gcd A1 B1 ≤ 8) : Met l yX4_net wsX4_net rm_X4_net_ok (xk_Pc D cyI cyZ [.ref d0, .int x, .int y] [(d0, .inr (4, [.ref s0, .ref t0, .ref r0, .ref q0, .int bk])), (q0, .inr (1, [.ref q1, .int na, .int nb, .int (nI mm), .int (nI cn)])), (q1, .inl (cyI, 128, .inl ky))] sz) (xk_Qi D (va_A [(d0, .inr (4, [.ref s0, .ref t0, .ref r0, .ref q0, .int bk])), (q0, .inr (1, [.ref q1, .int na, .int nb, .int (nI mm), .int (nI cn)])), (q1, .inl (cyI, 128, .inl ky))] sz) 1 [(d0, .inr (4, [.ref s0, .ref t0, .ref r0, .ref q0, .int bk])), (q0, .inr (1, [.ref q1, .int x, .int y, .int (nI mm2), .int (nI ((kpo (kyF x y mm2) (mm2 / Nat.gcd A1 B1) (ky, 0) (Nat.gcd A1 B1)).2))])), (q1, .inl (cyI, 128, .inl ((kpo (kyF x y mm2) (mm2 / Nat.gcd A1 B1) (ky, 0) (Nat.gcd A1 B1)).1)))]) 0 0 (va_A [(d0, .inr (4, [.ref s0, .ref t0, .ref r0, .ref q0, .int bk])), (q0, .inr (1, [.ref q1, .int na, .int nb, .int (nI mm), .int (nI cn)])), (q1, .inl (cyI, 128, .inl ky))] sz) := by
  refine xk_of (own := RX4) (cc := cX4_net) (maxL := 3) (ret := (some .boolean)) (Qc := fun A => xk_Qi D A 1 [(d0, .inr (4, [.ref s0, .ref t0, .ref r0, .ref q0, .int bk])), (q0, .inr (1, [.ref q1, .int x, .int y, .int (nI mm2), .int (nI ((kpo (kyF x y mm2) (mm2 / Nat.gcd A1 B1) (ky, 0) (Nat.gcd A1 B1)).2))])), (q1, .inl (cyI, 128, .inl ((kpo (kyF x y mm2) (mm2 / Nat.gcd A1 B1) (ky, 0) (Nat.gcd A1 B1)).1)))]) (by decide) rfl rfl (Nat.le_of_ble_eq_true rfl) ?_
  intro p e s m below meth c A ls hx hb hr hml hown hlocks hin hts hA hP hK hN hD hS hl
  have hC0 := xk_fix hx hb hml hown hts
  have hl : lv_has ls 3 [(0, .ref d0), (1, .int x), (2, .int y)] := hl
  have hf33 := hts (.fieldLink RX4 33 "DotPress" "lattice" "LDotPress$Lattice;") (by decide +kernel)
  refine lv_iload_n hx hb dX4_net_0 rfl (lv_at hl 1 rfl) ?_
  refine lv_iload_n hx hb dX4_net_1 rfl (lv_at hl 2 rfl) ?_
  have hPc := hP.sub (ws' := []) [] rfl
  have hDc := hD.sub (ws' := []) [] (by decide) rfl
  refine xk_calli (wr := [(d0, .inr (4, [.ref s0, .ref t0, .ref r0, .ref q0, .int bk])), (q0, .inr (1, [.ref q1, .int na, .int nb, .int (nI mm), .int (nI cn)])), (q1, .inl (cyI, 128, .inl ky))]) (w2 := [(d0, .inr (4, [.ref s0, .ref t0, .ref r0, .ref q0, .int bk])), (q0, .inr (1, [.ref q1, .int na, .int nb, .int (nI mm), .int (nI cn)])), (q1, .inl (cyI, 128, .inl ky))]) (va_runS (As := [.int x, .int y]) (rest := []) hC0 (ct_X1_allows l D cyI cyZ  _ x y ) (va_cwS 2 hts gX4_net_X1_allows rfl rfl rfl (by decide +kernel) ⟨Nat.le_of_ble_eq_true rfl, Nat.le_of_ble_eq_true rfl⟩) ⟨xk_blind, xk_pre hK hN hPc hDc⟩ rfl rfl hl.1 rfl (lv_room (Nat.le_of_ble_eq_true rfl)) dX4_net_2 ⟨Nat.le_of_ble_eq_true rfl, Nat.le_of_ble_eq_true rfl⟩) hP hD hS hA [] [0, 1, 2] [0, 1, 2] rfl rfl (by decide) (by decide) rfl (by decide) (fun H locs hP hD hS => ?_)
  refine lv_if_ne (tgt := 10) hx hb dX4_net_5 (by decide) (fun c_5 => ?_) (fun c_5 => xk_ab c_5 (bI_nz.mpr hno))
  have c_5 := bI_nz.mp c_5
  refine lv_aload_n hx hb dX4_net_10 rfl (lv_at hl 0 rfl) ?_
  refine va_get (D := D) (ci := 4) (v := .ref q0) (C := RX4) (T := TX4) (N := 5) hx hb hts in_X4_net_ok_X4 hown hK hP 0 rfl rfl 3 (by decide) hf33 (fun _ h9 => h9) rfl dX4_net_11 ?_
  refine lv_iload_n hx hb dX4_net_14 rfl (lv_at hl 1 rfl) ?_
  refine lv_iload_n hx hb dX4_net_15 rfl (lv_at hl 2 rfl) ?_
  have hPc := hP.sub (ws' := [(q0, .inr (1, [.ref q1, .int na, .int nb, .int (nI mm), .int (nI cn)])), (q1, .inl (cyI, 128, .inl ky))]) [1, 2] rfl
  have hDc := hD.sub (ws' := [(q0, .inr (1, [.ref q1, .int na, .int nb, .int (nI mm), .int (nI cn)])), (q1, .inl (cyI, 128, .inl ky))]) [1, 2] (by decide) rfl
  refine xk_callv (wr := [(d0, .inr (4, [.ref s0, .ref t0, .ref r0, .ref q0, .int bk]))]) (w2 := [(d0, .inr (4, [.ref s0, .ref t0, .ref r0, .ref q0, .int bk])), (q0, .inr (1, [.ref q1, .int x, .int y, .int (nI mm2), .int (nI ((kpo (kyF x y mm2) (mm2 / Nat.gcd A1 B1) (ky, 0) (Nat.gcd A1 B1)).2))])), (q1, .inl (cyI, 128, .inl ((kpo (kyF x y mm2) (mm2 / Nat.gcd A1 B1) (ky, 0) (Nat.gcd A1 B1)).1)))]) (va_runV (As := [.int x, .int y]) (rest := []) hC0 (ct_X1_renew l D cyI cyZ q0 q1 _ ky na nb mm cn x y A1 B1 mm2 (by first | assumption | omega) (by first | assumption | omega) (by first | assumption | omega) (by first | assumption | omega) (by first | assumption | omega) (by first | assumption | omega) (by first | assumption | omega) (by first | assumption | omega) (by first | assumption | omega)) (cwV 2 hts gX4_net_X1_renew rfl rfl rfl (by decide +kernel) ⟨Nat.le_of_ble_eq_true rfl, Nat.le_of_ble_eq_true rfl⟩) ⟨xk_blind, va_recv hK hPc (ci := 1) (q0 := 0) rfl rfl, xk_pre hK hN hPc hDc⟩ rfl rfl hl.1 rfl (lv_room (Nat.le_of_ble_eq_true rfl)) dX4_net_16 ⟨Nat.le_of_ble_eq_true rfl, Nat.le_of_ble_eq_true rfl⟩) hP hD hS hA [1, 2] [0] [0, 1, 2] rfl rfl (by decide) (by decide) rfl (by decide) (fun H locs hP hD hS => ?_)
  refine lv_iconst (v := 1) hx hb dX4_net_19 (by decide) ?_
  exact xk_zret hx hb hr hlocks hP hD hS (rfl) (rfl) (rfl) dX4_net_20

abbrev rm_X4_rank_no : Room := { frames := 0, cells := 0, slots := 0, locals := 0 }
set_option maxHeartbeats 4000000 in
set_option maxRecDepth 100000 in
theorem ct_X4_rank_no (l : Launch) (D : va_G) (cyI cyZ : ClassId) (d0 s0 t0 r0 q0 q1 : Nat) (sz : Nat) (bk : Int32) (ky : Nat → Int32) (na nb : Int32) (mm cn : Nat) (x y : Int32) (hno : ¬ ((¬ x < 0 ∧ ¬ 1000 < x) ∧ ¬ y < 0 ∧ ¬ 1000 < y)) : Met l yX4_rank wsX4_rank rm_X4_rank_no (xk_Pc D cyI cyZ [.ref d0, .int x, .int y] [(d0, .inr (4, [.ref s0, .ref t0, .ref r0, .ref q0, .int bk])), (q0, .inr (1, [.ref q1, .int na, .int nb, .int (nI mm), .int (nI cn)])), (q1, .inl (cyI, 128, .inl ky))] sz) (xk_Qi D (va_A [(d0, .inr (4, [.ref s0, .ref t0, .ref r0, .ref q0, .int bk])), (q0, .inr (1, [.ref q1, .int na, .int nb, .int (nI mm), .int (nI cn)])), (q1, .inl (cyI, 128, .inl ky))] sz) (-1) [(d0, .inr (4, [.ref s0, .ref t0, .ref r0, .ref q0, .int bk])), (q0, .inr (1, [.ref q1, .int na, .int nb, .int (nI mm), .int (nI cn)])), (q1, .inl (cyI, 128, .inl ky))]) 0 0 (va_A [(d0, .inr (4, [.ref s0, .ref t0, .ref r0, .ref q0, .int bk])), (q0, .inr (1, [.ref q1, .int na, .int nb, .int (nI mm), .int (nI cn)])), (q1, .inl (cyI, 128, .inl ky))] sz) := by
  refine xk_of (own := RX4) (cc := cX4_rank) (maxL := 3) (ret := (some .int)) (Qc := fun A => xk_Qi D A (-1) [(d0, .inr (4, [.ref s0, .ref t0, .ref r0, .ref q0, .int bk])), (q0, .inr (1, [.ref q1, .int na, .int nb, .int (nI mm), .int (nI cn)])), (q1, .inl (cyI, 128, .inl ky))]) (by decide) rfl rfl (Nat.le_of_ble_eq_true rfl) ?_
  intro p e s m below meth c A ls hx hb hr hml hown hlocks hin hts hA hP hK hN hD hS hl
  have hC0 := xk_fix hx hb hml hown hts
  have hl : lv_has ls 3 [(0, .ref d0), (1, .int x), (2, .int y)] := hl
  refine lv_iload_n hx hb dX4_rank_0 rfl (lv_at hl 1 rfl) ?_
  refine lv_if_lt (tgt := 22) hx hb dX4_rank_1 (by decide) (fun c_1 => ?_) (fun c_1 => ?_)
  · refine lv_iconst (v := (-1)) hx hb dX4_rank_22 (by decide) ?_
    exact xk_iret hx hb hr hlocks hP hD hS (rfl) (rfl) dX4_rank_23
  · refine lv_iload_n hx hb dX4_rank_4 rfl (lv_at hl 1 rfl) ?_
    refine lv_sipush (v := 1000) hx hb dX4_rank_5 (by decide) ?_
    refine lv_icmp_gt (tgt := 22) hx hb dX4_rank_8 (by decide) (fun c_8 => ?_) (fun c_8 => ?_)
    · refine lv_iconst (v := (-1)) hx hb dX4_rank_22 (by decide) ?_
      exact xk_iret hx hb hr hlocks hP hD hS (rfl) (rfl) dX4_rank_23
    · refine lv_iload_n hx hb dX4_rank_11 rfl (lv_at hl 2 rfl) ?_
      refine lv_if_lt (tgt := 22) hx hb dX4_rank_12 (by decide) (fun c_12 => ?_) (fun c_12 => ?_)
      · refine lv_iconst (v := (-1)) hx hb dX4_rank_22 (by decide) ?_
        exact xk_iret hx hb hr hlocks hP hD hS (rfl) (rfl) dX4_rank_23
      · refine lv_iload_n hx hb dX4_rank_15 rfl (lv_at hl 2 rfl) ?_
        refine lv_sipush (v := 1000) hx hb dX4_rank_16 (by decide) ?_
        refine lv_icmp_le (tgt := 24) hx hb dX4_rank_19 (by decide) (fun c_19 => ?_) (fun c_19 => ?_)
        · exact absurd ⟨⟨c_1, c_8⟩, c_12, Int32.not_lt.mpr c_19⟩ hno
        · refine lv_iconst (v := (-1)) hx hb dX4_rank_22 (by decide) ?_
          exact xk_iret hx hb hr hlocks hP hD hS (rfl) (rfl) dX4_rank_23

abbrev rm_X4_rank_ok : Room := { frames := 4, cells := 0, slots := 0, locals := 91 }
theorem in_X4_rank_ok_X4 : ∀ w ∈ u_ws RX4 TX4 5, w ∈ wsX4_rank := by decide +kernel
set_option maxHeartbeats 4000000 in
set_option maxRecDepth 100000 in
theorem ct_X4_rank_ok (l : Launch) (D : va_G) (cyI cyZ : ClassId) (d0 s0 t0 r0 q0 q1 : Nat) (sz : Nat) (bk : Int32) (ky : Nat → Int32) (na nb : Int32) (mm cn : Nat) (x y : Int32) (hm1 : 1 ≤ mm) (hm2 : mm ≤ 128) (hcn : cn ≤ 128) (hok : (¬ x < 0 ∧ ¬ 1000 < x) ∧ ¬ y < 0 ∧ ¬ 1000 < y) : Met l yX4_rank wsX4_rank rm_X4_rank_ok (xk_Pc D cyI cyZ [.ref d0, .int x, .int y] [(d0, .inr (4, [.ref s0, .ref t0, .ref r0, .ref q0, .int bk])), (q0, .inr (1, [.ref q1, .int na, .int nb, .int (nI mm), .int (nI cn)])), (q1, .inl (cyI, 128, .inl ky))] sz) (xk_Qi D (va_A [(d0, .inr (4, [.ref s0, .ref t0, .ref r0, .ref q0, .int bk])), (q0, .inr (1, [.ref q1, .int na, .int nb, .int (nI mm), .int (nI cn)])), (q1, .inl (cyI, 128, .inl ky))] sz) (nI (ub ky cn (kyA na nb mm x y) 8) - 1) [(d0, .inr (4, [.ref s0, .ref t0, .ref r0, .ref q0, .int bk])), (q0, .inr (1, [.ref q1, .int na, .int nb, .int (nI mm), .int (nI cn)])), (q1, .inl (cyI, 128, .inl ky))]) 0 0 (va_A [(d0, .inr (4, [.ref s0, .ref t0, .ref r0, .ref q0, .int bk])), (q0, .inr (1, [.ref q1, .int na, .int nb, .int (nI mm), .int (nI cn)])), (q1, .inl (cyI, 128, .inl ky))] sz) := by
  refine xk_of (own := RX4) (cc := cX4_rank) (maxL := 3) (ret := (some .int)) (Qc := fun A => xk_Qi D A (nI (ub ky cn (kyA na nb mm x y) 8) - 1) [(d0, .inr (4, [.ref s0, .ref t0, .ref r0, .ref q0, .int bk])), (q0, .inr (1, [.ref q1, .int na, .int nb, .int (nI mm), .int (nI cn)])), (q1, .inl (cyI, 128, .inl ky))]) (by decide) rfl rfl (Nat.le_of_ble_eq_true rfl) ?_
  intro p e s m below meth c A ls hx hb hr hml hown hlocks hin hts hA hP hK hN hD hS hl
  have hC0 := xk_fix hx hb hml hown hts
  have hl : lv_has ls 3 [(0, .ref d0), (1, .int x), (2, .int y)] := hl
  have hf33 := hts (.fieldLink RX4 33 "DotPress" "lattice" "LDotPress$Lattice;") (by decide +kernel)
  refine lv_iload_n hx hb dX4_rank_0 rfl (lv_at hl 1 rfl) ?_
  refine lv_if_lt (tgt := 22) hx hb dX4_rank_1 (by decide) (fun c_1 => xk_ab c_1 (hok.1.1)) (fun c_1 => ?_)
  refine lv_iload_n hx hb dX4_rank_4 rfl (lv_at hl 1 rfl) ?_
  refine lv_sipush (v := 1000) hx hb dX4_rank_5 (by decide) ?_
  refine lv_icmp_gt (tgt := 22) hx hb dX4_rank_8 (by decide) (fun c_8 => xk_ab c_8 (hok.1.2)) (fun c_8 => ?_)
  refine lv_iload_n hx hb dX4_rank_11 rfl (lv_at hl 2 rfl) ?_
  refine lv_if_lt (tgt := 22) hx hb dX4_rank_12 (by decide) (fun c_12 => xk_ab c_12 (hok.2.1)) (fun c_12 => ?_)
  refine lv_iload_n hx hb dX4_rank_15 rfl (lv_at hl 2 rfl) ?_
  refine lv_sipush (v := 1000) hx hb dX4_rank_16 (by decide) ?_
  refine lv_icmp_le (tgt := 24) hx hb dX4_rank_19 (by decide) (fun c_19 => ?_) (fun c_19 => xk_ba c_19 (Int32.not_lt.mp hok.2.2))
  refine lv_aload_n hx hb dX4_rank_24 rfl (lv_at hl 0 rfl) ?_
  refine va_get (D := D) (ci := 4) (v := .ref q0) (C := RX4) (T := TX4) (N := 5) hx hb hts in_X4_rank_ok_X4 hown hK hP 0 rfl rfl 3 (by decide) hf33 (fun _ h9 => h9) rfl dX4_rank_25 ?_
  refine lv_iload_n hx hb dX4_rank_28 rfl (lv_at hl 1 rfl) ?_
  refine lv_iload_n hx hb dX4_rank_29 rfl (lv_at hl 2 rfl) ?_
  have hPc := hP.sub (ws' := [(q0, .inr (1, [.ref q1, .int na, .int nb, .int (nI mm), .int (nI cn)])), (q1, .inl (cyI, 128, .inl ky))]) [1, 2] rfl
  have hDc := hD.sub (ws' := [(q0, .inr (1, [.ref q1, .int na, .int nb, .int (nI mm), .int (nI cn)])), (q1, .inl (cyI, 128, .inl ky))]) [1, 2] (by decide) rfl
  refine xk_calli (wr := [(d0, .inr (4, [.ref s0, .ref t0, .ref r0, .ref q0, .int bk]))]) (w2 := [(d0, .inr (4, [.ref s0, .ref t0, .ref r0, .ref q0, .int bk])), (q0, .inr (1, [.ref q1, .int na, .int nb, .int (nI mm), .int (nI cn)])), (q1, .inl (cyI, 128, .inl ky))]) (va_runV (As := [.int x, .int y]) (rest := []) hC0 (ct_X1_rankAt l D cyI cyZ q0 q1 _ ky na nb mm cn x y (by first | assumption | omega) (by first | assumption | omega) (by first | assumption | omega)) (cwV 2 hts gX4_rank_X1_rankAt rfl rfl rfl (by decide +kernel) ⟨Nat.le_of_ble_eq_true rfl, Nat.le_of_ble_eq_true rfl⟩) ⟨xk_blind, va_recv hK hPc (ci := 1) (q0 := 0) rfl rfl, xk_pre hK hN hPc hDc⟩ rfl rfl hl.1 rfl (lv_room (Nat.le_of_ble_eq_true rfl)) dX4_rank_30 ⟨Nat.le_of_ble_eq_true rfl, Nat.le_of_ble_eq_true rfl⟩) hP hD hS hA [1, 2] [0] [0, 1, 2] rfl rfl (by decide) (by decide) rfl (by decide) (fun H locs hP hD hS => ?_)
  exact xk_iret hx hb hr hlocks hP hD hS (rfl) (rfl) dX4_rank_33

abbrev rm_X4_beat_no : Room := { frames := 1, cells := 0, slots := 0, locals := 21 }
set_option maxHeartbeats 4000000 in
set_option maxRecDepth 100000 in
theorem ct_X4_beat_no (l : Launch) (D : va_G) (cyI cyZ : ClassId) (d0 s0 t0 r0 q0 q1 : Nat) (sz : Nat) (bk : Int32) (ky : Nat → Int32) (na nb : Int32) (mm cn : Nat) (x y v : Int32) (hno : ¬ (nt_ok x y ∧ ¬ v < 0 ∧ ¬ 1 < v)) : Met l yX4_beat wsX4_beat rm_X4_beat_no (xk_Pc D cyI cyZ [.ref d0, .int x, .int y, .int v] [(d0, .inr (4, [.ref s0, .ref t0, .ref r0, .ref q0, .int bk])), (q0, .inr (1, [.ref q1, .int na, .int nb, .int (nI mm), .int (nI cn)])), (q1, .inl (cyI, 128, .inl ky))] sz) (xk_Ql D (va_A [(d0, .inr (4, [.ref s0, .ref t0, .ref r0, .ref q0, .int bk])), (q0, .inr (1, [.ref q1, .int na, .int nb, .int (nI mm), .int (nI cn)])), (q1, .inl (cyI, 128, .inl ky))] sz) (-1) [(d0, .inr (4, [.ref s0, .ref t0, .ref r0, .ref q0, .int bk])), (q0, .inr (1, [.ref q1, .int na, .int nb, .int (nI mm), .int (nI cn)])), (q1, .inl (cyI, 128, .inl ky))]) 0 0 (va_A [(d0, .inr (4, [.ref s0, .ref t0, .ref r0, .ref q0, .int bk])), (q0, .inr (1, [.ref q1, .int na, .int nb, .int (nI mm), .int (nI cn)])), (q1, .inl (cyI, 128, .inl ky))] sz) := by
  refine xk_of (own := RX4) (cc := cX4_beat) (maxL := 8) (ret := (some .long)) (Qc := fun A => xk_Ql D A (-1) [(d0, .inr (4, [.ref s0, .ref t0, .ref r0, .ref q0, .int bk])), (q0, .inr (1, [.ref q1, .int na, .int nb, .int (nI mm), .int (nI cn)])), (q1, .inl (cyI, 128, .inl ky))]) (by decide) rfl rfl (Nat.le_of_ble_eq_true rfl) ?_
  intro p e s m below meth c A ls hx hb hr hml hown hlocks hin hts hA hP hK hN hD hS hl
  have hC0 := xk_fix hx hb hml hown hts
  have hl : lv_has ls 8 [(0, .ref d0), (1, .int x), (2, .int y), (3, .int v)] := hl
  refine lv_iload_n hx hb dX4_beat_0 rfl (lv_at hl 1 rfl) ?_
  refine lv_iload_n hx hb dX4_beat_1 rfl (lv_at hl 2 rfl) ?_
  have hPc := hP.sub (ws' := []) [] rfl
  have hDc := hD.sub (ws' := []) [] (by decide) rfl
  refine xk_calli (wr := [(d0, .inr (4, [.ref s0, .ref t0, .ref r0, .ref q0, .int bk])), (q0, .inr (1, [.ref q1, .int na, .int nb, .int (nI mm), .int (nI cn)])), (q1, .inl (cyI, 128, .inl ky))]) (w2 := [(d0, .inr (4, [.ref s0, .ref t0, .ref r0, .ref q0, .int bk])), (q0, .inr (1, [.ref q1, .int na, .int nb, .int (nI mm), .int (nI cn)])), (q1, .inl (cyI, 128, .inl ky))]) (va_runS (As := [.int x, .int y]) (rest := []) hC0 (ct_X1_allows l D cyI cyZ  _ x y ) (va_cwS 2 hts gX4_beat_X1_allows rfl rfl rfl (by decide +kernel) ⟨Nat.le_of_ble_eq_true rfl, Nat.le_of_ble_eq_true rfl⟩) ⟨xk_blind, xk_pre hK hN hPc hDc⟩ rfl rfl hl.1 rfl (lv_room (Nat.le_of_ble_eq_true rfl)) dX4_beat_2 ⟨Nat.le_of_ble_eq_true rfl, Nat.le_of_ble_eq_true rfl⟩) hP hD hS hA [] [0, 1, 2] [0, 1, 2] rfl rfl (by decide) (by decide) rfl (by decide) (fun H locs hP hD hS => ?_)
  refine lv_if_eq (tgt := 17) hx hb dX4_beat_5 (by decide) (fun c_5 => ?_) (fun c_5 => ?_)
  · have c_5 := bI_z.mp c_5
    refine lv_ldc2 (v := (-1)) hx hb hown (hts (.constantLong RX4 143 (-1)) (by decide +kernel)) dX4_beat_17 ?_
    exact xk_lret hx hb hr hlocks hP hD hS (rfl) (rfl) dX4_beat_20
  · have c_5 := bI_nz.mp c_5
    refine lv_iload_n hx hb dX4_beat_8 rfl (lv_at hl 3 rfl) ?_
    refine lv_if_lt (tgt := 17) hx hb dX4_beat_9 (by decide) (fun c_9 => ?_) (fun c_9 => ?_)
    · refine lv_ldc2 (v := (-1)) hx hb hown (hts (.constantLong RX4 143 (-1)) (by decide +kernel)) dX4_beat_17 ?_
      exact xk_lret hx hb hr hlocks hP hD hS (rfl) (rfl) dX4_beat_20
    · refine lv_iload_n hx hb dX4_beat_12 rfl (lv_at hl 3 rfl) ?_
      refine lv_iconst (v := 1) hx hb dX4_beat_13 (by decide) ?_
      refine lv_icmp_le (tgt := 21) hx hb dX4_beat_14 (by decide) (fun c_14 => ?_) (fun c_14 => ?_)
      · exact absurd ⟨c_5, c_9, Int32.not_lt.mpr c_14⟩ hno
      · refine lv_ldc2 (v := (-1)) hx hb hown (hts (.constantLong RX4 143 (-1)) (by decide +kernel)) dX4_beat_17 ?_
        exact xk_lret hx hb hr hlocks hP hD hS (rfl) (rfl) dX4_beat_20

abbrev rm_X4_beat_0 : Room := { frames := 2, cells := 0, slots := 0, locals := 39 }
theorem in_X4_beat_0_X4 : ∀ w ∈ u_ws RX4 TX4 5, w ∈ wsX4_beat := by decide +kernel
set_option maxHeartbeats 4000000 in
set_option maxRecDepth 100000 in
theorem ct_X4_beat_0 (l : Launch) (D : va_G) (cyI cyZ : ClassId) (d0 s0 t0 r0 q0 q1 : Nat) (sz : Nat) (bk : Int32) (ky : Nat → Int32) (na nb : Int32) (mm cn : Nat) (x y : Int32) (ab bl : Nat) (hok : nt_ok x y) (hab : btA na nb mm x y = nI ab) (hbl : btB mm x y = nI bl) (h15a : ab < 2 ^ 15) (h15b : bl < 2 ^ 15) (hg1 : 1 ≤ Nat.gcd ab bl) : Met l yX4_beat wsX4_beat rm_X4_beat_0 (xk_Pc D cyI cyZ [.ref d0, .int x, .int y, .int 0] [(d0, .inr (4, [.ref s0, .ref t0, .ref r0, .ref q0, .int bk])), (q0, .inr (1, [.ref q1, .int na, .int nb, .int (nI mm), .int (nI cn)])), (q1, .inl (cyI, 128, .inl ky))] sz) (xk_Ql D (va_A [(d0, .inr (4, [.ref s0, .ref t0, .ref r0, .ref q0, .int bk])), (q0, .inr (1, [.ref q1, .int na, .int nb, .int (nI mm), .int (nI cn)])), (q1, .inl (cyI, 128, .inl ky))] sz) ((nI (ab / Nat.gcd ab bl)).toInt64) [(d0, .inr (4, [.ref s0, .ref t0, .ref r0, .ref q0, .int bk])), (q0, .inr (1, [.ref q1, .int na, .int nb, .int (nI mm), .int (nI cn)])), (q1, .inl (cyI, 128, .inl ky))]) 0 0 (va_A [(d0, .inr (4, [.ref s0, .ref t0, .ref r0, .ref q0, .int bk])), (q0, .inr (1, [.ref q1, .int na, .int nb, .int (nI mm), .int (nI cn)])), (q1, .inl (cyI, 128, .inl ky))] sz) := by
  refine xk_of (own := RX4) (cc := cX4_beat) (maxL := 8) (ret := (some .long)) (Qc := fun A => xk_Ql D A ((nI (ab / Nat.gcd ab bl)).toInt64) [(d0, .inr (4, [.ref s0, .ref t0, .ref r0, .ref q0, .int bk])), (q0, .inr (1, [.ref q1, .int na, .int nb, .int (nI mm), .int (nI cn)])), (q1, .inl (cyI, 128, .inl ky))]) (by decide) rfl rfl (Nat.le_of_ble_eq_true rfl) ?_
  intro p e s m below meth c A ls hx hb hr hml hown hlocks hin hts hA hP hK hN hD hS hl
  have hC0 := xk_fix hx hb hml hown hts
  have hl : lv_has ls 8 [(0, .ref d0), (1, .int x), (2, .int y), (3, .int 0)] := hl
  have hf33 := hts (.fieldLink RX4 33 "DotPress" "lattice" "LDotPress$Lattice;") (by decide +kernel)
  have hgl := gcd_lt hg1 h15a h15b
  refine lv_iload_n hx hb dX4_beat_0 rfl (lv_at hl 1 rfl) ?_
  refine lv_iload_n hx hb dX4_beat_1 rfl (lv_at hl 2 rfl) ?_
  have hPc := hP.sub (ws' := []) [] rfl
  have hDc := hD.sub (ws' := []) [] (by decide) rfl
  refine xk_calli (wr := [(d0, .inr (4, [.ref s0, .ref t0, .ref r0, .ref q0, .int bk])), (q0, .inr (1, [.ref q1, .int na, .int nb, .int (nI mm), .int (nI cn)])), (q1, .inl (cyI, 128, .inl ky))]) (w2 := [(d0, .inr (4, [.ref s0, .ref t0, .ref r0, .ref q0, .int bk])), (q0, .inr (1, [.ref q1, .int na, .int nb, .int (nI mm), .int (nI cn)])), (q1, .inl (cyI, 128, .inl ky))]) (va_runS (As := [.int x, .int y]) (rest := []) hC0 (ct_X1_allows l D cyI cyZ  _ x y ) (va_cwS 2 hts gX4_beat_X1_allows rfl rfl rfl (by decide +kernel) ⟨Nat.le_of_ble_eq_true rfl, Nat.le_of_ble_eq_true rfl⟩) ⟨xk_blind, xk_pre hK hN hPc hDc⟩ rfl rfl hl.1 rfl (lv_room (Nat.le_of_ble_eq_true rfl)) dX4_beat_2 ⟨Nat.le_of_ble_eq_true rfl, Nat.le_of_ble_eq_true rfl⟩) hP hD hS hA [] [0, 1, 2] [0, 1, 2] rfl rfl (by decide) (by decide) rfl (by decide) (fun H locs hP hD hS => ?_)
  refine lv_if_eq (tgt := 17) hx hb dX4_beat_5 (by decide) (fun c_5 => xk_ab c_5 (bI_nz.mpr hok)) (fun c_5 => ?_)
  have c_5 := bI_nz.mp c_5
  refine lv_iload_n hx hb dX4_beat_8 rfl (lv_at hl 3 rfl) ?_
  refine lv_if_lt (tgt := 17) hx hb dX4_beat_9 (by decide) (fun c_9 => xk_ab c_9 ((by decide : ¬ (0 : Int32) < 0))) (fun c_9 => ?_)
  refine lv_iload_n hx hb dX4_beat_12 rfl (lv_at hl 3 rfl) ?_
  refine lv_iconst (v := 1) hx hb dX4_beat_13 (by decide) ?_
  refine lv_icmp_le (tgt := 21) hx hb dX4_beat_14 (by decide) (fun c_14 => ?_) (fun c_14 => xk_ba c_14 ((by decide : (0 : Int32) ≤ 1)))
  refine lv_aload_n hx hb dX4_beat_21 rfl (lv_at hl 0 rfl) ?_
  refine va_get (D := D) (ci := 4) (v := .ref q0) (C := RX4) (T := TX4) (N := 5) hx hb hts in_X4_beat_0_X4 hown hK hP 0 rfl rfl 3 (by decide) hf33 (fun _ h9 => h9) rfl dX4_beat_22 ?_
  refine lv_iload_n hx hb dX4_beat_25 rfl (lv_at hl 1 rfl) ?_
  refine lv_iload_n hx hb dX4_beat_26 rfl (lv_at hl 2 rfl) ?_
  have hPc := hP.sub (ws' := [(q0, .inr (1, [.ref q1, .int na, .int nb, .int (nI mm), .int (nI cn)])), (q1, .inl (cyI, 128, .inl ky))]) [1, 2] rfl
  have hDc := hD.sub (ws' := [(q0, .inr (1, [.ref q1, .int na, .int nb, .int (nI mm), .int (nI cn)])), (q1, .inl (cyI, 128, .inl ky))]) [1, 2] (by decide) rfl
  refine xk_calli (wr := [(d0, .inr (4, [.ref s0, .ref t0, .ref r0, .ref q0, .int bk]))]) (w2 := [(d0, .inr (4, [.ref s0, .ref t0, .ref r0, .ref q0, .int bk])), (q0, .inr (1, [.ref q1, .int na, .int nb, .int (nI mm), .int (nI cn)])), (q1, .inl (cyI, 128, .inl ky))]) (va_runV (As := [.int x, .int y]) (rest := []) hC0 (ct_X1_beatAbove l D cyI cyZ q0 q1 _ ky na nb mm cn x y ) (cwV 2 hts gX4_beat_X1_beatAbove rfl rfl rfl (by decide +kernel) ⟨Nat.le_of_ble_eq_true rfl, Nat.le_of_ble_eq_true rfl⟩) ⟨xk_blind, va_recv hK hPc (ci := 1) (q0 := 0) rfl rfl, xk_pre hK hN hPc hDc⟩ rfl rfl hl.1 rfl (lv_room (Nat.le_of_ble_eq_true rfl)) dX4_beat_27 ⟨Nat.le_of_ble_eq_true rfl, Nat.le_of_ble_eq_true rfl⟩) hP hD hS hA [1, 2] [0] [0, 1, 2] rfl rfl (by decide) (by decide) rfl (by decide) (fun H locs hP hD hS => ?_)
  refine xk_topi (y := nI ab) (hab) ?_
  refine lv_istore (lv' := [(4, .int (nI ab)), (0, .ref d0), (1, .int x), (2, .int y), (3, .int 0)]) hx hb dX4_beat_30 hl (by decide) rfl (fun ls hl => ?_)
  refine lv_aload_n hx hb dX4_beat_32 rfl (lv_at hl 1 rfl) ?_
  refine va_get (D := D) (ci := 4) (v := .ref q0) (C := RX4) (T := TX4) (N := 5) hx hb hts in_X4_beat_0_X4 hown hK hP 0 rfl rfl 3 (by decide) hf33 (fun _ h9 => h9) rfl dX4_beat_33 ?_
  refine lv_iload_n hx hb dX4_beat_36 rfl (lv_at hl 2 rfl) ?_
  refine lv_iload_n hx hb dX4_beat_37 rfl (lv_at hl 3 rfl) ?_
  have hPc := hP.sub (ws' := [(q0, .inr (1, [.ref q1, .int na, .int nb, .int (nI mm), .int (nI cn)])), (q1, .inl (cyI, 128, .inl ky))]) [1, 2] rfl
  have hDc := hD.sub (ws' := [(q0, .inr (1, [.ref q1, .int na, .int nb, .int (nI mm), .int (nI cn)])), (q1, .inl (cyI, 128, .inl ky))]) [1, 2] (by decide) rfl
  refine xk_calli (wr := [(d0, .inr (4, [.ref s0, .ref t0, .ref r0, .ref q0, .int bk]))]) (w2 := [(d0, .inr (4, [.ref s0, .ref t0, .ref r0, .ref q0, .int bk])), (q0, .inr (1, [.ref q1, .int na, .int nb, .int (nI mm), .int (nI cn)])), (q1, .inl (cyI, 128, .inl ky))]) (va_runV (As := [.int x, .int y]) (rest := []) hC0 (ct_X1_beatBelow l D cyI cyZ q0 q1 _ ky na nb mm cn x y ) (cwV 2 hts gX4_beat_X1_beatBelow rfl rfl rfl (by decide +kernel) ⟨Nat.le_of_ble_eq_true rfl, Nat.le_of_ble_eq_true rfl⟩) ⟨xk_blind, va_recv hK hPc (ci := 1) (q0 := 0) rfl rfl, xk_pre hK hN hPc hDc⟩ rfl rfl hl.1 rfl (lv_room (Nat.le_of_ble_eq_true rfl)) dX4_beat_38 ⟨Nat.le_of_ble_eq_true rfl, Nat.le_of_ble_eq_true rfl⟩) hP hD hS hA [1, 2] [0] [0, 1, 2] rfl rfl (by decide) (by decide) rfl (by decide) (fun H locs hP hD hS => ?_)
  refine xk_topi (y := nI bl) (hbl) ?_
  refine lv_istore (lv' := [(5, .int (nI bl)), (4, .int (nI ab)), (0, .ref d0), (1, .int x), (2, .int y), (3, .int 0)]) hx hb dX4_beat_41 hl (by decide) rfl (fun ls hl => ?_)
  refine lv_iload hx hb dX4_beat_43 (lv_at hl 1 rfl) ?_
  refine lv_iload hx hb dX4_beat_45 (lv_at hl 0 rfl) ?_
  have hPc := hP.sub (ws' := []) [] rfl
  have hDc := hD.sub (ws' := []) [] (by decide) rfl
  refine xk_calli (wr := [(d0, .inr (4, [.ref s0, .ref t0, .ref r0, .ref q0, .int bk])), (q0, .inr (1, [.ref q1, .int na, .int nb, .int (nI mm), .int (nI cn)])), (q1, .inl (cyI, 128, .inl ky))]) (w2 := [(d0, .inr (4, [.ref s0, .ref t0, .ref r0, .ref q0, .int bk])), (q0, .inr (1, [.ref q1, .int na, .int nb, .int (nI mm), .int (nI cn)])), (q1, .inl (cyI, 128, .inl ky))]) (va_runS (As := [.int (nI ab), .int (nI bl)]) (rest := []) hC0 (ct_X4_commonDivisor l D cyI cyZ  _ ab bl (by first | assumption | omega) (by first | assumption | omega)) (va_cwS 2 hts gX4_beat_X4_commonDivisor rfl rfl rfl (by decide +kernel) ⟨Nat.le_of_ble_eq_true rfl, Nat.le_of_ble_eq_true rfl⟩) ⟨xk_blind, xk_pre hK hN hPc hDc⟩ rfl rfl hl.1 rfl (lv_room (Nat.le_of_ble_eq_true rfl)) dX4_beat_47 ⟨Nat.le_of_ble_eq_true rfl, Nat.le_of_ble_eq_true rfl⟩) hP hD hS hA [] [0, 1, 2] [0, 1, 2] rfl rfl (by decide) (by decide) rfl (by decide) (fun H locs hP hD hS => ?_)
  refine lv_istore (lv' := [(6, .int (nI (Nat.gcd ab bl))), (5, .int (nI bl)), (4, .int (nI ab)), (0, .ref d0), (1, .int x), (2, .int y), (3, .int 0)]) hx hb dX4_beat_50 hl (by decide) rfl (fun ls hl => ?_)
  refine lv_iload_n hx hb dX4_beat_52 rfl (lv_at hl 6 rfl) ?_
  refine lv_if_ne (tgt := 61) hx hb dX4_beat_53 (by decide) (fun c_53 => xk_ba c_53 ((rfl : (0 : Int32) = 0))) (fun c_53 => ?_)
  refine lv_iload hx hb dX4_beat_56 (lv_at hl 2 rfl) ?_
  refine lv_goto (tgt := 63) hx hb dX4_beat_58 (by decide) ?_
  refine lv_istore (lv' := [(7, .int (nI ab)), (6, .int (nI (Nat.gcd ab bl))), (5, .int (nI bl)), (4, .int (nI ab)), (0, .ref d0), (1, .int x), (2, .int y), (3, .int 0)]) hx hb dX4_beat_63 hl (by decide) rfl (fun ls hl => ?_)
  refine lv_iload hx hb dX4_beat_65 (lv_at hl 1 rfl) ?_
  refine lv_iconst (v := 1) hx hb dX4_beat_67 (by decide) ?_
  refine lv_icmp_ge (tgt := 77) hx hb dX4_beat_68 (by decide) (fun c_68 => ?_) (fun c_68 => xk_ba c_68 (nI_le (a := 1) hg1 (by omega)))
  refine lv_iload hx hb dX4_beat_77 (lv_at hl 0 rfl) ?_
  refine lv_iload hx hb dX4_beat_79 (lv_at hl 1 rfl) ?_
  refine lv_idiv hx hb dX4_beat_81 (nI_ne0 hg1 (by omega)) ?_
  refine xk_topi (y := nI (ab / Nat.gcd ab bl)) (pk_div (by omega) hg1 (by omega)) ?_
  refine lv_i2l hx hb dX4_beat_82 rfl ?_
  exact xk_lret hx hb hr hlocks hP hD hS (rfl) (rfl) dX4_beat_83

abbrev rm_X4_beat_1 : Room := { frames := 2, cells := 0, slots := 0, locals := 39 }
theorem in_X4_beat_1_X4 : ∀ w ∈ u_ws RX4 TX4 5, w ∈ wsX4_beat := by decide +kernel
set_option maxHeartbeats 4000000 in
set_option maxRecDepth 100000 in
theorem ct_X4_beat_1 (l : Launch) (D : va_G) (cyI cyZ : ClassId) (d0 s0 t0 r0 q0 q1 : Nat) (sz : Nat) (bk : Int32) (ky : Nat → Int32) (na nb : Int32) (mm cn : Nat) (x y : Int32) (ab bl : Nat) (hok : nt_ok x y) (hab : btA na nb mm x y = nI ab) (hbl : btB mm x y = nI bl) (h15a : ab < 2 ^ 15) (h15b : bl < 2 ^ 15) (hg1 : 1 ≤ Nat.gcd ab bl) : Met l yX4_beat wsX4_beat rm_X4_beat_1 (xk_Pc D cyI cyZ [.ref d0, .int x, .int y, .int 1] [(d0, .inr (4, [.ref s0, .ref t0, .ref r0, .ref q0, .int bk])), (q0, .inr (1, [.ref q1, .int na, .int nb, .int (nI mm), .int (nI cn)])), (q1, .inl (cyI, 128, .inl ky))] sz) (xk_Ql D (va_A [(d0, .inr (4, [.ref s0, .ref t0, .ref r0, .ref q0, .int bk])), (q0, .inr (1, [.ref q1, .int na, .int nb, .int (nI mm), .int (nI cn)])), (q1, .inl (cyI, 128, .inl ky))] sz) ((nI (bl / Nat.gcd ab bl)).toInt64) [(d0, .inr (4, [.ref s0, .ref t0, .ref r0, .ref q0, .int bk])), (q0, .inr (1, [.ref q1, .int na, .int nb, .int (nI mm), .int (nI cn)])), (q1, .inl (cyI, 128, .inl ky))]) 0 0 (va_A [(d0, .inr (4, [.ref s0, .ref t0, .ref r0, .ref q0, .int bk])), (q0, .inr (1, [.ref q1, .int na, .int nb, .int (nI mm), .int (nI cn)])), (q1, .inl (cyI, 128, .inl ky))] sz) := by
  refine xk_of (own := RX4) (cc := cX4_beat) (maxL := 8) (ret := (some .long)) (Qc := fun A => xk_Ql D A ((nI (bl / Nat.gcd ab bl)).toInt64) [(d0, .inr (4, [.ref s0, .ref t0, .ref r0, .ref q0, .int bk])), (q0, .inr (1, [.ref q1, .int na, .int nb, .int (nI mm), .int (nI cn)])), (q1, .inl (cyI, 128, .inl ky))]) (by decide) rfl rfl (Nat.le_of_ble_eq_true rfl) ?_
  intro p e s m below meth c A ls hx hb hr hml hown hlocks hin hts hA hP hK hN hD hS hl
  have hC0 := xk_fix hx hb hml hown hts
  have hl : lv_has ls 8 [(0, .ref d0), (1, .int x), (2, .int y), (3, .int 1)] := hl
  have hf33 := hts (.fieldLink RX4 33 "DotPress" "lattice" "LDotPress$Lattice;") (by decide +kernel)
  have hgl := gcd_lt hg1 h15a h15b
  refine lv_iload_n hx hb dX4_beat_0 rfl (lv_at hl 1 rfl) ?_
  refine lv_iload_n hx hb dX4_beat_1 rfl (lv_at hl 2 rfl) ?_
  have hPc := hP.sub (ws' := []) [] rfl
  have hDc := hD.sub (ws' := []) [] (by decide) rfl
  refine xk_calli (wr := [(d0, .inr (4, [.ref s0, .ref t0, .ref r0, .ref q0, .int bk])), (q0, .inr (1, [.ref q1, .int na, .int nb, .int (nI mm), .int (nI cn)])), (q1, .inl (cyI, 128, .inl ky))]) (w2 := [(d0, .inr (4, [.ref s0, .ref t0, .ref r0, .ref q0, .int bk])), (q0, .inr (1, [.ref q1, .int na, .int nb, .int (nI mm), .int (nI cn)])), (q1, .inl (cyI, 128, .inl ky))]) (va_runS (As := [.int x, .int y]) (rest := []) hC0 (ct_X1_allows l D cyI cyZ  _ x y ) (va_cwS 2 hts gX4_beat_X1_allows rfl rfl rfl (by decide +kernel) ⟨Nat.le_of_ble_eq_true rfl, Nat.le_of_ble_eq_true rfl⟩) ⟨xk_blind, xk_pre hK hN hPc hDc⟩ rfl rfl hl.1 rfl (lv_room (Nat.le_of_ble_eq_true rfl)) dX4_beat_2 ⟨Nat.le_of_ble_eq_true rfl, Nat.le_of_ble_eq_true rfl⟩) hP hD hS hA [] [0, 1, 2] [0, 1, 2] rfl rfl (by decide) (by decide) rfl (by decide) (fun H locs hP hD hS => ?_)
  refine lv_if_eq (tgt := 17) hx hb dX4_beat_5 (by decide) (fun c_5 => xk_ab c_5 (bI_nz.mpr hok)) (fun c_5 => ?_)
  have c_5 := bI_nz.mp c_5
  refine lv_iload_n hx hb dX4_beat_8 rfl (lv_at hl 3 rfl) ?_
  refine lv_if_lt (tgt := 17) hx hb dX4_beat_9 (by decide) (fun c_9 => xk_ab c_9 ((by decide : ¬ (1 : Int32) < 0))) (fun c_9 => ?_)
  refine lv_iload_n hx hb dX4_beat_12 rfl (lv_at hl 3 rfl) ?_
  refine lv_iconst (v := 1) hx hb dX4_beat_13 (by decide) ?_
  refine lv_icmp_le (tgt := 21) hx hb dX4_beat_14 (by decide) (fun c_14 => ?_) (fun c_14 => xk_ba c_14 ((by decide : (1 : Int32) ≤ 1)))
  refine lv_aload_n hx hb dX4_beat_21 rfl (lv_at hl 0 rfl) ?_
  refine va_get (D := D) (ci := 4) (v := .ref q0) (C := RX4) (T := TX4) (N := 5) hx hb hts in_X4_beat_1_X4 hown hK hP 0 rfl rfl 3 (by decide) hf33 (fun _ h9 => h9) rfl dX4_beat_22 ?_
  refine lv_iload_n hx hb dX4_beat_25 rfl (lv_at hl 1 rfl) ?_
  refine lv_iload_n hx hb dX4_beat_26 rfl (lv_at hl 2 rfl) ?_
  have hPc := hP.sub (ws' := [(q0, .inr (1, [.ref q1, .int na, .int nb, .int (nI mm), .int (nI cn)])), (q1, .inl (cyI, 128, .inl ky))]) [1, 2] rfl
  have hDc := hD.sub (ws' := [(q0, .inr (1, [.ref q1, .int na, .int nb, .int (nI mm), .int (nI cn)])), (q1, .inl (cyI, 128, .inl ky))]) [1, 2] (by decide) rfl
  refine xk_calli (wr := [(d0, .inr (4, [.ref s0, .ref t0, .ref r0, .ref q0, .int bk]))]) (w2 := [(d0, .inr (4, [.ref s0, .ref t0, .ref r0, .ref q0, .int bk])), (q0, .inr (1, [.ref q1, .int na, .int nb, .int (nI mm), .int (nI cn)])), (q1, .inl (cyI, 128, .inl ky))]) (va_runV (As := [.int x, .int y]) (rest := []) hC0 (ct_X1_beatAbove l D cyI cyZ q0 q1 _ ky na nb mm cn x y ) (cwV 2 hts gX4_beat_X1_beatAbove rfl rfl rfl (by decide +kernel) ⟨Nat.le_of_ble_eq_true rfl, Nat.le_of_ble_eq_true rfl⟩) ⟨xk_blind, va_recv hK hPc (ci := 1) (q0 := 0) rfl rfl, xk_pre hK hN hPc hDc⟩ rfl rfl hl.1 rfl (lv_room (Nat.le_of_ble_eq_true rfl)) dX4_beat_27 ⟨Nat.le_of_ble_eq_true rfl, Nat.le_of_ble_eq_true rfl⟩) hP hD hS hA [1, 2] [0] [0, 1, 2] rfl rfl (by decide) (by decide) rfl (by decide) (fun H locs hP hD hS => ?_)
  refine xk_topi (y := nI ab) (hab) ?_
  refine lv_istore (lv' := [(4, .int (nI ab)), (0, .ref d0), (1, .int x), (2, .int y), (3, .int 1)]) hx hb dX4_beat_30 hl (by decide) rfl (fun ls hl => ?_)
  refine lv_aload_n hx hb dX4_beat_32 rfl (lv_at hl 1 rfl) ?_
  refine va_get (D := D) (ci := 4) (v := .ref q0) (C := RX4) (T := TX4) (N := 5) hx hb hts in_X4_beat_1_X4 hown hK hP 0 rfl rfl 3 (by decide) hf33 (fun _ h9 => h9) rfl dX4_beat_33 ?_
  refine lv_iload_n hx hb dX4_beat_36 rfl (lv_at hl 2 rfl) ?_
  refine lv_iload_n hx hb dX4_beat_37 rfl (lv_at hl 3 rfl) ?_
  have hPc := hP.sub (ws' := [(q0, .inr (1, [.ref q1, .int na, .int nb, .int (nI mm), .int (nI cn)])), (q1, .inl (cyI, 128, .inl ky))]) [1, 2] rfl
  have hDc := hD.sub (ws' := [(q0, .inr (1, [.ref q1, .int na, .int nb, .int (nI mm), .int (nI cn)])), (q1, .inl (cyI, 128, .inl ky))]) [1, 2] (by decide) rfl
  refine xk_calli (wr := [(d0, .inr (4, [.ref s0, .ref t0, .ref r0, .ref q0, .int bk]))]) (w2 := [(d0, .inr (4, [.ref s0, .ref t0, .ref r0, .ref q0, .int bk])), (q0, .inr (1, [.ref q1, .int na, .int nb, .int (nI mm), .int (nI cn)])), (q1, .inl (cyI, 128, .inl ky))]) (va_runV (As := [.int x, .int y]) (rest := []) hC0 (ct_X1_beatBelow l D cyI cyZ q0 q1 _ ky na nb mm cn x y ) (cwV 2 hts gX4_beat_X1_beatBelow rfl rfl rfl (by decide +kernel) ⟨Nat.le_of_ble_eq_true rfl, Nat.le_of_ble_eq_true rfl⟩) ⟨xk_blind, va_recv hK hPc (ci := 1) (q0 := 0) rfl rfl, xk_pre hK hN hPc hDc⟩ rfl rfl hl.1 rfl (lv_room (Nat.le_of_ble_eq_true rfl)) dX4_beat_38 ⟨Nat.le_of_ble_eq_true rfl, Nat.le_of_ble_eq_true rfl⟩) hP hD hS hA [1, 2] [0] [0, 1, 2] rfl rfl (by decide) (by decide) rfl (by decide) (fun H locs hP hD hS => ?_)
  refine xk_topi (y := nI bl) (hbl) ?_
  refine lv_istore (lv' := [(5, .int (nI bl)), (4, .int (nI ab)), (0, .ref d0), (1, .int x), (2, .int y), (3, .int 1)]) hx hb dX4_beat_41 hl (by decide) rfl (fun ls hl => ?_)
  refine lv_iload hx hb dX4_beat_43 (lv_at hl 1 rfl) ?_
  refine lv_iload hx hb dX4_beat_45 (lv_at hl 0 rfl) ?_
  have hPc := hP.sub (ws' := []) [] rfl
  have hDc := hD.sub (ws' := []) [] (by decide) rfl
  refine xk_calli (wr := [(d0, .inr (4, [.ref s0, .ref t0, .ref r0, .ref q0, .int bk])), (q0, .inr (1, [.ref q1, .int na, .int nb, .int (nI mm), .int (nI cn)])), (q1, .inl (cyI, 128, .inl ky))]) (w2 := [(d0, .inr (4, [.ref s0, .ref t0, .ref r0, .ref q0, .int bk])), (q0, .inr (1, [.ref q1, .int na, .int nb, .int (nI mm), .int (nI cn)])), (q1, .inl (cyI, 128, .inl ky))]) (va_runS (As := [.int (nI ab), .int (nI bl)]) (rest := []) hC0 (ct_X4_commonDivisor l D cyI cyZ  _ ab bl (by first | assumption | omega) (by first | assumption | omega)) (va_cwS 2 hts gX4_beat_X4_commonDivisor rfl rfl rfl (by decide +kernel) ⟨Nat.le_of_ble_eq_true rfl, Nat.le_of_ble_eq_true rfl⟩) ⟨xk_blind, xk_pre hK hN hPc hDc⟩ rfl rfl hl.1 rfl (lv_room (Nat.le_of_ble_eq_true rfl)) dX4_beat_47 ⟨Nat.le_of_ble_eq_true rfl, Nat.le_of_ble_eq_true rfl⟩) hP hD hS hA [] [0, 1, 2] [0, 1, 2] rfl rfl (by decide) (by decide) rfl (by decide) (fun H locs hP hD hS => ?_)
  refine lv_istore (lv' := [(6, .int (nI (Nat.gcd ab bl))), (5, .int (nI bl)), (4, .int (nI ab)), (0, .ref d0), (1, .int x), (2, .int y), (3, .int 1)]) hx hb dX4_beat_50 hl (by decide) rfl (fun ls hl => ?_)
  refine lv_iload_n hx hb dX4_beat_52 rfl (lv_at hl 6 rfl) ?_
  refine lv_if_ne (tgt := 61) hx hb dX4_beat_53 (by decide) (fun c_53 => ?_) (fun c_53 => xk_ab c_53 ((by decide : ¬ (1 : Int32) = 0)))
  refine lv_iload hx hb dX4_beat_61 (lv_at hl 1 rfl) ?_
  refine lv_istore (lv' := [(7, .int (nI bl)), (6, .int (nI (Nat.gcd ab bl))), (5, .int (nI bl)), (4, .int (nI ab)), (0, .ref d0), (1, .int x), (2, .int y), (3, .int 1)]) hx hb dX4_beat_63 hl (by decide) rfl (fun ls hl => ?_)
  refine lv_iload hx hb dX4_beat_65 (lv_at hl 1 rfl) ?_
  refine lv_iconst (v := 1) hx hb dX4_beat_67 (by decide) ?_
  refine lv_icmp_ge (tgt := 77) hx hb dX4_beat_68 (by decide) (fun c_68 => ?_) (fun c_68 => xk_ba c_68 (nI_le (a := 1) hg1 (by omega)))
  refine lv_iload hx hb dX4_beat_77 (lv_at hl 0 rfl) ?_
  refine lv_iload hx hb dX4_beat_79 (lv_at hl 1 rfl) ?_
  refine lv_idiv hx hb dX4_beat_81 (nI_ne0 hg1 (by omega)) ?_
  refine xk_topi (y := nI (bl / Nat.gcd ab bl)) (pk_div (by omega) hg1 (by omega)) ?_
  refine lv_i2l hx hb dX4_beat_82 rfl ?_
  exact xk_lret hx hb hr hlocks hP hD hS (rfl) (rfl) dX4_beat_83

abbrev rm_X4_best : Room := { frames := 2, cells := 0, slots := 0, locals := 39 }
theorem in_X4_best_X4 : ∀ w ∈ u_ws RX4 TX4 5, w ∈ wsX4_best := by decide +kernel
set_option maxHeartbeats 4000000 in
set_option maxRecDepth 100000 in
theorem ct_X4_best (l : Launch) (D : va_G) (cyI cyZ : ClassId) (d0 s0 t0 r0 q0 q1 : Nat) (sz : Nat) (bk : Int32) (ky : Nat → Int32) (na nb : Int32) (mm cn : Nat)   : Met l yX4_best wsX4_best rm_X4_best (xk_Pc D cyI cyZ [.ref d0] [(d0, .inr (4, [.ref s0, .ref t0, .ref r0, .ref q0, .int bk])), (q0, .inr (1, [.ref q1, .int na, .int nb, .int (nI mm), .int (nI cn)])), (q1, .inl (cyI, 128, .inl ky))] sz) (xk_Qi D (va_A [(d0, .inr (4, [.ref s0, .ref t0, .ref r0, .ref q0, .int bk])), (q0, .inr (1, [.ref q1, .int na, .int nb, .int (nI mm), .int (nI cn)])), (q1, .inl (cyI, 128, .inl ky))] sz) (10 * nI (bsO na nb mm 8).1 + nI (bsO na nb mm 8).2) [(d0, .inr (4, [.ref s0, .ref t0, .ref r0, .ref q0, .int bk])), (q0, .inr (1, [.ref q1, .int na, .int nb, .int (nI mm), .int (nI cn)])), (q1, .inl (cyI, 128, .inl ky))]) 0 0 (va_A [(d0, .inr (4, [.ref s0, .ref t0, .ref r0, .ref q0, .int bk])), (q0, .inr (1, [.ref q1, .int na, .int nb, .int (nI mm), .int (nI cn)])), (q1, .inl (cyI, 128, .inl ky))] sz) := by
  refine xk_of (own := RX4) (cc := cX4_best) (maxL := 9) (ret := (some .int)) (Qc := fun A => xk_Qi D A (10 * nI (bsO na nb mm 8).1 + nI (bsO na nb mm 8).2) [(d0, .inr (4, [.ref s0, .ref t0, .ref r0, .ref q0, .int bk])), (q0, .inr (1, [.ref q1, .int na, .int nb, .int (nI mm), .int (nI cn)])), (q1, .inl (cyI, 128, .inl ky))]) (by decide) rfl rfl (Nat.le_of_ble_eq_true rfl) ?_
  intro p e s m below meth c A ls hx hb hr hml hown hlocks hin hts hA hP hK hN hD hS hl
  have hC0 := xk_fix hx hb hml hown hts
  have hl : lv_has ls 9 [(0, .ref d0)] := hl
  have hf33 := hts (.fieldLink RX4 33 "DotPress" "lattice" "LDotPress$Lattice;") (by decide +kernel)
  refine lv_iconst (v := 1) hx hb dX4_best_0 (by decide) ?_
  refine lv_istore_n (lv' := [(1, .int 1), (0, .ref d0)]) hx hb dX4_best_1 rfl hl (by decide) rfl (fun ls hl => ?_)
  refine lv_iconst (v := 0) hx hb dX4_best_2 (by decide) ?_
  refine lv_istore_n (lv' := [(2, .int 0), (1, .int 1), (0, .ref d0)]) hx hb dX4_best_3 rfl hl (by decide) rfl (fun ls hl => ?_)
  refine lv_iconst (v := 1) hx hb dX4_best_4 (by decide) ?_
  refine lv_istore_n (lv' := [(3, .int 1), (2, .int 0), (1, .int 1), (0, .ref d0)]) hx hb dX4_best_5 rfl hl (by decide) rfl (fun ls hl => ?_)
  have L6 : ∀ (n ci : Nat), ci + n = 8 → ∀ (H : Heap) (locs : List Loc) (ls : Array Slot), va_P D vwCl [(d0, .inr (4, [.ref s0, .ref t0, .ref r0, .ref q0, .int bk])), (q0, .inr (1, [.ref q1, .int na, .int nb, .int (nI mm), .int (nI cn)])), (q1, .inl (cyI, 128, .inl ky))] H → va_D A [(d0, .inr (4, [.ref s0, .ref t0, .ref r0, .ref q0, .int bk])), (q0, .inr (1, [.ref q1, .int na, .int nb, .int (nI mm), .int (nI cn)])), (q1, .inl (cyI, 128, .inl ky))] → va_S A s.heap H locs → lv_has ls 9 [(0, .ref d0), (1, .int (nI (bsO na nb mm ci).1)), (2, .int (nI (bsO na nb mm ci).2)), (3, .int (nI (ci + 1)))] → W p l e rm_X4_best s m ([.ref d0] : List Value).toArray below meth c H locs 0 0 (MQ below (xk_Qi D A (10 * nI (bsO na nb mm 8).1 + nI (bsO na nb mm 8).2) [(d0, .inr (4, [.ref s0, .ref t0, .ref r0, .ref q0, .int bk])), (q0, .inr (1, [.ref q1, .int na, .int nb, .int (nI mm), .int (nI cn)])), (q1, .inl (cyI, 128, .inl ky))]) ([.ref d0] : List Value).toArray s 0 0 A) (F0 m 6 ls []) := by
    intro n
    induction n with
    | zero =>
      intro ci hk_6  H locs ls hP hD hS hl
      have hz_6 : 8 = ci := hk_6.symm
      subst hz_6
      refine lv_iload_n hx hb dX4_best_6 rfl (lv_at hl 3 rfl) ?_
      refine lv_bipush (v := 8) hx hb dX4_best_7 (by decide) ?_
      refine lv_icmp_gt (tgt := 95) hx hb dX4_best_9 (by decide) (fun c_9 => ?_) (fun c_9 => xk_ba c_9 ((by decide : (8 : Int32) < nI (8 + 1))))
      refine lv_bipush (v := 10) hx hb dX4_best_95 (by decide) ?_
      refine lv_iload_n hx hb dX4_best_97 rfl (lv_at hl 1 rfl) ?_
      refine lv_imul hx hb dX4_best_98 ?_
      refine lv_iload_n hx hb dX4_best_99 rfl (lv_at hl 2 rfl) ?_
      refine lv_iadd hx hb dX4_best_100 ?_
      exact xk_iret hx hb hr hlocks hP hD hS (rfl) (rfl) dX4_best_101
    | succ n ih_6 =>
      intro ci hk_6  H locs ls hP hD hS hl
      refine lv_iload_n hx hb dX4_best_6 rfl (lv_at hl 3 rfl) ?_
      refine lv_bipush (v := 8) hx hb dX4_best_7 (by decide) ?_
      refine lv_icmp_gt (tgt := 95) hx hb dX4_best_9 (by decide) (fun c_9 => xk_ab c_9 (rg_hi (hi := 8) (by omega) (by decide))) (fun c_9 => ?_)
      refine lv_iconst (v := 0) hx hb dX4_best_12 (by decide) ?_
      refine lv_istore (lv' := [(4, .int 0), (0, .ref d0), (1, .int (nI (bsO na nb mm ci).1)), (2, .int (nI (bsO na nb mm ci).2)), (3, .int (nI (ci + 1)))]) hx hb dX4_best_13 hl (by decide) rfl (fun ls hl => ?_)
      have L15 : ∀ (n di : Nat), di + n = 9 → ∀ (H : Heap) (locs : List Loc) (ls : Array Slot), va_P D vwCl [(d0, .inr (4, [.ref s0, .ref t0, .ref r0, .ref q0, .int bk])), (q0, .inr (1, [.ref q1, .int na, .int nb, .int (nI mm), .int (nI cn)])), (q1, .inl (cyI, 128, .inl ky))] H → va_D A [(d0, .inr (4, [.ref s0, .ref t0, .ref r0, .ref q0, .int bk])), (q0, .inr (1, [.ref q1, .int na, .int nb, .int (nI mm), .int (nI cn)])), (q1, .inl (cyI, 128, .inl ky))] → va_S A s.heap H locs → lv_has ls 9 [(0, .ref d0), (1, .int (nI (bsI na nb mm (ci + 1) (bsO na nb mm ci) di).1)), (2, .int (nI (bsI na nb mm (ci + 1) (bsO na nb mm ci) di).2)), (3, .int (nI (ci + 1))), (4, .int (nI di))] → W p l e rm_X4_best s m ([.ref d0] : List Value).toArray below meth c H locs 0 0 (MQ below (xk_Qi D A (10 * nI (bsO na nb mm 8).1 + nI (bsO na nb mm 8).2) [(d0, .inr (4, [.ref s0, .ref t0, .ref r0, .ref q0, .int bk])), (q0, .inr (1, [.ref q1, .int na, .int nb, .int (nI mm), .int (nI cn)])), (q1, .inl (cyI, 128, .inl ky))]) ([.ref d0] : List Value).toArray s 0 0 A) (F0 m 15 ls []) := by
        intro n
        induction n with
        | zero =>
          intro di hk_15  H locs ls hP hD hS hl
          have hz_15 : 9 = di := hk_15.symm
          subst hz_15
          refine lv_iload hx hb dX4_best_15 (lv_at hl 4 rfl) ?_
          refine lv_bipush (v := 8) hx hb dX4_best_17 (by decide) ?_
          refine lv_icmp_gt (tgt := 89) hx hb dX4_best_19 (by decide) (fun c_19 => ?_) (fun c_19 => xk_ba c_19 ((by decide : (8 : Int32) < nI 9)))
          refine lv_iinc (v := nI (ci + 1 + 1)) (lv' := [(3, .int (nI (ci + 1 + 1))), (0, .ref d0), (1, .int (nI (bsI na nb mm (ci + 1) (bsO na nb mm ci) 9).1)), (2, .int (nI (bsI na nb mm (ci + 1) (bsO na nb mm ci) 9).2)), (4, .int (nI 9))]) hx hb dX4_best_89 hl (k := 3) rfl (nI_1 _) (by decide) rfl (fun ls hl => ?_)
          refine lv_goto (tgt := 6) hx hb dX4_best_92 (by decide) ?_
          have eq_41 : (nI (bsI na nb mm (ci + 1) (bsO na nb mm ci) 9).1 : Int32) = nI (bsO na nb mm (ci + 1)).1 := rfl
          have eq_42 : (nI (bsI na nb mm (ci + 1) (bsO na nb mm ci) 9).2 : Int32) = nI (bsO na nb mm (ci + 1)).2 := rfl
          have eq_43 : (nI (ci + 1 + 1) : Int32) = nI ((ci + 1) + 1) := rfl
          have hl := lv_sub (l' := [(0, .ref d0), (1, .int (nI (bsI na nb mm (ci + 1) (bsO na nb mm ci) 9).1)), (2, .int (nI (bsI na nb mm (ci + 1) (bsO na nb mm ci) 9).2)), (3, .int (nI (ci + 1 + 1)))]) hl [1, 2, 3, 0] rfl
          have eL : ([(0, .ref d0), (1, .int (nI (bsI na nb mm (ci + 1) (bsO na nb mm ci) 9).1)), (2, .int (nI (bsI na nb mm (ci + 1) (bsO na nb mm ci) 9).2)), (3, .int (nI (ci + 1 + 1)))] : List (Nat × Value)) = [(0, .ref d0), (1, .int (nI (bsO na nb mm (ci + 1)).1)), (2, .int (nI (bsO na nb mm (ci + 1)).2)), (3, .int (nI ((ci + 1) + 1)))] := (congrArg (List.cons _) (congr (congrArg List.cons (congrArg (fun z => (((1 : Nat), Value.int z) : Nat × Value)) eq_41)) (congr (congrArg List.cons (congrArg (fun z => (((2 : Nat), Value.int z) : Nat × Value)) eq_42)) (congr (congrArg List.cons (congrArg (fun z => (((3 : Nat), Value.int z) : Nat × Value)) eq_43)) rfl))))
          rw [eL] at hl
          exact ih_6 (ci + 1) (by omega)  _ _ _ hP hD hS hl
        | succ n ih_15 =>
          intro di hk_15  H locs ls hP hD hS hl
          refine lv_iload hx hb dX4_best_15 (lv_at hl 4 rfl) ?_
          refine lv_bipush (v := 8) hx hb dX4_best_17 (by decide) ?_
          refine lv_icmp_gt (tgt := 89) hx hb dX4_best_19 (by decide) (fun c_19 => xk_ab c_19 (rg_hi (hi := 8) (by omega) (by decide))) (fun c_19 => ?_)
          refine lv_aload_n hx hb dX4_best_22 rfl (lv_at hl 0 rfl) ?_
          refine va_get (D := D) (ci := 4) (v := .ref q0) (C := RX4) (T := TX4) (N := 5) hx hb hts in_X4_best_X4 hown hK hP 0 rfl rfl 3 (by decide) hf33 (fun _ h9 => h9) rfl dX4_best_23 ?_
          refine lv_iload_n hx hb dX4_best_26 rfl (lv_at hl 3 rfl) ?_
          refine lv_iload hx hb dX4_best_27 (lv_at hl 4 rfl) ?_
          have hPc := hP.sub (ws' := [(q0, .inr (1, [.ref q1, .int na, .int nb, .int (nI mm), .int (nI cn)])), (q1, .inl (cyI, 128, .inl ky))]) [1, 2] rfl
          have hDc := hD.sub (ws' := [(q0, .inr (1, [.ref q1, .int na, .int nb, .int (nI mm), .int (nI cn)])), (q1, .inl (cyI, 128, .inl ky))]) [1, 2] (by decide) rfl
          refine xk_calli (wr := [(d0, .inr (4, [.ref s0, .ref t0, .ref r0, .ref q0, .int bk]))]) (w2 := [(d0, .inr (4, [.ref s0, .ref t0, .ref r0, .ref q0, .int bk])), (q0, .inr (1, [.ref q1, .int na, .int nb, .int (nI mm), .int (nI cn)])), (q1, .inl (cyI, 128, .inl ky))]) (va_runV (As := [.int (nI (ci + 1)), .int (nI di)]) (rest := []) hC0 (ct_X1_beatAbove l D cyI cyZ q0 q1 _ ky na nb mm cn (nI (ci + 1)) (nI di) ) (cwV 2 hts gX4_best_X1_beatAbove rfl rfl rfl (by decide +kernel) ⟨Nat.le_of_ble_eq_true rfl, Nat.le_of_ble_eq_true rfl⟩) ⟨xk_blind, va_recv hK hPc (ci := 1) (q0 := 0) rfl rfl, xk_pre hK hN hPc hDc⟩ rfl rfl hl.1 rfl (lv_room (Nat.le_of_ble_eq_true rfl)) dX4_best_29 ⟨Nat.le_of_ble_eq_true rfl, Nat.le_of_ble_eq_true rfl⟩) hP hD hS hA [1, 2] [0] [0, 1, 2] rfl rfl (by decide) (by decide) rfl (by decide) (fun H locs hP hD hS => ?_)
          refine lv_i2l hx hb dX4_best_32 rfl ?_
          refine lv_aload_n hx hb dX4_best_33 rfl (lv_at hl 0 rfl) ?_
          refine va_get (D := D) (ci := 4) (v := .ref q0) (C := RX4) (T := TX4) (N := 5) hx hb hts in_X4_best_X4 hown hK hP 0 rfl rfl 3 (by decide) hf33 (fun _ h9 => h9) rfl dX4_best_34 ?_
          refine lv_iload_n hx hb dX4_best_37 rfl (lv_at hl 1 rfl) ?_
          refine lv_iload_n hx hb dX4_best_38 rfl (lv_at hl 2 rfl) ?_
          have hPc := hP.sub (ws' := [(q0, .inr (1, [.ref q1, .int na, .int nb, .int (nI mm), .int (nI cn)])), (q1, .inl (cyI, 128, .inl ky))]) [1, 2] rfl
          have hDc := hD.sub (ws' := [(q0, .inr (1, [.ref q1, .int na, .int nb, .int (nI mm), .int (nI cn)])), (q1, .inl (cyI, 128, .inl ky))]) [1, 2] (by decide) rfl
          refine xk_calli (wr := [(d0, .inr (4, [.ref s0, .ref t0, .ref r0, .ref q0, .int bk]))]) (w2 := [(d0, .inr (4, [.ref s0, .ref t0, .ref r0, .ref q0, .int bk])), (q0, .inr (1, [.ref q1, .int na, .int nb, .int (nI mm), .int (nI cn)])), (q1, .inl (cyI, 128, .inl ky))]) (va_runV (As := [.int (nI (bsI na nb mm (ci + 1) (bsO na nb mm ci) di).1), .int (nI (bsI na nb mm (ci + 1) (bsO na nb mm ci) di).2)]) (rest := [.long ((btA na nb mm (nI (ci + 1)) (nI di)).toInt64)]) hC0 (ct_X1_beatBelow l D cyI cyZ q0 q1 _ ky na nb mm cn (nI (bsI na nb mm (ci + 1) (bsO na nb mm ci) di).1) (nI (bsI na nb mm (ci + 1) (bsO na nb mm ci) di).2) ) (cwV 2 hts gX4_best_X1_beatBelow rfl rfl rfl (by decide +kernel) ⟨Nat.le_of_ble_eq_true rfl, Nat.le_of_ble_eq_true rfl⟩) ⟨xk_blind, va_recv hK hPc (ci := 1) (q0 := 0) rfl rfl, xk_pre hK hN hPc hDc⟩ rfl rfl hl.1 rfl (lv_room (Nat.le_of_ble_eq_true rfl)) dX4_best_39 ⟨Nat.le_of_ble_eq_true rfl, Nat.le_of_ble_eq_true rfl⟩) hP hD hS hA [1, 2] [0] [0, 1, 2] rfl rfl (by decide) (by decide) rfl (by decide) (fun H locs hP hD hS => ?_)
          refine lv_i2l hx hb dX4_best_42 rfl ?_
          refine lv_lmul hx hb dX4_best_43 ?_
          refine lv_lstore (lv' := [(5, .long ((btA na nb mm (nI (ci + 1)) (nI di)).toInt64 * (btB mm (nI (bsI na nb mm (ci + 1) (bsO na nb mm ci) di).1) (nI (bsI na nb mm (ci + 1) (bsO na nb mm ci) di).2)).toInt64)), (0, .ref d0), (1, .int (nI (bsI na nb mm (ci + 1) (bsO na nb mm ci) di).1)), (2, .int (nI (bsI na nb mm (ci + 1) (bsO na nb mm ci) di).2)), (3, .int (nI (ci + 1))), (4, .int (nI di))]) hx hb dX4_best_44 hl (by decide) rfl (fun ls hl => ?_)
          refine lv_aload_n hx hb dX4_best_46 rfl (lv_at hl 1 rfl) ?_
          refine va_get (D := D) (ci := 4) (v := .ref q0) (C := RX4) (T := TX4) (N := 5) hx hb hts in_X4_best_X4 hown hK hP 0 rfl rfl 3 (by decide) hf33 (fun _ h9 => h9) rfl dX4_best_47 ?_
          refine lv_iload_n hx hb dX4_best_50 rfl (lv_at hl 2 rfl) ?_
          refine lv_iload_n hx hb dX4_best_51 rfl (lv_at hl 3 rfl) ?_
          have hPc := hP.sub (ws' := [(q0, .inr (1, [.ref q1, .int na, .int nb, .int (nI mm), .int (nI cn)])), (q1, .inl (cyI, 128, .inl ky))]) [1, 2] rfl
          have hDc := hD.sub (ws' := [(q0, .inr (1, [.ref q1, .int na, .int nb, .int (nI mm), .int (nI cn)])), (q1, .inl (cyI, 128, .inl ky))]) [1, 2] (by decide) rfl
          refine xk_calli (wr := [(d0, .inr (4, [.ref s0, .ref t0, .ref r0, .ref q0, .int bk]))]) (w2 := [(d0, .inr (4, [.ref s0, .ref t0, .ref r0, .ref q0, .int bk])), (q0, .inr (1, [.ref q1, .int na, .int nb, .int (nI mm), .int (nI cn)])), (q1, .inl (cyI, 128, .inl ky))]) (va_runV (As := [.int (nI (bsI na nb mm (ci + 1) (bsO na nb mm ci) di).1), .int (nI (bsI na nb mm (ci + 1) (bsO na nb mm ci) di).2)]) (rest := []) hC0 (ct_X1_beatAbove l D cyI cyZ q0 q1 _ ky na nb mm cn (nI (bsI na nb mm (ci + 1) (bsO na nb mm ci) di).1) (nI (bsI na nb mm (ci + 1) (bsO na nb mm ci) di).2) ) (cwV 2 hts gX4_best_X1_beatAbove rfl rfl rfl (by decide +kernel) ⟨Nat.le_of_ble_eq_true rfl, Nat.le_of_ble_eq_true rfl⟩) ⟨xk_blind, va_recv hK hPc (ci := 1) (q0 := 0) rfl rfl, xk_pre hK hN hPc hDc⟩ rfl rfl hl.1 rfl (lv_room (Nat.le_of_ble_eq_true rfl)) dX4_best_52 ⟨Nat.le_of_ble_eq_true rfl, Nat.le_of_ble_eq_true rfl⟩) hP hD hS hA [1, 2] [0] [0, 1, 2] rfl rfl (by decide) (by decide) rfl (by decide) (fun H locs hP hD hS => ?_)
          refine lv_i2l hx hb dX4_best_55 rfl ?_
          refine lv_aload_n hx hb dX4_best_56 rfl (lv_at hl 1 rfl) ?_
          refine va_get (D := D) (ci := 4) (v := .ref q0) (C := RX4) (T := TX4) (N := 5) hx hb hts in_X4_best_X4 hown hK hP 0 rfl rfl 3 (by decide) hf33 (fun _ h9 => h9) rfl dX4_best_57 ?_
          refine lv_iload_n hx hb dX4_best_60 rfl (lv_at hl 4 rfl) ?_
          refine lv_iload hx hb dX4_best_61 (lv_at hl 5 rfl) ?_
          have hPc := hP.sub (ws' := [(q0, .inr (1, [.ref q1, .int na, .int nb, .int (nI mm), .int (nI cn)])), (q1, .inl (cyI, 128, .inl ky))]) [1, 2] rfl
          have hDc := hD.sub (ws' := [(q0, .inr (1, [.ref q1, .int na, .int nb, .int (nI mm), .int (nI cn)])), (q1, .inl (cyI, 128, .inl ky))]) [1, 2] (by decide) rfl
          refine xk_calli (wr := [(d0, .inr (4, [.ref s0, .ref t0, .ref r0, .ref q0, .int bk]))]) (w2 := [(d0, .inr (4, [.ref s0, .ref t0, .ref r0, .ref q0, .int bk])), (q0, .inr (1, [.ref q1, .int na, .int nb, .int (nI mm), .int (nI cn)])), (q1, .inl (cyI, 128, .inl ky))]) (va_runV (As := [.int (nI (ci + 1)), .int (nI di)]) (rest := [.long ((btA na nb mm (nI (bsI na nb mm (ci + 1) (bsO na nb mm ci) di).1) (nI (bsI na nb mm (ci + 1) (bsO na nb mm ci) di).2)).toInt64)]) hC0 (ct_X1_beatBelow l D cyI cyZ q0 q1 _ ky na nb mm cn (nI (ci + 1)) (nI di) ) (cwV 2 hts gX4_best_X1_beatBelow rfl rfl rfl (by decide +kernel) ⟨Nat.le_of_ble_eq_true rfl, Nat.le_of_ble_eq_true rfl⟩) ⟨xk_blind, va_recv hK hPc (ci := 1) (q0 := 0) rfl rfl, xk_pre hK hN hPc hDc⟩ rfl rfl hl.1 rfl (lv_room (Nat.le_of_ble_eq_true rfl)) dX4_best_63 ⟨Nat.le_of_ble_eq_true rfl, Nat.le_of_ble_eq_true rfl⟩) hP hD hS hA [1, 2] [0] [0, 1, 2] rfl rfl (by decide) (by decide) rfl (by decide) (fun H locs hP hD hS => ?_)
          refine lv_i2l hx hb dX4_best_66 rfl ?_
          refine lv_lmul hx hb dX4_best_67 ?_
          refine lv_lstore (lv' := [(7, .long ((btA na nb mm (nI (bsI na nb mm (ci + 1) (bsO na nb mm ci) di).1) (nI (bsI na nb mm (ci + 1) (bsO na nb mm ci) di).2)).toInt64 * (btB mm (nI (ci + 1)) (nI di)).toInt64)), (5, .long ((btA na nb mm (nI (ci + 1)) (nI di)).toInt64 * (btB mm (nI (bsI na nb mm (ci + 1) (bsO na nb mm ci) di).1) (nI (bsI na nb mm (ci + 1) (bsO na nb mm ci) di).2)).toInt64)), (0, .ref d0), (1, .int (nI (bsI na nb mm (ci + 1) (bsO na nb mm ci) di).1)), (2, .int (nI (bsI na nb mm (ci + 1) (bsO na nb mm ci) di).2)), (3, .int (nI (ci + 1))), (4, .int (nI di))]) hx hb dX4_best_68 hl (by decide) rfl (fun ls hl => ?_)
          refine lv_lload hx hb dX4_best_70 (lv_at hl 1 rfl) ?_
          refine lv_lload hx hb dX4_best_72 (lv_at hl 0 rfl) ?_
          refine W.lcmp hx hb dX4_best_74 ?_
          refine lv_if_le (tgt := 83) hx hb dX4_best_75 (by decide) (fun c_75 => ?_) (fun c_75 => ?_)
          · have c_75 : bsW na nb mm (ci + 1) di (bsI na nb mm (ci + 1) (bsO na nb mm ci) di) := (lg_cmp_le _ _).mp c_75
            refine lv_iinc (v := nI (di + 1)) (lv' := [(4, .int (nI (di + 1))), (7, .long ((btA na nb mm (nI (bsI na nb mm (ci + 1) (bsO na nb mm ci) di).1) (nI (bsI na nb mm (ci + 1) (bsO na nb mm ci) di).2)).toInt64 * (btB mm (nI (ci + 1)) (nI di)).toInt64)), (5, .long ((btA na nb mm (nI (ci + 1)) (nI di)).toInt64 * (btB mm (nI (bsI na nb mm (ci + 1) (bsO na nb mm ci) di).1) (nI (bsI na nb mm (ci + 1) (bsO na nb mm ci) di).2)).toInt64)), (0, .ref d0), (1, .int (nI (bsI na nb mm (ci + 1) (bsO na nb mm ci) di).1)), (2, .int (nI (bsI na nb mm (ci + 1) (bsO na nb mm ci) di).2)), (3, .int (nI (ci + 1)))]) hx hb dX4_best_83 hl (k := 6) rfl (nI_1 _) (by decide) rfl (fun ls hl => ?_)
            refine lv_goto (tgt := 15) hx hb dX4_best_86 (by decide) ?_
            have eq_96 : (nI (bsI na nb mm (ci + 1) (bsO na nb mm ci) di).1 : Int32) = nI (bsI na nb mm (ci + 1) (bsO na nb mm ci) (di + 1)).1 := by rw [bsI_t c_75]
            have eq_97 : (nI (bsI na nb mm (ci + 1) (bsO na nb mm ci) di).2 : Int32) = nI (bsI na nb mm (ci + 1) (bsO na nb mm ci) (di + 1)).2 := by rw [bsI_t c_75]
            have hl := lv_sub (l' := [(0, .ref d0), (1, .int (nI (bsI na nb mm (ci + 1) (bsO na nb mm ci) di).1)), (2, .int (nI (bsI na nb mm (ci + 1) (bsO na nb mm ci) di).2)), (3, .int (nI (ci + 1))), (4, .int (nI (di + 1)))]) hl [3, 4, 5, 6, 0] rfl
            have eL : ([(0, .ref d0), (1, .int (nI (bsI na nb mm (ci + 1) (bsO na nb mm ci) di).1)), (2, .int (nI (bsI na nb mm (ci + 1) (bsO na nb mm ci) di).2)), (3, .int (nI (ci + 1))), (4, .int (nI (di + 1)))] : List (Nat × Value)) = [(0, .ref d0), (1, .int (nI (bsI na nb mm (ci + 1) (bsO na nb mm ci) (di + 1)).1)), (2, .int (nI (bsI na nb mm (ci + 1) (bsO na nb mm ci) (di + 1)).2)), (3, .int (nI (ci + 1))), (4, .int (nI (di + 1)))] := (congrArg (List.cons _) (congr (congrArg List.cons (congrArg (fun z => (((1 : Nat), Value.int z) : Nat × Value)) eq_96)) (congr (congrArg List.cons (congrArg (fun z => (((2 : Nat), Value.int z) : Nat × Value)) eq_97)) (congrArg (List.cons _) (congrArg (List.cons _) rfl)))))
            rw [eL] at hl
            exact ih_15 (di + 1) (by omega)  _ _ _ hP hD hS hl
          · have c_75 : ¬ bsW na nb mm (ci + 1) di (bsI na nb mm (ci + 1) (bsO na nb mm ci) di) := fun h => c_75 ((lg_cmp_le _ _).mpr h)
            refine lv_iload_n hx hb dX4_best_78 rfl (lv_at hl 5 rfl) ?_
            refine lv_istore_n (lv' := [(1, .int (nI (ci + 1))), (7, .long ((btA na nb mm (nI (bsI na nb mm (ci + 1) (bsO na nb mm ci) di).1) (nI (bsI na nb mm (ci + 1) (bsO na nb mm ci) di).2)).toInt64 * (btB mm (nI (ci + 1)) (nI di)).toInt64)), (5, .long ((btA na nb mm (nI (ci + 1)) (nI di)).toInt64 * (btB mm (nI (bsI na nb mm (ci + 1) (bsO na nb mm ci) di).1) (nI (bsI na nb mm (ci + 1) (bsO na nb mm ci) di).2)).toInt64)), (0, .ref d0), (2, .int (nI (bsI na nb mm (ci + 1) (bsO na nb mm ci) di).2)), (3, .int (nI (ci + 1))), (4, .int (nI di))]) hx hb dX4_best_79 rfl hl (by decide) rfl (fun ls hl => ?_)
            refine lv_iload hx hb dX4_best_80 (lv_at hl 6 rfl) ?_
            refine lv_istore_n (lv' := [(2, .int (nI di)), (1, .int (nI (ci + 1))), (7, .long ((btA na nb mm (nI (bsI na nb mm (ci + 1) (bsO na nb mm ci) di).1) (nI (bsI na nb mm (ci + 1) (bsO na nb mm ci) di).2)).toInt64 * (btB mm (nI (ci + 1)) (nI di)).toInt64)), (5, .long ((btA na nb mm (nI (ci + 1)) (nI di)).toInt64 * (btB mm (nI (bsI na nb mm (ci + 1) (bsO na nb mm ci) di).1) (nI (bsI na nb mm (ci + 1) (bsO na nb mm ci) di).2)).toInt64)), (0, .ref d0), (3, .int (nI (ci + 1))), (4, .int (nI di))]) hx hb dX4_best_82 rfl hl (by decide) rfl (fun ls hl => ?_)
            refine lv_iinc (v := nI (di + 1)) (lv' := [(4, .int (nI (di + 1))), (2, .int (nI di)), (1, .int (nI (ci + 1))), (7, .long ((btA na nb mm (nI (bsI na nb mm (ci + 1) (bsO na nb mm ci) di).1) (nI (bsI na nb mm (ci + 1) (bsO na nb mm ci) di).2)).toInt64 * (btB mm (nI (ci + 1)) (nI di)).toInt64)), (5, .long ((btA na nb mm (nI (ci + 1)) (nI di)).toInt64 * (btB mm (nI (bsI na nb mm (ci + 1) (bsO na nb mm ci) di).1) (nI (bsI na nb mm (ci + 1) (bsO na nb mm ci) di).2)).toInt64)), (0, .ref d0), (3, .int (nI (ci + 1)))]) hx hb dX4_best_83 hl (k := 6) rfl (nI_1 _) (by decide) rfl (fun ls hl => ?_)
            refine lv_goto (tgt := 15) hx hb dX4_best_86 (by decide) ?_
            have eq_109 : (nI (ci + 1) : Int32) = nI (bsI na nb mm (ci + 1) (bsO na nb mm ci) (di + 1)).1 := by rw [bsI_f c_75]
            have eq_110 : (nI di : Int32) = nI (bsI na nb mm (ci + 1) (bsO na nb mm ci) (di + 1)).2 := by rw [bsI_f c_75]
            have hl := lv_sub (l' := [(0, .ref d0), (1, .int (nI (ci + 1))), (2, .int (nI di)), (3, .int (nI (ci + 1))), (4, .int (nI (di + 1)))]) hl [5, 2, 1, 6, 0] rfl
            have eL : ([(0, .ref d0), (1, .int (nI (ci + 1))), (2, .int (nI di)), (3, .int (nI (ci + 1))), (4, .int (nI (di + 1)))] : List (Nat × Value)) = [(0, .ref d0), (1, .int (nI (bsI na nb mm (ci + 1) (bsO na nb mm ci) (di + 1)).1)), (2, .int (nI (bsI na nb mm (ci + 1) (bsO na nb mm ci) (di + 1)).2)), (3, .int (nI (ci + 1))), (4, .int (nI (di + 1)))] := (congrArg (List.cons _) (congr (congrArg List.cons (congrArg (fun z => (((1 : Nat), Value.int z) : Nat × Value)) eq_109)) (congr (congrArg List.cons (congrArg (fun z => (((2 : Nat), Value.int z) : Nat × Value)) eq_110)) (congrArg (List.cons _) (congrArg (List.cons _) rfl)))))
            rw [eL] at hl
            exact ih_15 (di + 1) (by omega)  _ _ _ hP hD hS hl
      have eq_115 : (nI (bsO na nb mm ci).1 : Int32) = nI (bsI na nb mm (ci + 1) (bsO na nb mm ci) 0).1 := rfl
      have eq_116 : (nI (bsO na nb mm ci).2 : Int32) = nI (bsI na nb mm (ci + 1) (bsO na nb mm ci) 0).2 := rfl
      have eq_117 : (0 : Int32) = nI 0 := rfl
      have hl := lv_sub (l' := [(0, .ref d0), (1, .int (nI (bsO na nb mm ci).1)), (2, .int (nI (bsO na nb mm ci).2)), (3, .int (nI (ci + 1))), (4, .int 0)]) hl [1, 2, 3, 4, 0] rfl
      have eL : ([(0, .ref d0), (1, .int (nI (bsO na nb mm ci).1)), (2, .int (nI (bsO na nb mm ci).2)), (3, .int (nI (ci + 1))), (4, .int 0)] : List (Nat × Value)) = [(0, .ref d0), (1, .int (nI (bsI na nb mm (ci + 1) (bsO na nb mm ci) 0).1)), (2, .int (nI (bsI na nb mm (ci + 1) (bsO na nb mm ci) 0).2)), (3, .int (nI (ci + 1))), (4, .int (nI 0))] := (congrArg (List.cons _) (congr (congrArg List.cons (congrArg (fun z => (((1 : Nat), Value.int z) : Nat × Value)) eq_115)) (congr (congrArg List.cons (congrArg (fun z => (((2 : Nat), Value.int z) : Nat × Value)) eq_116)) (congrArg (List.cons _) (congr (congrArg List.cons (congrArg (fun z => (((4 : Nat), Value.int z) : Nat × Value)) eq_117)) rfl)))))
      rw [eL] at hl
      exact L15 _ 0 (Nat.zero_add _)  _ _ _ hP hD hS hl
  have eq_122 : (1 : Int32) = nI (bsO na nb mm 0).1 := rfl
  have eq_123 : (0 : Int32) = nI (bsO na nb mm 0).2 := rfl
  have eq_124 : (1 : Int32) = nI (0 + 1) := rfl
  have hl := lv_sub (l' := [(0, .ref d0), (1, .int 1), (2, .int 0), (3, .int 1)]) hl [3, 2, 1, 0] rfl
  have eL : ([(0, .ref d0), (1, .int 1), (2, .int 0), (3, .int 1)] : List (Nat × Value)) = [(0, .ref d0), (1, .int (nI (bsO na nb mm 0).1)), (2, .int (nI (bsO na nb mm 0).2)), (3, .int (nI (0 + 1)))] := (congrArg (List.cons _) (congr (congrArg List.cons (congrArg (fun z => (((1 : Nat), Value.int z) : Nat × Value)) eq_122)) (congr (congrArg List.cons (congrArg (fun z => (((2 : Nat), Value.int z) : Nat × Value)) eq_123)) (congr (congrArg List.cons (congrArg (fun z => (((3 : Nat), Value.int z) : Nat × Value)) eq_124)) rfl))))
  rw [eL] at hl
  exact L6 _ 0 (Nat.zero_add _)  _ _ _ hP hD hS hl

abbrev rm_X4_count_0 : Room := { frames := 1, cells := 0, slots := 0, locals := 20 }
theorem in_X4_count_0_X4 : ∀ w ∈ u_ws RX4 TX4 5, w ∈ wsX4_count := by decide +kernel
set_option maxHeartbeats 4000000 in
set_option maxRecDepth 100000 in
theorem ct_X4_count_0 (l : Launch) (D : va_G) (cyI cyZ : ClassId) (d0 s0 t0 r0 q0 s1 s2 : Nat) (sz : Nat) (bk : Int32) (Wd Hh : Nat) (g ln : Nat → Int32)   : Met l yX4_count wsX4_count rm_X4_count_0 (xk_Pc D cyI cyZ [.ref d0, .int 0] [(d0, .inr (4, [.ref s0, .ref t0, .ref r0, .ref q0, .int bk])), (s0, .inr (2, [.ref s1, .ref s2, .int (nI Wd), .int (nI Hh)])), (s1, .inl (cyI, 576, .inl g)), (s2, .inl (cyZ, 576, .inl ln))] sz) (xk_Qi D (va_A [(d0, .inr (4, [.ref s0, .ref t0, .ref r0, .ref q0, .int bk])), (s0, .inr (2, [.ref s1, .ref s2, .int (nI Wd), .int (nI Hh)])), (s1, .inl (cyI, 576, .inl g)), (s2, .inl (cyZ, 576, .inl ln))] sz) (nI Wd) [(d0, .inr (4, [.ref s0, .ref t0, .ref r0, .ref q0, .int bk])), (s0, .inr (2, [.ref s1, .ref s2, .int (nI Wd), .int (nI Hh)])), (s1, .inl (cyI, 576, .inl g)), (s2, .inl (cyZ, 576, .inl ln))]) 0 0 (va_A [(d0, .inr (4, [.ref s0, .ref t0, .ref r0, .ref q0, .int bk])), (s0, .inr (2, [.ref s1, .ref s2, .int (nI Wd), .int (nI Hh)])), (s1, .inl (cyI, 576, .inl g)), (s2, .inl (cyZ, 576, .inl ln))] sz) := by
  refine xk_of (own := RX4) (cc := cX4_count) (maxL := 2) (ret := (some .int)) (Qc := fun A => xk_Qi D A (nI Wd) [(d0, .inr (4, [.ref s0, .ref t0, .ref r0, .ref q0, .int bk])), (s0, .inr (2, [.ref s1, .ref s2, .int (nI Wd), .int (nI Hh)])), (s1, .inl (cyI, 576, .inl g)), (s2, .inl (cyZ, 576, .inl ln))]) (by decide) rfl rfl (Nat.le_of_ble_eq_true rfl) ?_
  intro p e s m below meth c A ls hx hb hr hml hown hlocks hin hts hA hP hK hN hD hS hl
  have hC0 := xk_fix hx hb hml hown hts
  have hl : lv_has ls 2 [(0, .ref d0), (1, .int 0)] := hl
  have hf10 := hts (.fieldLink RX4 10 "DotPress" "sheet" "LDotPress$Sheet;") (by decide +kernel)
  refine lv_iload_n hx hb dX4_count_0 rfl (lv_at hl 1 rfl) ?_
  refine lv_tableIn (off := 47) (tgt := 48) hx hb dX4_count_1 (by decide) (by decide) (by decide) (by decide) ?_
  refine lv_aload_n hx hb dX4_count_48 rfl (lv_at hl 0 rfl) ?_
  refine va_get (D := D) (ci := 4) (v := .ref s0) (C := RX4) (T := TX4) (N := 5) hx hb hts in_X4_count_0_X4 hown hK hP 0 rfl rfl 0 (by decide) hf10 (fun _ h9 => h9) rfl dX4_count_49 ?_
  have hPc := hP.sub (ws' := [(s0, .inr (2, [.ref s1, .ref s2, .int (nI Wd), .int (nI Hh)])), (s1, .inl (cyI, 576, .inl g)), (s2, .inl (cyZ, 576, .inl ln))]) [1, 2, 3] rfl
  have hDc := hD.sub (ws' := [(s0, .inr (2, [.ref s1, .ref s2, .int (nI Wd), .int (nI Hh)])), (s1, .inl (cyI, 576, .inl g)), (s2, .inl (cyZ, 576, .inl ln))]) [1, 2, 3] (by decide) rfl
  refine xk_calli (wr := [(d0, .inr (4, [.ref s0, .ref t0, .ref r0, .ref q0, .int bk]))]) (w2 := [(d0, .inr (4, [.ref s0, .ref t0, .ref r0, .ref q0, .int bk])), (s0, .inr (2, [.ref s1, .ref s2, .int (nI Wd), .int (nI Hh)])), (s1, .inl (cyI, 576, .inl g)), (s2, .inl (cyZ, 576, .inl ln))]) (va_runV (As := []) (rest := []) hC0 (ct_X2_width l D cyI cyZ s0 s1 s2 _ Wd Hh g ln ) (cwV 0 hts gX4_count_X2_width rfl rfl rfl (by decide +kernel) ⟨Nat.le_of_ble_eq_true rfl, Nat.le_of_ble_eq_true rfl⟩) ⟨xk_blind, va_recv hK hPc (ci := 2) (q0 := 0) rfl rfl, xk_pre hK hN hPc hDc⟩ rfl rfl hl.1 rfl (lv_room (Nat.le_of_ble_eq_true rfl)) dX4_count_52 ⟨Nat.le_of_ble_eq_true rfl, Nat.le_of_ble_eq_true rfl⟩) hP hD hS hA [1, 2, 3] [0] [0, 1, 2, 3] rfl rfl (by decide) (by decide) rfl (by decide) (fun H locs hP hD hS => ?_)
  exact xk_iret hx hb hr hlocks hP hD hS (rfl) (rfl) dX4_count_55

abbrev rm_X4_count_1 : Room := { frames := 1, cells := 0, slots := 0, locals := 20 }
theorem in_X4_count_1_X4 : ∀ w ∈ u_ws RX4 TX4 5, w ∈ wsX4_count := by decide +kernel
set_option maxHeartbeats 4000000 in
set_option maxRecDepth 100000 in
theorem ct_X4_count_1 (l : Launch) (D : va_G) (cyI cyZ : ClassId) (d0 s0 t0 r0 q0 s1 s2 : Nat) (sz : Nat) (bk : Int32) (Wd Hh : Nat) (g ln : Nat → Int32)   : Met l yX4_count wsX4_count rm_X4_count_1 (xk_Pc D cyI cyZ [.ref d0, .int 1] [(d0, .inr (4, [.ref s0, .ref t0, .ref r0, .ref q0, .int bk])), (s0, .inr (2, [.ref s1, .ref s2, .int (nI Wd), .int (nI Hh)])), (s1, .inl (cyI, 576, .inl g)), (s2, .inl (cyZ, 576, .inl ln))] sz) (xk_Qi D (va_A [(d0, .inr (4, [.ref s0, .ref t0, .ref r0, .ref q0, .int bk])), (s0, .inr (2, [.ref s1, .ref s2, .int (nI Wd), .int (nI Hh)])), (s1, .inl (cyI, 576, .inl g)), (s2, .inl (cyZ, 576, .inl ln))] sz) (nI Hh) [(d0, .inr (4, [.ref s0, .ref t0, .ref r0, .ref q0, .int bk])), (s0, .inr (2, [.ref s1, .ref s2, .int (nI Wd), .int (nI Hh)])), (s1, .inl (cyI, 576, .inl g)), (s2, .inl (cyZ, 576, .inl ln))]) 0 0 (va_A [(d0, .inr (4, [.ref s0, .ref t0, .ref r0, .ref q0, .int bk])), (s0, .inr (2, [.ref s1, .ref s2, .int (nI Wd), .int (nI Hh)])), (s1, .inl (cyI, 576, .inl g)), (s2, .inl (cyZ, 576, .inl ln))] sz) := by
  refine xk_of (own := RX4) (cc := cX4_count) (maxL := 2) (ret := (some .int)) (Qc := fun A => xk_Qi D A (nI Hh) [(d0, .inr (4, [.ref s0, .ref t0, .ref r0, .ref q0, .int bk])), (s0, .inr (2, [.ref s1, .ref s2, .int (nI Wd), .int (nI Hh)])), (s1, .inl (cyI, 576, .inl g)), (s2, .inl (cyZ, 576, .inl ln))]) (by decide) rfl rfl (Nat.le_of_ble_eq_true rfl) ?_
  intro p e s m below meth c A ls hx hb hr hml hown hlocks hin hts hA hP hK hN hD hS hl
  have hC0 := xk_fix hx hb hml hown hts
  have hl : lv_has ls 2 [(0, .ref d0), (1, .int 1)] := hl
  have hf10 := hts (.fieldLink RX4 10 "DotPress" "sheet" "LDotPress$Sheet;") (by decide +kernel)
  refine lv_iload_n hx hb dX4_count_0 rfl (lv_at hl 1 rfl) ?_
  refine lv_tableIn (off := 55) (tgt := 56) hx hb dX4_count_1 (by decide) (by decide) (by decide) (by decide) ?_
  refine lv_aload_n hx hb dX4_count_56 rfl (lv_at hl 0 rfl) ?_
  refine va_get (D := D) (ci := 4) (v := .ref s0) (C := RX4) (T := TX4) (N := 5) hx hb hts in_X4_count_1_X4 hown hK hP 0 rfl rfl 0 (by decide) hf10 (fun _ h9 => h9) rfl dX4_count_57 ?_
  have hPc := hP.sub (ws' := [(s0, .inr (2, [.ref s1, .ref s2, .int (nI Wd), .int (nI Hh)])), (s1, .inl (cyI, 576, .inl g)), (s2, .inl (cyZ, 576, .inl ln))]) [1, 2, 3] rfl
  have hDc := hD.sub (ws' := [(s0, .inr (2, [.ref s1, .ref s2, .int (nI Wd), .int (nI Hh)])), (s1, .inl (cyI, 576, .inl g)), (s2, .inl (cyZ, 576, .inl ln))]) [1, 2, 3] (by decide) rfl
  refine xk_calli (wr := [(d0, .inr (4, [.ref s0, .ref t0, .ref r0, .ref q0, .int bk]))]) (w2 := [(d0, .inr (4, [.ref s0, .ref t0, .ref r0, .ref q0, .int bk])), (s0, .inr (2, [.ref s1, .ref s2, .int (nI Wd), .int (nI Hh)])), (s1, .inl (cyI, 576, .inl g)), (s2, .inl (cyZ, 576, .inl ln))]) (va_runV (As := []) (rest := []) hC0 (ct_X2_height l D cyI cyZ s0 s1 s2 _ Wd Hh g ln ) (cwV 0 hts gX4_count_X2_height rfl rfl rfl (by decide +kernel) ⟨Nat.le_of_ble_eq_true rfl, Nat.le_of_ble_eq_true rfl⟩) ⟨xk_blind, va_recv hK hPc (ci := 2) (q0 := 0) rfl rfl, xk_pre hK hN hPc hDc⟩ rfl rfl hl.1 rfl (lv_room (Nat.le_of_ble_eq_true rfl)) dX4_count_60 ⟨Nat.le_of_ble_eq_true rfl, Nat.le_of_ble_eq_true rfl⟩) hP hD hS hA [1, 2, 3] [0] [0, 1, 2, 3] rfl rfl (by decide) (by decide) rfl (by decide) (fun H locs hP hD hS => ?_)
  exact xk_iret hx hb hr hlocks hP hD hS (rfl) (rfl) dX4_count_63

abbrev rm_X4_count_2 : Room := { frames := 1, cells := 0, slots := 0, locals := 22 }
theorem in_X4_count_2_X4 : ∀ w ∈ u_ws RX4 TX4 5, w ∈ wsX4_count := by decide +kernel
set_option maxHeartbeats 4000000 in
set_option maxRecDepth 100000 in
theorem ct_X4_count_2 (l : Launch) (D : va_G) (cyI cyZ : ClassId) (d0 s0 t0 r0 q0 s1 s2 : Nat) (sz : Nat) (bk : Int32) (Wd Hh : Nat) (g ln : Nat → Int32)   : Met l yX4_count wsX4_count rm_X4_count_2 (xk_Pc D cyI cyZ [.ref d0, .int 2] [(d0, .inr (4, [.ref s0, .ref t0, .ref r0, .ref q0, .int bk])), (s0, .inr (2, [.ref s1, .ref s2, .int (nI Wd), .int (nI Hh)])), (s1, .inl (cyI, 576, .inl g)), (s2, .inl (cyZ, 576, .inl ln))] sz) (xk_Qi D (va_A [(d0, .inr (4, [.ref s0, .ref t0, .ref r0, .ref q0, .int bk])), (s0, .inr (2, [.ref s1, .ref s2, .int (nI Wd), .int (nI Hh)])), (s1, .inl (cyI, 576, .inl g)), (s2, .inl (cyZ, 576, .inl ln))] sz) (cL ln 576) [(d0, .inr (4, [.ref s0, .ref t0, .ref r0, .ref q0, .int bk])), (s0, .inr (2, [.ref s1, .ref s2, .int (nI Wd), .int (nI Hh)])), (s1, .inl (cyI, 576, .inl g)), (s2, .inl (cyZ, 576, .inl ln))]) 0 0 (va_A [(d0, .inr (4, [.ref s0, .ref t0, .ref r0, .ref q0, .int bk])), (s0, .inr (2, [.ref s1, .ref s2, .int (nI Wd), .int (nI Hh)])), (s1, .inl (cyI, 576, .inl g)), (s2, .inl (cyZ, 576, .inl ln))] sz) := by
  refine xk_of (own := RX4) (cc := cX4_count) (maxL := 2) (ret := (some .int)) (Qc := fun A => xk_Qi D A (cL ln 576) [(d0, .inr (4, [.ref s0, .ref t0, .ref r0, .ref q0, .int bk])), (s0, .inr (2, [.ref s1, .ref s2, .int (nI Wd), .int (nI Hh)])), (s1, .inl (cyI, 576, .inl g)), (s2, .inl (cyZ, 576, .inl ln))]) (by decide) rfl rfl (Nat.le_of_ble_eq_true rfl) ?_
  intro p e s m below meth c A ls hx hb hr hml hown hlocks hin hts hA hP hK hN hD hS hl
  have hC0 := xk_fix hx hb hml hown hts
  have hl : lv_has ls 2 [(0, .ref d0), (1, .int 2)] := hl
  have hf10 := hts (.fieldLink RX4 10 "DotPress" "sheet" "LDotPress$Sheet;") (by decide +kernel)
  refine lv_iload_n hx hb dX4_count_0 rfl (lv_at hl 1 rfl) ?_
  refine lv_tableIn (off := 63) (tgt := 64) hx hb dX4_count_1 (by decide) (by decide) (by decide) (by decide) ?_
  refine lv_aload_n hx hb dX4_count_64 rfl (lv_at hl 0 rfl) ?_
  refine va_get (D := D) (ci := 4) (v := .ref s0) (C := RX4) (T := TX4) (N := 5) hx hb hts in_X4_count_2_X4 hown hK hP 0 rfl rfl 0 (by decide) hf10 (fun _ h9 => h9) rfl dX4_count_65 ?_
  have hPc := hP.sub (ws' := [(s0, .inr (2, [.ref s1, .ref s2, .int (nI Wd), .int (nI Hh)])), (s1, .inl (cyI, 576, .inl g)), (s2, .inl (cyZ, 576, .inl ln))]) [1, 2, 3] rfl
  have hDc := hD.sub (ws' := [(s0, .inr (2, [.ref s1, .ref s2, .int (nI Wd), .int (nI Hh)])), (s1, .inl (cyI, 576, .inl g)), (s2, .inl (cyZ, 576, .inl ln))]) [1, 2, 3] (by decide) rfl
  refine xk_calli (wr := [(d0, .inr (4, [.ref s0, .ref t0, .ref r0, .ref q0, .int bk]))]) (w2 := [(d0, .inr (4, [.ref s0, .ref t0, .ref r0, .ref q0, .int bk])), (s0, .inr (2, [.ref s1, .ref s2, .int (nI Wd), .int (nI Hh)])), (s1, .inl (cyI, 576, .inl g)), (s2, .inl (cyZ, 576, .inl ln))]) (va_runV (As := []) (rest := []) hC0 (ct_X2_lineCount l D cyI cyZ s0 s1 s2 _ Wd Hh g ln ) (cwV 0 hts gX4_count_X2_lineCount rfl rfl rfl (by decide +kernel) ⟨Nat.le_of_ble_eq_true rfl, Nat.le_of_ble_eq_true rfl⟩) ⟨xk_blind, va_recv hK hPc (ci := 2) (q0 := 0) rfl rfl, xk_pre hK hN hPc hDc⟩ rfl rfl hl.1 rfl (lv_room (Nat.le_of_ble_eq_true rfl)) dX4_count_68 ⟨Nat.le_of_ble_eq_true rfl, Nat.le_of_ble_eq_true rfl⟩) hP hD hS hA [1, 2, 3] [0] [0, 1, 2, 3] rfl rfl (by decide) (by decide) rfl (by decide) (fun H locs hP hD hS => ?_)
  exact xk_iret hx hb hr hlocks hP hD hS (rfl) (rfl) dX4_count_71

abbrev rm_X4_count_3 : Room := { frames := 1, cells := 0, slots := 0, locals := 22 }
theorem in_X4_count_3_X4 : ∀ w ∈ u_ws RX4 TX4 5, w ∈ wsX4_count := by decide +kernel
set_option maxHeartbeats 4000000 in
set_option maxRecDepth 100000 in
theorem ct_X4_count_3 (l : Launch) (D : va_G) (cyI cyZ : ClassId) (d0 s0 t0 r0 q0 s1 s2 : Nat) (sz : Nat) (bk : Int32) (Wd Hh : Nat) (g ln : Nat → Int32)   : Met l yX4_count wsX4_count rm_X4_count_3 (xk_Pc D cyI cyZ [.ref d0, .int 3] [(d0, .inr (4, [.ref s0, .ref t0, .ref r0, .ref q0, .int bk])), (s0, .inr (2, [.ref s1, .ref s2, .int (nI Wd), .int (nI Hh)])), (s1, .inl (cyI, 576, .inl g)), (s2, .inl (cyZ, 576, .inl ln))] sz) (xk_Qi D (va_A [(d0, .inr (4, [.ref s0, .ref t0, .ref r0, .ref q0, .int bk])), (s0, .inr (2, [.ref s1, .ref s2, .int (nI Wd), .int (nI Hh)])), (s1, .inl (cyI, 576, .inl g)), (s2, .inl (cyZ, 576, .inl ln))] sz) (sG g ln 576) [(d0, .inr (4, [.ref s0, .ref t0, .ref r0, .ref q0, .int bk])), (s0, .inr (2, [.ref s1, .ref s2, .int (nI Wd), .int (nI Hh)])), (s1, .inl (cyI, 576, .inl g)), (s2, .inl (cyZ, 576, .inl ln))]) 0 0 (va_A [(d0, .inr (4, [.ref s0, .ref t0, .ref r0, .ref q0, .int bk])), (s0, .inr (2, [.ref s1, .ref s2, .int (nI Wd), .int (nI Hh)])), (s1, .inl (cyI, 576, .inl g)), (s2, .inl (cyZ, 576, .inl ln))] sz) := by
  refine xk_of (own := RX4) (cc := cX4_count) (maxL := 2) (ret := (some .int)) (Qc := fun A => xk_Qi D A (sG g ln 576) [(d0, .inr (4, [.ref s0, .ref t0, .ref r0, .ref q0, .int bk])), (s0, .inr (2, [.ref s1, .ref s2, .int (nI Wd), .int (nI Hh)])), (s1, .inl (cyI, 576, .inl g)), (s2, .inl (cyZ, 576, .inl ln))]) (by decide) rfl rfl (Nat.le_of_ble_eq_true rfl) ?_
  intro p e s m below meth c A ls hx hb hr hml hown hlocks hin hts hA hP hK hN hD hS hl
  have hC0 := xk_fix hx hb hml hown hts
  have hl : lv_has ls 2 [(0, .ref d0), (1, .int 3)] := hl
  have hf10 := hts (.fieldLink RX4 10 "DotPress" "sheet" "LDotPress$Sheet;") (by decide +kernel)
  refine lv_iload_n hx hb dX4_count_0 rfl (lv_at hl 1 rfl) ?_
  refine lv_tableIn (off := 71) (tgt := 72) hx hb dX4_count_1 (by decide) (by decide) (by decide) (by decide) ?_
  refine lv_aload_n hx hb dX4_count_72 rfl (lv_at hl 0 rfl) ?_
  refine va_get (D := D) (ci := 4) (v := .ref s0) (C := RX4) (T := TX4) (N := 5) hx hb hts in_X4_count_3_X4 hown hK hP 0 rfl rfl 0 (by decide) hf10 (fun _ h9 => h9) rfl dX4_count_73 ?_
  have hPc := hP.sub (ws' := [(s0, .inr (2, [.ref s1, .ref s2, .int (nI Wd), .int (nI Hh)])), (s1, .inl (cyI, 576, .inl g)), (s2, .inl (cyZ, 576, .inl ln))]) [1, 2, 3] rfl
  have hDc := hD.sub (ws' := [(s0, .inr (2, [.ref s1, .ref s2, .int (nI Wd), .int (nI Hh)])), (s1, .inl (cyI, 576, .inl g)), (s2, .inl (cyZ, 576, .inl ln))]) [1, 2, 3] (by decide) rfl
  refine xk_calli (wr := [(d0, .inr (4, [.ref s0, .ref t0, .ref r0, .ref q0, .int bk]))]) (w2 := [(d0, .inr (4, [.ref s0, .ref t0, .ref r0, .ref q0, .int bk])), (s0, .inr (2, [.ref s1, .ref s2, .int (nI Wd), .int (nI Hh)])), (s1, .inl (cyI, 576, .inl g)), (s2, .inl (cyZ, 576, .inl ln))]) (va_runV (As := []) (rest := []) hC0 (ct_X2_greySum l D cyI cyZ s0 s1 s2 _ Wd Hh g ln ) (cwV 0 hts gX4_count_X2_greySum rfl rfl rfl (by decide +kernel) ⟨Nat.le_of_ble_eq_true rfl, Nat.le_of_ble_eq_true rfl⟩) ⟨xk_blind, va_recv hK hPc (ci := 2) (q0 := 0) rfl rfl, xk_pre hK hN hPc hDc⟩ rfl rfl hl.1 rfl (lv_room (Nat.le_of_ble_eq_true rfl)) dX4_count_76 ⟨Nat.le_of_ble_eq_true rfl, Nat.le_of_ble_eq_true rfl⟩) hP hD hS hA [1, 2, 3] [0] [0, 1, 2, 3] rfl rfl (by decide) (by decide) rfl (by decide) (fun H locs hP hD hS => ?_)
  exact xk_iret hx hb hr hlocks hP hD hS (rfl) (rfl) dX4_count_79

abbrev rm_X4_count_4 : Room := { frames := 1, cells := 0, slots := 0, locals := 20 }
theorem in_X4_count_4_X4 : ∀ w ∈ u_ws RX4 TX4 5, w ∈ wsX4_count := by decide +kernel
set_option maxHeartbeats 4000000 in
set_option maxRecDepth 100000 in
theorem ct_X4_count_4 (l : Launch) (D : va_G) (cyI cyZ : ClassId) (d0 s0 t0 r0 q0 t1 t2 t3 : Nat) (sz : Nat) (bk : Int32) (nn : Nat) (nu sp ne : Nat → Int32)   : Met l yX4_count wsX4_count rm_X4_count_4 (xk_Pc D cyI cyZ [.ref d0, .int 4] [(d0, .inr (4, [.ref s0, .ref t0, .ref r0, .ref q0, .int bk])), (t0, .inr (3, [.ref t1, .ref t2, .ref t3, .int (nI nn)])), (t1, .inl (cyI, 64, .inl nu)), (t2, .inl (cyI, 64, .inl sp)), (t3, .inl (cyI, 225, .inl ne))] sz) (xk_Qi D (va_A [(d0, .inr (4, [.ref s0, .ref t0, .ref r0, .ref q0, .int bk])), (t0, .inr (3, [.ref t1, .ref t2, .ref t3, .int (nI nn)])), (t1, .inl (cyI, 64, .inl nu)), (t2, .inl (cyI, 64, .inl sp)), (t3, .inl (cyI, 225, .inl ne))] sz) (nI nn) [(d0, .inr (4, [.ref s0, .ref t0, .ref r0, .ref q0, .int bk])), (t0, .inr (3, [.ref t1, .ref t2, .ref t3, .int (nI nn)])), (t1, .inl (cyI, 64, .inl nu)), (t2, .inl (cyI, 64, .inl sp)), (t3, .inl (cyI, 225, .inl ne))]) 0 0 (va_A [(d0, .inr (4, [.ref s0, .ref t0, .ref r0, .ref q0, .int bk])), (t0, .inr (3, [.ref t1, .ref t2, .ref t3, .int (nI nn)])), (t1, .inl (cyI, 64, .inl nu)), (t2, .inl (cyI, 64, .inl sp)), (t3, .inl (cyI, 225, .inl ne))] sz) := by
  refine xk_of (own := RX4) (cc := cX4_count) (maxL := 2) (ret := (some .int)) (Qc := fun A => xk_Qi D A (nI nn) [(d0, .inr (4, [.ref s0, .ref t0, .ref r0, .ref q0, .int bk])), (t0, .inr (3, [.ref t1, .ref t2, .ref t3, .int (nI nn)])), (t1, .inl (cyI, 64, .inl nu)), (t2, .inl (cyI, 64, .inl sp)), (t3, .inl (cyI, 225, .inl ne))]) (by decide) rfl rfl (Nat.le_of_ble_eq_true rfl) ?_
  intro p e s m below meth c A ls hx hb hr hml hown hlocks hin hts hA hP hK hN hD hS hl
  have hC0 := xk_fix hx hb hml hown hts
  have hl : lv_has ls 2 [(0, .ref d0), (1, .int 4)] := hl
  have hf19 := hts (.fieldLink RX4 19 "DotPress" "steps" "LDotPress$Steps;") (by decide +kernel)
  refine lv_iload_n hx hb dX4_count_0 rfl (lv_at hl 1 rfl) ?_
  refine lv_tableIn (off := 79) (tgt := 80) hx hb dX4_count_1 (by decide) (by decide) (by decide) (by decide) ?_
  refine lv_aload_n hx hb dX4_count_80 rfl (lv_at hl 0 rfl) ?_
  refine va_get (D := D) (ci := 4) (v := .ref t0) (C := RX4) (T := TX4) (N := 5) hx hb hts in_X4_count_4_X4 hown hK hP 0 rfl rfl 1 (by decide) hf19 (fun _ h9 => h9) rfl dX4_count_81 ?_
  have hPc := hP.sub (ws' := [(t0, .inr (3, [.ref t1, .ref t2, .ref t3, .int (nI nn)])), (t1, .inl (cyI, 64, .inl nu)), (t2, .inl (cyI, 64, .inl sp)), (t3, .inl (cyI, 225, .inl ne))]) [1, 2, 3, 4] rfl
  have hDc := hD.sub (ws' := [(t0, .inr (3, [.ref t1, .ref t2, .ref t3, .int (nI nn)])), (t1, .inl (cyI, 64, .inl nu)), (t2, .inl (cyI, 64, .inl sp)), (t3, .inl (cyI, 225, .inl ne))]) [1, 2, 3, 4] (by decide) rfl
  refine xk_calli (wr := [(d0, .inr (4, [.ref s0, .ref t0, .ref r0, .ref q0, .int bk]))]) (w2 := [(d0, .inr (4, [.ref s0, .ref t0, .ref r0, .ref q0, .int bk])), (t0, .inr (3, [.ref t1, .ref t2, .ref t3, .int (nI nn)])), (t1, .inl (cyI, 64, .inl nu)), (t2, .inl (cyI, 64, .inl sp)), (t3, .inl (cyI, 225, .inl ne))]) (va_runV (As := []) (rest := []) hC0 (ct_X3_side l D cyI cyZ t0 t1 t2 t3 _ nn nu sp ne ) (cwV 0 hts gX4_count_X3_side rfl rfl rfl (by decide +kernel) ⟨Nat.le_of_ble_eq_true rfl, Nat.le_of_ble_eq_true rfl⟩) ⟨xk_blind, va_recv hK hPc (ci := 3) (q0 := 0) rfl rfl, xk_pre hK hN hPc hDc⟩ rfl rfl hl.1 rfl (lv_room (Nat.le_of_ble_eq_true rfl)) dX4_count_84 ⟨Nat.le_of_ble_eq_true rfl, Nat.le_of_ble_eq_true rfl⟩) hP hD hS hA [1, 2, 3, 4] [0] [0, 1, 2, 3, 4] rfl rfl (by decide) (by decide) rfl (by decide) (fun H locs hP hD hS => ?_)
  exact xk_iret hx hb hr hlocks hP hD hS (rfl) (rfl) dX4_count_87

abbrev rm_X4_count_5 : Room := { frames := 1, cells := 0, slots := 0, locals := 20 }
theorem in_X4_count_5_X4 : ∀ w ∈ u_ws RX4 TX4 5, w ∈ wsX4_count := by decide +kernel
set_option maxHeartbeats 4000000 in
set_option maxRecDepth 100000 in
theorem ct_X4_count_5 (l : Launch) (D : va_G) (cyI cyZ : ClassId) (d0 s0 t0 r0 q0 q1 : Nat) (sz : Nat) (bk : Int32) (ky : Nat → Int32) (na nb : Int32) (mm cn : Nat)   : Met l yX4_count wsX4_count rm_X4_count_5 (xk_Pc D cyI cyZ [.ref d0, .int 5] [(d0, .inr (4, [.ref s0, .ref t0, .ref r0, .ref q0, .int bk])), (q0, .inr (1, [.ref q1, .int na, .int nb, .int (nI mm), .int (nI cn)])), (q1, .inl (cyI, 128, .inl ky))] sz) (xk_Qi D (va_A [(d0, .inr (4, [.ref s0, .ref t0, .ref r0, .ref q0, .int bk])), (q0, .inr (1, [.ref q1, .int na, .int nb, .int (nI mm), .int (nI cn)])), (q1, .inl (cyI, 128, .inl ky))] sz) (nI mm) [(d0, .inr (4, [.ref s0, .ref t0, .ref r0, .ref q0, .int bk])), (q0, .inr (1, [.ref q1, .int na, .int nb, .int (nI mm), .int (nI cn)])), (q1, .inl (cyI, 128, .inl ky))]) 0 0 (va_A [(d0, .inr (4, [.ref s0, .ref t0, .ref r0, .ref q0, .int bk])), (q0, .inr (1, [.ref q1, .int na, .int nb, .int (nI mm), .int (nI cn)])), (q1, .inl (cyI, 128, .inl ky))] sz) := by
  refine xk_of (own := RX4) (cc := cX4_count) (maxL := 2) (ret := (some .int)) (Qc := fun A => xk_Qi D A (nI mm) [(d0, .inr (4, [.ref s0, .ref t0, .ref r0, .ref q0, .int bk])), (q0, .inr (1, [.ref q1, .int na, .int nb, .int (nI mm), .int (nI cn)])), (q1, .inl (cyI, 128, .inl ky))]) (by decide) rfl rfl (Nat.le_of_ble_eq_true rfl) ?_
  intro p e s m below meth c A ls hx hb hr hml hown hlocks hin hts hA hP hK hN hD hS hl
  have hC0 := xk_fix hx hb hml hown hts
  have hl : lv_has ls 2 [(0, .ref d0), (1, .int 5)] := hl
  have hf33 := hts (.fieldLink RX4 33 "DotPress" "lattice" "LDotPress$Lattice;") (by decide +kernel)
  refine lv_iload_n hx hb dX4_count_0 rfl (lv_at hl 1 rfl) ?_
  refine lv_tableIn (off := 87) (tgt := 88) hx hb dX4_count_1 (by decide) (by decide) (by decide) (by decide) ?_
  refine lv_aload_n hx hb dX4_count_88 rfl (lv_at hl 0 rfl) ?_
  refine va_get (D := D) (ci := 4) (v := .ref q0) (C := RX4) (T := TX4) (N := 5) hx hb hts in_X4_count_5_X4 hown hK hP 0 rfl rfl 3 (by decide) hf33 (fun _ h9 => h9) rfl dX4_count_89 ?_
  have hPc := hP.sub (ws' := [(q0, .inr (1, [.ref q1, .int na, .int nb, .int (nI mm), .int (nI cn)])), (q1, .inl (cyI, 128, .inl ky))]) [1, 2] rfl
  have hDc := hD.sub (ws' := [(q0, .inr (1, [.ref q1, .int na, .int nb, .int (nI mm), .int (nI cn)])), (q1, .inl (cyI, 128, .inl ky))]) [1, 2] (by decide) rfl
  refine xk_calli (wr := [(d0, .inr (4, [.ref s0, .ref t0, .ref r0, .ref q0, .int bk]))]) (w2 := [(d0, .inr (4, [.ref s0, .ref t0, .ref r0, .ref q0, .int bk])), (q0, .inr (1, [.ref q1, .int na, .int nb, .int (nI mm), .int (nI cn)])), (q1, .inl (cyI, 128, .inl ky))]) (va_runV (As := []) (rest := []) hC0 (ct_X1_square l D cyI cyZ q0 q1 _ ky na nb mm cn ) (cwV 0 hts gX4_count_X1_square rfl rfl rfl (by decide +kernel) ⟨Nat.le_of_ble_eq_true rfl, Nat.le_of_ble_eq_true rfl⟩) ⟨xk_blind, va_recv hK hPc (ci := 1) (q0 := 0) rfl rfl, xk_pre hK hN hPc hDc⟩ rfl rfl hl.1 rfl (lv_room (Nat.le_of_ble_eq_true rfl)) dX4_count_92 ⟨Nat.le_of_ble_eq_true rfl, Nat.le_of_ble_eq_true rfl⟩) hP hD hS hA [1, 2] [0] [0, 1, 2] rfl rfl (by decide) (by decide) rfl (by decide) (fun H locs hP hD hS => ?_)
  exact xk_iret hx hb hr hlocks hP hD hS (rfl) (rfl) dX4_count_95

abbrev rm_X4_count_6 : Room := { frames := 1, cells := 0, slots := 0, locals := 20 }
theorem in_X4_count_6_X4 : ∀ w ∈ u_ws RX4 TX4 5, w ∈ wsX4_count := by decide +kernel
set_option maxHeartbeats 4000000 in
set_option maxRecDepth 100000 in
theorem ct_X4_count_6 (l : Launch) (D : va_G) (cyI cyZ : ClassId) (d0 s0 t0 r0 q0 q1 : Nat) (sz : Nat) (bk : Int32) (ky : Nat → Int32) (na nb : Int32) (mm cn : Nat)   : Met l yX4_count wsX4_count rm_X4_count_6 (xk_Pc D cyI cyZ [.ref d0, .int 6] [(d0, .inr (4, [.ref s0, .ref t0, .ref r0, .ref q0, .int bk])), (q0, .inr (1, [.ref q1, .int na, .int nb, .int (nI mm), .int (nI cn)])), (q1, .inl (cyI, 128, .inl ky))] sz) (xk_Qi D (va_A [(d0, .inr (4, [.ref s0, .ref t0, .ref r0, .ref q0, .int bk])), (q0, .inr (1, [.ref q1, .int na, .int nb, .int (nI mm), .int (nI cn)])), (q1, .inl (cyI, 128, .inl ky))] sz) (nI cn) [(d0, .inr (4, [.ref s0, .ref t0, .ref r0, .ref q0, .int bk])), (q0, .inr (1, [.ref q1, .int na, .int nb, .int (nI mm), .int (nI cn)])), (q1, .inl (cyI, 128, .inl ky))]) 0 0 (va_A [(d0, .inr (4, [.ref s0, .ref t0, .ref r0, .ref q0, .int bk])), (q0, .inr (1, [.ref q1, .int na, .int nb, .int (nI mm), .int (nI cn)])), (q1, .inl (cyI, 128, .inl ky))] sz) := by
  refine xk_of (own := RX4) (cc := cX4_count) (maxL := 2) (ret := (some .int)) (Qc := fun A => xk_Qi D A (nI cn) [(d0, .inr (4, [.ref s0, .ref t0, .ref r0, .ref q0, .int bk])), (q0, .inr (1, [.ref q1, .int na, .int nb, .int (nI mm), .int (nI cn)])), (q1, .inl (cyI, 128, .inl ky))]) (by decide) rfl rfl (Nat.le_of_ble_eq_true rfl) ?_
  intro p e s m below meth c A ls hx hb hr hml hown hlocks hin hts hA hP hK hN hD hS hl
  have hC0 := xk_fix hx hb hml hown hts
  have hl : lv_has ls 2 [(0, .ref d0), (1, .int 6)] := hl
  have hf33 := hts (.fieldLink RX4 33 "DotPress" "lattice" "LDotPress$Lattice;") (by decide +kernel)
  refine lv_iload_n hx hb dX4_count_0 rfl (lv_at hl 1 rfl) ?_
  refine lv_tableIn (off := 95) (tgt := 96) hx hb dX4_count_1 (by decide) (by decide) (by decide) (by decide) ?_
  refine lv_aload_n hx hb dX4_count_96 rfl (lv_at hl 0 rfl) ?_
  refine va_get (D := D) (ci := 4) (v := .ref q0) (C := RX4) (T := TX4) (N := 5) hx hb hts in_X4_count_6_X4 hown hK hP 0 rfl rfl 3 (by decide) hf33 (fun _ h9 => h9) rfl dX4_count_97 ?_
  have hPc := hP.sub (ws' := [(q0, .inr (1, [.ref q1, .int na, .int nb, .int (nI mm), .int (nI cn)])), (q1, .inl (cyI, 128, .inl ky))]) [1, 2] rfl
  have hDc := hD.sub (ws' := [(q0, .inr (1, [.ref q1, .int na, .int nb, .int (nI mm), .int (nI cn)])), (q1, .inl (cyI, 128, .inl ky))]) [1, 2] (by decide) rfl
  refine xk_calli (wr := [(d0, .inr (4, [.ref s0, .ref t0, .ref r0, .ref q0, .int bk]))]) (w2 := [(d0, .inr (4, [.ref s0, .ref t0, .ref r0, .ref q0, .int bk])), (q0, .inr (1, [.ref q1, .int na, .int nb, .int (nI mm), .int (nI cn)])), (q1, .inl (cyI, 128, .inl ky))]) (va_runV (As := []) (rest := []) hC0 (ct_X1_pairCount l D cyI cyZ q0 q1 _ ky na nb mm cn ) (cwV 0 hts gX4_count_X1_pairCount rfl rfl rfl (by decide +kernel) ⟨Nat.le_of_ble_eq_true rfl, Nat.le_of_ble_eq_true rfl⟩) ⟨xk_blind, va_recv hK hPc (ci := 1) (q0 := 0) rfl rfl, xk_pre hK hN hPc hDc⟩ rfl rfl hl.1 rfl (lv_room (Nat.le_of_ble_eq_true rfl)) dX4_count_100 ⟨Nat.le_of_ble_eq_true rfl, Nat.le_of_ble_eq_true rfl⟩) hP hD hS hA [1, 2] [0] [0, 1, 2] rfl rfl (by decide) (by decide) rfl (by decide) (fun H locs hP hD hS => ?_)
  exact xk_iret hx hb hr hlocks hP hD hS (rfl) (rfl) dX4_count_103

abbrev rm_X4_count_7 : Room := { frames := 0, cells := 0, slots := 0, locals := 0 }
theorem in_X4_count_7_X4 : ∀ w ∈ u_ws RX4 TX4 5, w ∈ wsX4_count := by decide +kernel
set_option maxHeartbeats 4000000 in
set_option maxRecDepth 100000 in
theorem ct_X4_count_7 (l : Launch) (D : va_G) (cyI cyZ : ClassId) (d0 s0 t0 r0 q0 : Nat) (sz : Nat) (bk : Int32)    : Met l yX4_count wsX4_count rm_X4_count_7 (xk_Pc D cyI cyZ [.ref d0, .int 7] [(d0, .inr (4, [.ref s0, .ref t0, .ref r0, .ref q0, .int bk]))] sz) (xk_Qi D (va_A [(d0, .inr (4, [.ref s0, .ref t0, .ref r0, .ref q0, .int bk]))] sz) (bI (¬ bk = 0)) [(d0, .inr (4, [.ref s0, .ref t0, .ref r0, .ref q0, .int bk]))]) 0 0 (va_A [(d0, .inr (4, [.ref s0, .ref t0, .ref r0, .ref q0, .int bk]))] sz) := by
  refine xk_of (own := RX4) (cc := cX4_count) (maxL := 2) (ret := (some .int)) (Qc := fun A => xk_Qi D A (bI (¬ bk = 0)) [(d0, .inr (4, [.ref s0, .ref t0, .ref r0, .ref q0, .int bk]))]) (by decide) rfl rfl (Nat.le_of_ble_eq_true rfl) ?_
  intro p e s m below meth c A ls hx hb hr hml hown hlocks hin hts hA hP hK hN hD hS hl
  have hC0 := xk_fix hx hb hml hown hts
  have hl : lv_has ls 2 [(0, .ref d0), (1, .int 7)] := hl
  have hf37 := hts (.fieldLink RX4 37 "DotPress" "backAndForth" "Z") (by decide +kernel)
  refine lv_iload_n hx hb dX4_count_0 rfl (lv_at hl 1 rfl) ?_
  refine lv_tableIn (off := 103) (tgt := 104) hx hb dX4_count_1 (by decide) (by decide) (by decide) (by decide) ?_
  refine lv_aload_n hx hb dX4_count_104 rfl (lv_at hl 0 rfl) ?_
  refine va_get (D := D) (ci := 4) (v := .int bk) (C := RX4) (T := TX4) (N := 5) hx hb hts in_X4_count_7_X4 hown hK hP 0 rfl rfl 4 (by decide) hf37 (fun _ h9 => h9) rfl dX4_count_105 ?_
  refine lv_if_eq (tgt := 115) hx hb dX4_count_108 (by decide) (fun c_108 => ?_) (fun c_108 => ?_)
  · refine lv_iconst (v := 0) hx hb dX4_count_115 (by decide) ?_
    exact xk_iret hx hb hr hlocks hP hD hS (bI_0 (fun h => h c_108)) (rfl) dX4_count_116
  · refine lv_iconst (v := 1) hx hb dX4_count_111 (by decide) ?_
    refine lv_goto (tgt := 116) hx hb dX4_count_112 (by decide) ?_
    exact xk_iret hx hb hr hlocks hP hD hS (bI_1 c_108) (rfl) dX4_count_116

abbrev rm_X4_count_no : Room := { frames := 0, cells := 0, slots := 0, locals := 0 }
set_option maxHeartbeats 4000000 in
set_option maxRecDepth 100000 in
theorem ct_X4_count_no (l : Launch) (D : va_G) (cyI cyZ : ClassId) (d0 s0 t0 r0 q0 : Nat) (sz : Nat) (bk : Int32)  (v : Int32) (hno : v.toInt < 0 ∨ 7 < v.toInt) : Met l yX4_count wsX4_count rm_X4_count_no (xk_Pc D cyI cyZ [.ref d0, .int v] [(d0, .inr (4, [.ref s0, .ref t0, .ref r0, .ref q0, .int bk]))] sz) (xk_Qi D (va_A [(d0, .inr (4, [.ref s0, .ref t0, .ref r0, .ref q0, .int bk]))] sz) (-1) [(d0, .inr (4, [.ref s0, .ref t0, .ref r0, .ref q0, .int bk]))]) 0 0 (va_A [(d0, .inr (4, [.ref s0, .ref t0, .ref r0, .ref q0, .int bk]))] sz) := by
  refine xk_of (own := RX4) (cc := cX4_count) (maxL := 2) (ret := (some .int)) (Qc := fun A => xk_Qi D A (-1) [(d0, .inr (4, [.ref s0, .ref t0, .ref r0, .ref q0, .int bk]))]) (by decide) rfl rfl (Nat.le_of_ble_eq_true rfl) ?_
  intro p e s m below meth c A ls hx hb hr hml hown hlocks hin hts hA hP hK hN hD hS hl
  have hC0 := xk_fix hx hb hml hown hts
  have hl : lv_has ls 2 [(0, .ref d0), (1, .int v)] := hl
  refine lv_iload_n hx hb dX4_count_0 rfl (lv_at hl 1 rfl) ?_
  refine lv_tableOut (tgt := 117) hx hb dX4_count_1 (hno) (by decide) ?_
  refine lv_iconst (v := (-1)) hx hb dX4_count_117 (by decide) ?_
  exact xk_iret hx hb hr hlocks hP hD hS (rfl) (rfl) dX4_count_118
