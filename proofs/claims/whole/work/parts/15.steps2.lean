/-! Steps: cost, worth, the best exchange; DotPress: cost, even -/
abbrev rm_X3_unevenness : Room := { frames := 2, cells := 0, slots := 0, locals := 34 }
theorem in_X3_unevenness_X3 : ∀ w ∈ u_ws RX3 TX3 4, w ∈ wsX3_unevenness := by decide +kernel
set_option maxHeartbeats 4000000 in
set_option maxRecDepth 100000 in
theorem ct_X3_unevenness (l : Launch) (D : va_G) (cyI cyZ : ClassId) (t0 t1 t2 t3 : Nat) (sz : Nat) (nn : Nat) (nu sp ne : Nat → Int32)  (hn1 : 1 ≤ nn) (hn2 : nn ≤ 8) (hsp : SPok nn sp) (hne0 : NEok nn ne) : Met l yX3_unevenness wsX3_unevenness rm_X3_unevenness (xk_Pc D cyI cyZ [.ref t0] [(t0, .inr (3, [.ref t1, .ref t2, .ref t3, .int (nI nn)])), (t1, .inl (cyI, 64, .inl nu)), (t2, .inl (cyI, 64, .inl sp)), (t3, .inl (cyI, 225, .inl ne))] sz) (xk_Ql D (va_A [(t0, .inr (3, [.ref t1, .ref t2, .ref t3, .int (nI nn)])), (t1, .inl (cyI, 64, .inl nu)), (t2, .inl (cyI, 64, .inl sp)), (t3, .inl (cyI, 225, .inl ne))] sz) (csO nn nu (nn * nn)) [(t0, .inr (3, [.ref t1, .ref t2, .ref t3, .int (nI nn)])), (t1, .inl (cyI, 64, .inl nu)), (t2, .inl (cyI, 64, .inl sp)), (t3, .inl (cyI, 225, .inl ne))]) 0 0 (va_A [(t0, .inr (3, [.ref t1, .ref t2, .ref t3, .int (nI nn)])), (t1, .inl (cyI, 64, .inl nu)), (t2, .inl (cyI, 64, .inl sp)), (t3, .inl (cyI, 225, .inl ne))] sz) := by
  refine xk_of (own := RX3) (cc := cX3_unevenness) (maxL := 7) (ret := (some .long)) (Qc := fun A => xk_Ql D A (csO nn nu (nn * nn)) [(t0, .inr (3, [.ref t1, .ref t2, .ref t3, .int (nI nn)])), (t1, .inl (cyI, 64, .inl nu)), (t2, .inl (cyI, 64, .inl sp)), (t3, .inl (cyI, 225, .inl ne))]) (by decide) rfl rfl (Nat.le_of_ble_eq_true rfl) ?_
  intro p e s m below meth c A ls hx hb hr hml hown hlocks hin hts hA hP hK hN hD hS hl
  have hC0 := xk_fix hx hb hml hown hts
  have hl : lv_has ls 7 [(0, .ref t0)] := hl
  have hf11 := hts (.fieldLink RX3 11 "DotPress$Steps" "numbers" "[I") (by decide +kernel)
  have hf15 := hts (.fieldLink RX3 15 "DotPress$Steps" "spots" "[I") (by decide +kernel)
  have hq := nn_64 hn2
  have hq1 := nn_1 hn1
  refine lv_aload_n hx hb dX3_unevenness_0 rfl (lv_at hl 0 rfl) ?_
  have hPc := hP.sub (ws' := [(t0, .inr (3, [.ref t1, .ref t2, .ref t3, .int (nI nn)])), (t1, .inl (cyI, 64, .inl nu)), (t2, .inl (cyI, 64, .inl sp)), (t3, .inl (cyI, 225, .inl ne))]) [0, 1, 2, 3] rfl
  have hDc := hD.sub (ws' := [(t0, .inr (3, [.ref t1, .ref t2, .ref t3, .int (nI nn)])), (t1, .inl (cyI, 64, .inl nu)), (t2, .inl (cyI, 64, .inl sp)), (t3, .inl (cyI, 225, .inl ne))]) [0, 1, 2, 3] (by decide) rfl
  refine xk_calli (wr := []) (w2 := [(t0, .inr (3, [.ref t1, .ref t2, .ref t3, .int (nI nn)])), (t1, .inl (cyI, 64, .inl nu)), (t2, .inl (cyI, 64, .inl sp)), (t3, .inl (cyI, 225, .inl ne))]) (va_runV (As := []) (rest := []) hC0 (ct_X3_places l D cyI cyZ t0 t1 t2 t3 _ nn nu sp ne (by first | assumption | omega)) (cwV 0 hts gX3_unevenness_X3_places rfl rfl rfl (by decide +kernel) ⟨Nat.le_of_ble_eq_true rfl, Nat.le_of_ble_eq_true rfl⟩) ⟨xk_blind, va_recv hK hPc (ci := 3) (q0 := 0) rfl rfl, xk_pre hK hN hPc hDc⟩ rfl rfl hl.1 rfl (lv_room (Nat.le_of_ble_eq_true rfl)) dX3_unevenness_1 ⟨Nat.le_of_ble_eq_true rfl, Nat.le_of_ble_eq_true rfl⟩) hP hD hS hA [0, 1, 2, 3] [] [0, 1, 2, 3] rfl rfl (by decide) (by decide) rfl (by decide) (fun H locs hP hD hS => ?_)
  refine lv_istore_n (lv' := [(1, .int (nI (nn * nn))), (0, .ref t0)]) hx hb dX3_unevenness_4 rfl hl (by decide) rfl (fun ls hl => ?_)
  refine lv_lconst (v := 0) hx hb dX3_unevenness_5 (by decide) ?_
  refine lv_lstore_n (lv' := [(2, .long 0), (1, .int (nI (nn * nn))), (0, .ref t0)]) hx hb dX3_unevenness_6 rfl hl (by decide) rfl (fun ls hl => ?_)
  refine lv_iconst (v := 1) hx hb dX3_unevenness_7 (by decide) ?_
  refine lv_istore (lv' := [(4, .int 1), (2, .long 0), (1, .int (nI (nn * nn))), (0, .ref t0)]) hx hb dX3_unevenness_8 hl (by decide) rfl (fun ls hl => ?_)
  have L10 : ∀ (n k : Nat), k + n = (nn * nn) → ∀ (H : Heap) (locs : List Loc) (ls : Array Slot), va_P D vwCl [(t0, .inr (3, [.ref t1, .ref t2, .ref t3, .int (nI nn)])), (t1, .inl (cyI, 64, .inl nu)), (t2, .inl (cyI, 64, .inl sp)), (t3, .inl (cyI, 225, .inl ne))] H → va_D A [(t0, .inr (3, [.ref t1, .ref t2, .ref t3, .int (nI nn)])), (t1, .inl (cyI, 64, .inl nu)), (t2, .inl (cyI, 64, .inl sp)), (t3, .inl (cyI, 225, .inl ne))] → va_S A s.heap H locs → lv_has ls 7 [(0, .ref t0), (1, .int (nI (nn * nn))), (2, .long (csO nn nu k)), (4, .int (nI k))] → W p l e rm_X3_unevenness s m ([.ref t0] : List Value).toArray below meth c H locs 0 0 (MQ below (xk_Ql D A (csO nn nu (nn * nn)) [(t0, .inr (3, [.ref t1, .ref t2, .ref t3, .int (nI nn)])), (t1, .inl (cyI, 64, .inl nu)), (t2, .inl (cyI, 64, .inl sp)), (t3, .inl (cyI, 225, .inl ne))]) ([.ref t0] : List Value).toArray s 0 0 A) (F0 m 10 ls []) := by
    intro n
    induction n with
    | zero =>
      intro k hk_10  H locs ls hP hD hS hl
      have hz_10 : nn * nn = k := hk_10.symm
      subst hz_10
      refine lv_iload hx hb dX3_unevenness_10 (lv_at hl 3 rfl) ?_
      refine lv_iload_n hx hb dX3_unevenness_12 rfl (lv_at hl 1 rfl) ?_
      refine lv_icmp_ge (tgt := 89) hx hb dX3_unevenness_13 (by decide) (fun c_13 => ?_) (fun c_13 => xk_ba c_13 (nI_le (Nat.le_refl _) (by omega)))
      refine lv_lload_n hx hb dX3_unevenness_89 rfl (lv_at hl 2 rfl) ?_
      exact xk_lret hx hb hr hlocks hP hD hS (rfl) (rfl) dX3_unevenness_90
    | succ n ih_10 =>
      intro k hk_10  H locs ls hP hD hS hl
      refine lv_iload hx hb dX3_unevenness_10 (lv_at hl 3 rfl) ?_
      refine lv_iload_n hx hb dX3_unevenness_12 rfl (lv_at hl 1 rfl) ?_
      refine lv_icmp_ge (tgt := 89) hx hb dX3_unevenness_13 (by decide) (fun c_13 => xk_ab c_13 (nI_ge (by omega) (by omega))) (fun c_13 => ?_)
      refine lv_iconst (v := 0) hx hb dX3_unevenness_16 (by decide) ?_
      refine lv_istore (lv' := [(5, .int 0), (0, .ref t0), (1, .int (nI (nn * nn))), (2, .long (csO nn nu k)), (4, .int (nI k))]) hx hb dX3_unevenness_17 hl (by decide) rfl (fun ls hl => ?_)
      have L19 : ∀ (n q : Nat), q + n = k → ∀ (H : Heap) (locs : List Loc) (ls : Array Slot), va_P D vwCl [(t0, .inr (3, [.ref t1, .ref t2, .ref t3, .int (nI nn)])), (t1, .inl (cyI, 64, .inl nu)), (t2, .inl (cyI, 64, .inl sp)), (t3, .inl (cyI, 225, .inl ne))] H → va_D A [(t0, .inr (3, [.ref t1, .ref t2, .ref t3, .int (nI nn)])), (t1, .inl (cyI, 64, .inl nu)), (t2, .inl (cyI, 64, .inl sp)), (t3, .inl (cyI, 225, .inl ne))] → va_S A s.heap H locs → lv_has ls 7 [(0, .ref t0), (1, .int (nI (nn * nn))), (2, .long (csI nn nu k (csO nn nu k) q)), (4, .int (nI k)), (5, .int (nI q))] → W p l e rm_X3_unevenness s m ([.ref t0] : List Value).toArray below meth c H locs 0 0 (MQ below (xk_Ql D A (csO nn nu (nn * nn)) [(t0, .inr (3, [.ref t1, .ref t2, .ref t3, .int (nI nn)])), (t1, .inl (cyI, 64, .inl nu)), (t2, .inl (cyI, 64, .inl sp)), (t3, .inl (cyI, 225, .inl ne))]) ([.ref t0] : List Value).toArray s 0 0 A) (F0 m 19 ls []) := by
        intro n
        induction n with
        | zero =>
          intro q hk_19  H locs ls hP hD hS hl
          have hz_19 : k = q := hk_19.symm
          subst hz_19
          refine lv_iload hx hb dX3_unevenness_19 (lv_at hl 4 rfl) ?_
          refine lv_iload hx hb dX3_unevenness_21 (lv_at hl 3 rfl) ?_
          refine lv_icmp_ge (tgt := 83) hx hb dX3_unevenness_23 (by decide) (fun c_23 => ?_) (fun c_23 => xk_ba c_23 (nI_le (Nat.le_refl _) (by omega)))
          refine lv_iinc (v := nI (k + 1)) (lv' := [(4, .int (nI (k + 1))), (0, .ref t0), (1, .int (nI (nn * nn))), (2, .long (csI nn nu k (csO nn nu k) k)), (5, .int (nI k))]) hx hb dX3_unevenness_83 hl (k := 3) rfl (nI_1 _) (by decide) rfl (fun ls hl => ?_)
          refine lv_goto (tgt := 10) hx hb dX3_unevenness_86 (by decide) ?_
          have eq_40 : (csI nn nu k (csO nn nu k) k : Int64) = csO nn nu (k + 1) := rfl
          have hl := lv_sub (l' := [(0, .ref t0), (1, .int (nI (nn * nn))), (2, .long (csI nn nu k (csO nn nu k) k)), (4, .int (nI (k + 1)))]) hl [1, 2, 3, 0] rfl
          have eL : ([(0, .ref t0), (1, .int (nI (nn * nn))), (2, .long (csI nn nu k (csO nn nu k) k)), (4, .int (nI (k + 1)))] : List (Nat × Value)) = [(0, .ref t0), (1, .int (nI (nn * nn))), (2, .long (csO nn nu (k + 1))), (4, .int (nI (k + 1)))] := (congrArg (List.cons _) (congrArg (List.cons _) (congr (congrArg List.cons (congrArg (fun z => (((2 : Nat), Value.long z) : Nat × Value)) eq_40)) (congrArg (List.cons _) rfl))))
          rw [eL] at hl
          exact ih_10 (k + 1) (by omega)  _ _ _ hP hD hS hl
        | succ n ih_19 =>
          intro q hk_19  H locs ls hP hD hS hl
          refine lv_iload hx hb dX3_unevenness_19 (lv_at hl 4 rfl) ?_
          refine lv_iload hx hb dX3_unevenness_21 (lv_at hl 3 rfl) ?_
          refine lv_icmp_ge (tgt := 83) hx hb dX3_unevenness_23 (by decide) (fun c_23 => xk_ab c_23 (nI_ge (by omega) (by omega))) (fun c_23 => ?_)
          refine lv_aload_n hx hb dX3_unevenness_26 rfl (lv_at hl 0 rfl) ?_
          refine va_get (D := D) (ci := 3) (v := .ref t1) (C := RX3) (T := TX3) (N := 4) hx hb hts in_X3_unevenness_X3 hown hK hP 0 rfl rfl 0 (by decide) hf11 (fun _ h9 => h9) rfl dX3_unevenness_27 ?_
          refine lv_iload hx hb dX3_unevenness_30 (lv_at hl 4 rfl) ?_
          refine xk_iald hx hb hK hP 1 rfl q (rfl) (by omega) (by decide) dX3_unevenness_32 ?_
          refine lv_aload_n hx hb dX3_unevenness_33 rfl (lv_at hl 0 rfl) ?_
          refine va_get (D := D) (ci := 3) (v := .ref t1) (C := RX3) (T := TX3) (N := 4) hx hb hts in_X3_unevenness_X3 hown hK hP 0 rfl rfl 0 (by decide) hf11 (fun _ h9 => h9) rfl dX3_unevenness_34 ?_
          refine lv_iload hx hb dX3_unevenness_37 (lv_at hl 3 rfl) ?_
          refine xk_iald hx hb hK hP 1 rfl k (rfl) (by omega) (by decide) dX3_unevenness_39 ?_
          refine va_mmax hx hb (hml.trans hl.1.symm) hown (hts (.methodLink RX3 61 Lib.Math.max.name) (by decide +kernel)) (hts (.static Lib.Math.max.name) (by decide +kernel)) (hts (.initialized "java/lang/Math") (by decide +kernel)) (hts (.code Lib.Math.max.name Lib.Math.max.code 2 (some .int)) (by decide +kernel)) (Nat.le_of_ble_eq_true rfl) (Nat.le_of_ble_eq_true rfl) (Nat.zero_le _) (Nat.zero_le _) dX3_unevenness_40 ?_
          refine xk_topi (y := mxI (nu q) (nu k)) (rfl) ?_
          refine lv_istore (lv' := [(6, .int (mxI (nu q) (nu k))), (0, .ref t0), (1, .int (nI (nn * nn))), (2, .long (csI nn nu k (csO nn nu k) q)), (4, .int (nI k)), (5, .int (nI q))]) hx hb dX3_unevenness_43 hl (by decide) rfl (fun ls hl => ?_)
          refine lv_lload_n hx hb dX3_unevenness_45 rfl (lv_at hl 3 rfl) ?_
          refine lv_iload_n hx hb dX3_unevenness_46 rfl (lv_at hl 2 rfl) ?_
          refine lv_iload hx hb dX3_unevenness_47 (lv_at hl 0 rfl) ?_
          refine lv_isub hx hb dX3_unevenness_49 ?_
          refine lv_i2l hx hb dX3_unevenness_50 rfl ?_
          refine lv_aload_n hx hb dX3_unevenness_51 rfl (lv_at hl 1 rfl) ?_
          refine lv_bipush (v := 112) hx hb dX3_unevenness_52 (by decide) ?_
          refine lv_aload_n hx hb dX3_unevenness_54 rfl (lv_at hl 1 rfl) ?_
          refine va_get (D := D) (ci := 3) (v := .ref t2) (C := RX3) (T := TX3) (N := 4) hx hb hts in_X3_unevenness_X3 hown hK hP 0 rfl rfl 1 (by decide) hf15 (fun _ h9 => h9) rfl dX3_unevenness_55 ?_
          refine lv_iload hx hb dX3_unevenness_58 (lv_at hl 5 rfl) ?_
          refine xk_iald hx hb hK hP 2 rfl q (rfl) (by omega) (by decide) dX3_unevenness_60 ?_
          refine xk_topi (y := nI (spn nn q)) (hsp q (by omega)) ?_
          refine lv_iadd hx hb dX3_unevenness_61 ?_
          refine lv_aload_n hx hb dX3_unevenness_62 rfl (lv_at hl 1 rfl) ?_
          refine va_get (D := D) (ci := 3) (v := .ref t2) (C := RX3) (T := TX3) (N := 4) hx hb hts in_X3_unevenness_X3 hown hK hP 0 rfl rfl 1 (by decide) hf15 (fun _ h9 => h9) rfl dX3_unevenness_63 ?_
          refine lv_iload hx hb dX3_unevenness_66 (lv_at hl 4 rfl) ?_
          refine xk_iald hx hb hK hP 2 rfl k (rfl) (by omega) (by decide) dX3_unevenness_68 ?_
          refine xk_topi (y := nI (spn nn k)) (hsp k (by omega)) ?_
          refine lv_isub hx hb dX3_unevenness_69 ?_
          refine xk_topi (y := nI (112 + spn nn q - spn nn k)) (sp_ix (spn_le hn2 (by omega))) ?_
          have hPc := hP.sub (ws' := [(t0, .inr (3, [.ref t1, .ref t2, .ref t3, .int (nI nn)])), (t1, .inl (cyI, 64, .inl nu)), (t2, .inl (cyI, 64, .inl sp)), (t3, .inl (cyI, 225, .inl ne))]) [0, 1, 2, 3] rfl
          have hDc := hD.sub (ws' := [(t0, .inr (3, [.ref t1, .ref t2, .ref t3, .int (nI nn)])), (t1, .inl (cyI, 64, .inl nu)), (t2, .inl (cyI, 64, .inl sp)), (t3, .inl (cyI, 225, .inl ne))]) [0, 1, 2, 3] (by decide) rfl
          refine xk_calli (wr := []) (w2 := [(t0, .inr (3, [.ref t1, .ref t2, .ref t3, .int (nI nn)])), (t1, .inl (cyI, 64, .inl nu)), (t2, .inl (cyI, 64, .inl sp)), (t3, .inl (cyI, 225, .inl ne))]) (va_runV (As := [.int (nI (112 + spn nn q - spn nn k))]) (rest := [.long (((nI (nn * nn)) - mxI (nu q) (nu k)).toInt64), .long (csI nn nu k (csO nn nu k) q)]) hC0 (ct_X3_nearnessAt l D cyI cyZ t0 t1 t2 t3 _ nn nu sp ne (112 + spn nn q - spn nn k) (by have h1 := spn_le (p := q) hn2 (by omega); have h2 := spn_le (p := k) hn2 (by omega); omega)) (cwV 1 hts gX3_unevenness_X3_nearnessAt rfl rfl rfl (by decide +kernel) ⟨Nat.le_of_ble_eq_true rfl, Nat.le_of_ble_eq_true rfl⟩) ⟨xk_blind, va_recv hK hPc (ci := 3) (q0 := 0) rfl rfl, xk_pre hK hN hPc hDc⟩ rfl rfl hl.1 rfl (lv_room (Nat.le_of_ble_eq_true rfl)) dX3_unevenness_70 ⟨Nat.le_of_ble_eq_true rfl, Nat.le_of_ble_eq_true rfl⟩) hP hD hS hA [0, 1, 2, 3] [] [0, 1, 2, 3] rfl rfl (by decide) (by decide) rfl (by decide) (fun H locs hP hD hS => ?_)
          refine xk_topi (y := nrp nn k q) (hne0 k q (by omega) (by omega)) ?_
          refine lv_i2l hx hb dX3_unevenness_73 rfl ?_
          refine lv_lmul hx hb dX3_unevenness_74 ?_
          refine lv_ladd hx hb dX3_unevenness_75 ?_
          refine lv_lstore_n (lv' := [(2, .long (csI nn nu k (csO nn nu k) q + (((nI (nn * nn)) - mxI (nu q) (nu k)).toInt64 * (nrp nn k q).toInt64))), (6, .int (mxI (nu q) (nu k))), (0, .ref t0), (1, .int (nI (nn * nn))), (4, .int (nI k)), (5, .int (nI q))]) hx hb dX3_unevenness_76 rfl hl (by decide) rfl (fun ls hl => ?_)
          refine lv_iinc (v := nI (q + 1)) (lv' := [(5, .int (nI (q + 1))), (2, .long (csI nn nu k (csO nn nu k) q + (((nI (nn * nn)) - mxI (nu q) (nu k)).toInt64 * (nrp nn k q).toInt64))), (6, .int (mxI (nu q) (nu k))), (0, .ref t0), (1, .int (nI (nn * nn))), (4, .int (nI k))]) hx hb dX3_unevenness_77 hl (k := 5) rfl (nI_1 _) (by decide) rfl (fun ls hl => ?_)
          refine lv_goto (tgt := 19) hx hb dX3_unevenness_80 (by decide) ?_
          have eq_91 : (csI nn nu k (csO nn nu k) q + (((nI (nn * nn)) - mxI (nu q) (nu k)).toInt64 * (nrp nn k q).toInt64) : Int64) = csI nn nu k (csO nn nu k) (q + 1) := rfl
          have hl := lv_sub (l' := [(0, .ref t0), (1, .int (nI (nn * nn))), (2, .long (csI nn nu k (csO nn nu k) q + (((nI (nn * nn)) - mxI (nu q) (nu k)).toInt64 * (nrp nn k q).toInt64))), (4, .int (nI k)), (5, .int (nI (q + 1)))]) hl [3, 4, 1, 5, 0] rfl
          have eL : ([(0, .ref t0), (1, .int (nI (nn * nn))), (2, .long (csI nn nu k (csO nn nu k) q + (((nI (nn * nn)) - mxI (nu q) (nu k)).toInt64 * (nrp nn k q).toInt64))), (4, .int (nI k)), (5, .int (nI (q + 1)))] : List (Nat × Value)) = [(0, .ref t0), (1, .int (nI (nn * nn))), (2, .long (csI nn nu k (csO nn nu k) (q + 1))), (4, .int (nI k)), (5, .int (nI (q + 1)))] := (congrArg (List.cons _) (congrArg (List.cons _) (congr (congrArg List.cons (congrArg (fun z => (((2 : Nat), Value.long z) : Nat × Value)) eq_91)) (congrArg (List.cons _) (congrArg (List.cons _) rfl)))))
          rw [eL] at hl
          exact ih_19 (q + 1) (by omega)  _ _ _ hP hD hS hl
      have eq_96 : (csO nn nu k : Int64) = csI nn nu k (csO nn nu k) 0 := rfl
      have eq_97 : (0 : Int32) = nI 0 := rfl
      have hl := lv_sub (l' := [(0, .ref t0), (1, .int (nI (nn * nn))), (2, .long (csO nn nu k)), (4, .int (nI k)), (5, .int 0)]) hl [1, 2, 3, 4, 0] rfl
      have eL : ([(0, .ref t0), (1, .int (nI (nn * nn))), (2, .long (csO nn nu k)), (4, .int (nI k)), (5, .int 0)] : List (Nat × Value)) = [(0, .ref t0), (1, .int (nI (nn * nn))), (2, .long (csI nn nu k (csO nn nu k) 0)), (4, .int (nI k)), (5, .int (nI 0))] := (congrArg (List.cons _) (congrArg (List.cons _) (congr (congrArg List.cons (congrArg (fun z => (((2 : Nat), Value.long z) : Nat × Value)) eq_96)) (congrArg (List.cons _) (congr (congrArg List.cons (congrArg (fun z => (((5 : Nat), Value.int z) : Nat × Value)) eq_97)) rfl)))))
      rw [eL] at hl
      exact L19 _ 0 (Nat.zero_add _)  _ _ _ hP hD hS hl
  have eq_102 : (0 : Int64) = csO nn nu 1 := rfl
  have eq_103 : (1 : Int32) = nI 1 := rfl
  have hl := lv_sub (l' := [(0, .ref t0), (1, .int (nI (nn * nn))), (2, .long 0), (4, .int 1)]) hl [3, 2, 1, 0] rfl
  have eL : ([(0, .ref t0), (1, .int (nI (nn * nn))), (2, .long 0), (4, .int 1)] : List (Nat × Value)) = [(0, .ref t0), (1, .int (nI (nn * nn))), (2, .long (csO nn nu 1)), (4, .int (nI 1))] := (congrArg (List.cons _) (congrArg (List.cons _) (congr (congrArg List.cons (congrArg (fun z => (((2 : Nat), Value.long z) : Nat × Value)) eq_102)) (congr (congrArg List.cons (congrArg (fun z => (((4 : Nat), Value.int z) : Nat × Value)) eq_103)) rfl))))
  rw [eL] at hl
  exact L10 (nn * nn - 1) 1 (by omega)  _ _ _ hP hD hS hl

abbrev rm_X3_gain : Room := { frames := 4, cells := 0, slots := 0, locals := 77 }
theorem in_X3_gain_X3 : ∀ w ∈ u_ws RX3 TX3 4, w ∈ wsX3_gain := by decide +kernel
set_option maxHeartbeats 4000000 in
set_option maxRecDepth 100000 in
theorem ct_X3_gain (l : Launch) (D : va_G) (cyI cyZ : ClassId) (t0 t1 t2 t3 : Nat) (sz : Nat) (nn : Nat) (nu sp ne : Nat → Int32) (j1 j2 : Nat) (hn1 : 1 ≤ nn) (hn2 : nn ≤ 8) (hsp : SPok nn sp) (hne0 : NEok nn ne) (hpm : PMok nn nu) (hj1 : j1 < nn * nn) (hj2 : j2 < nn * nn) (hne : j1 ≠ j2) : Met l yX3_gain wsX3_gain rm_X3_gain (xk_Pc D cyI cyZ [.ref t0, .int (nI j1), .int (nI j2)] [(t0, .inr (3, [.ref t1, .ref t2, .ref t3, .int (nI nn)])), (t1, .inl (cyI, 64, .inl nu)), (t2, .inl (cyI, 64, .inl sp)), (t3, .inl (cyI, 225, .inl ne))] sz) (xk_Ql D (va_A [(t0, .inr (3, [.ref t1, .ref t2, .ref t3, .int (nI nn)])), (t1, .inl (cyI, 64, .inl nu)), (t2, .inl (cyI, 64, .inl sp)), (t3, .inl (cyI, 225, .inl ne))] sz) (wrt nn nu j1 j2) [(t0, .inr (3, [.ref t1, .ref t2, .ref t3, .int (nI nn)])), (t1, .inl (cyI, 64, .inl nu)), (t2, .inl (cyI, 64, .inl sp)), (t3, .inl (cyI, 225, .inl ne))]) 0 0 (va_A [(t0, .inr (3, [.ref t1, .ref t2, .ref t3, .int (nI nn)])), (t1, .inl (cyI, 64, .inl nu)), (t2, .inl (cyI, 64, .inl sp)), (t3, .inl (cyI, 225, .inl ne))] sz) := by
  refine xk_of (own := RX3) (cc := cX3_gain) (maxL := 14) (ret := (some .long)) (Qc := fun A => xk_Ql D A (wrt nn nu j1 j2) [(t0, .inr (3, [.ref t1, .ref t2, .ref t3, .int (nI nn)])), (t1, .inl (cyI, 64, .inl nu)), (t2, .inl (cyI, 64, .inl sp)), (t3, .inl (cyI, 225, .inl ne))]) (by decide) rfl rfl (Nat.le_of_ble_eq_true rfl) ?_
  intro p e s m below meth c A ls hx hb hr hml hown hlocks hin hts hA hP hK hN hD hS hl
  have hC0 := xk_fix hx hb hml hown hts
  have hl : lv_has ls 14 [(0, .ref t0), (1, .int (nI j1)), (2, .int (nI j2))] := hl
  have hf11 := hts (.fieldLink RX3 11 "DotPress$Steps" "numbers" "[I") (by decide +kernel)
  have hf15 := hts (.fieldLink RX3 15 "DotPress$Steps" "spots" "[I") (by decide +kernel)
  have hq := nn_64 hn2
  have hq1 := nn_1 hn1
  refine lv_aload_n hx hb dX3_gain_0 rfl (lv_at hl 0 rfl) ?_
  refine lv_iload_n hx hb dX3_gain_1 rfl (lv_at hl 1 rfl) ?_
  refine lv_iload_n hx hb dX3_gain_2 rfl (lv_at hl 2 rfl) ?_
  have hPc := hP.sub (ws' := [(t0, .inr (3, [.ref t1, .ref t2, .ref t3, .int (nI nn)])), (t1, .inl (cyI, 64, .inl nu)), (t2, .inl (cyI, 64, .inl sp)), (t3, .inl (cyI, 225, .inl ne))]) [0, 1, 2, 3] rfl
  have hDc := hD.sub (ws' := [(t0, .inr (3, [.ref t1, .ref t2, .ref t3, .int (nI nn)])), (t1, .inl (cyI, 64, .inl nu)), (t2, .inl (cyI, 64, .inl sp)), (t3, .inl (cyI, 225, .inl ne))]) [0, 1, 2, 3] (by decide) rfl
  refine xk_calli (wr := []) (w2 := [(t0, .inr (3, [.ref t1, .ref t2, .ref t3, .int (nI nn)])), (t1, .inl (cyI, 64, .inl nu)), (t2, .inl (cyI, 64, .inl sp)), (t3, .inl (cyI, 225, .inl ne))]) (va_runV (As := [.int (nI j1), .int (nI j2)]) (rest := []) hC0 (ct_X3_hasPair l D cyI cyZ t0 t1 t2 t3 _ nn nu sp ne (nI j1) (nI j2) (by first | assumption | omega)) (cwV 2 hts gX3_gain_X3_hasPair rfl rfl rfl (by decide +kernel) ⟨Nat.le_of_ble_eq_true rfl, Nat.le_of_ble_eq_true rfl⟩) ⟨xk_blind, va_recv hK hPc (ci := 3) (q0 := 0) rfl rfl, xk_pre hK hN hPc hDc⟩ rfl rfl hl.1 rfl (lv_room (Nat.le_of_ble_eq_true rfl)) dX3_gain_3 ⟨Nat.le_of_ble_eq_true rfl, Nat.le_of_ble_eq_true rfl⟩) hP hD hS hA [0, 1, 2, 3] [] [0, 1, 2, 3] rfl rfl (by decide) (by decide) rfl (by decide) (fun H locs hP hD hS => ?_)
  refine lv_if_ne (tgt := 11) hx hb dX3_gain_6 (by decide) (fun c_6 => ?_) (fun c_6 => xk_ab c_6 (bI_nz.mpr (st_pair_in hn2 hj1 hj2 hne)))
  have c_6 := bI_nz.mp c_6
  refine lv_aload_n hx hb dX3_gain_11 rfl (lv_at hl 0 rfl) ?_
  refine va_get (D := D) (ci := 3) (v := .ref t1) (C := RX3) (T := TX3) (N := 4) hx hb hts in_X3_gain_X3 hown hK hP 0 rfl rfl 0 (by decide) hf11 (fun _ h9 => h9) rfl dX3_gain_12 ?_
  refine lv_iload_n hx hb dX3_gain_15 rfl (lv_at hl 1 rfl) ?_
  refine xk_iald hx hb hK hP 1 rfl j1 (rfl) (by omega) (by decide) dX3_gain_16 ?_
  refine lv_aload_n hx hb dX3_gain_17 rfl (lv_at hl 0 rfl) ?_
  refine va_get (D := D) (ci := 3) (v := .ref t1) (C := RX3) (T := TX3) (N := 4) hx hb hts in_X3_gain_X3 hown hK hP 0 rfl rfl 0 (by decide) hf11 (fun _ h9 => h9) rfl dX3_gain_18 ?_
  refine lv_iload_n hx hb dX3_gain_21 rfl (lv_at hl 2 rfl) ?_
  refine xk_iald hx hb hK hP 1 rfl j2 (rfl) (by omega) (by decide) dX3_gain_22 ?_
  refine va_mmin hx hb (hml.trans hl.1.symm) hown (hts (.methodLink RX3 43 Lib.Math.min.name) (by decide +kernel)) (hts (.static Lib.Math.min.name) (by decide +kernel)) (hts (.initialized "java/lang/Math") (by decide +kernel)) (hts (.code Lib.Math.min.name Lib.Math.min.code 2 (some .int)) (by decide +kernel)) (Nat.le_of_ble_eq_true rfl) (Nat.le_of_ble_eq_true rfl) (Nat.zero_le _) (Nat.zero_le _) dX3_gain_23 ?_
  refine xk_topi (y := mnI (nu j1) (nu j2)) (rfl) ?_
  refine lv_istore_n (lv' := [(3, .int (mnI (nu j1) (nu j2))), (0, .ref t0), (1, .int (nI j1)), (2, .int (nI j2))]) hx hb dX3_gain_26 rfl hl (by decide) rfl (fun ls hl => ?_)
  refine lv_aload_n hx hb dX3_gain_27 rfl (lv_at hl 1 rfl) ?_
  refine va_get (D := D) (ci := 3) (v := .ref t1) (C := RX3) (T := TX3) (N := 4) hx hb hts in_X3_gain_X3 hown hK hP 0 rfl rfl 0 (by decide) hf11 (fun _ h9 => h9) rfl dX3_gain_28 ?_
  refine lv_iload_n hx hb dX3_gain_31 rfl (lv_at hl 2 rfl) ?_
  refine xk_iald hx hb hK hP 1 rfl j1 (rfl) (by omega) (by decide) dX3_gain_32 ?_
  refine lv_aload_n hx hb dX3_gain_33 rfl (lv_at hl 1 rfl) ?_
  refine va_get (D := D) (ci := 3) (v := .ref t1) (C := RX3) (T := TX3) (N := 4) hx hb hts in_X3_gain_X3 hown hK hP 0 rfl rfl 0 (by decide) hf11 (fun _ h9 => h9) rfl dX3_gain_34 ?_
  refine lv_iload_n hx hb dX3_gain_37 rfl (lv_at hl 3 rfl) ?_
  refine xk_iald hx hb hK hP 1 rfl j2 (rfl) (by omega) (by decide) dX3_gain_38 ?_
  refine va_mmax hx hb (hml.trans hl.1.symm) hown (hts (.methodLink RX3 61 Lib.Math.max.name) (by decide +kernel)) (hts (.static Lib.Math.max.name) (by decide +kernel)) (hts (.initialized "java/lang/Math") (by decide +kernel)) (hts (.code Lib.Math.max.name Lib.Math.max.code 2 (some .int)) (by decide +kernel)) (Nat.le_of_ble_eq_true rfl) (Nat.le_of_ble_eq_true rfl) (Nat.zero_le _) (Nat.zero_le _) dX3_gain_39 ?_
  refine xk_topi (y := mxI (nu j1) (nu j2)) (rfl) ?_
  refine lv_istore (lv' := [(4, .int (mxI (nu j1) (nu j2))), (3, .int (mnI (nu j1) (nu j2))), (0, .ref t0), (1, .int (nI j1)), (2, .int (nI j2))]) hx hb dX3_gain_42 hl (by decide) rfl (fun ls hl => ?_)
  refine lv_bipush (v := 112) hx hb dX3_gain_44 (by decide) ?_
  refine lv_aload_n hx hb dX3_gain_46 rfl (lv_at hl 2 rfl) ?_
  refine va_get (D := D) (ci := 3) (v := .ref t2) (C := RX3) (T := TX3) (N := 4) hx hb hts in_X3_gain_X3 hown hK hP 0 rfl rfl 1 (by decide) hf15 (fun _ h9 => h9) rfl dX3_gain_47 ?_
  refine lv_iload_n hx hb dX3_gain_50 rfl (lv_at hl 3 rfl) ?_
  refine xk_iald hx hb hK hP 2 rfl j1 (rfl) (by omega) (by decide) dX3_gain_51 ?_
  refine xk_topi (y := nI (spn nn j1)) (hsp j1 (by omega)) ?_
  refine lv_iadd hx hb dX3_gain_52 ?_
  refine lv_istore (lv' := [(5, .int (112 + nI (spn nn j1))), (4, .int (mxI (nu j1) (nu j2))), (3, .int (mnI (nu j1) (nu j2))), (0, .ref t0), (1, .int (nI j1)), (2, .int (nI j2))]) hx hb dX3_gain_53 hl (by decide) rfl (fun ls hl => ?_)
  refine lv_bipush (v := 112) hx hb dX3_gain_55 (by decide) ?_
  refine lv_aload_n hx hb dX3_gain_57 rfl (lv_at hl 3 rfl) ?_
  refine va_get (D := D) (ci := 3) (v := .ref t2) (C := RX3) (T := TX3) (N := 4) hx hb hts in_X3_gain_X3 hown hK hP 0 rfl rfl 1 (by decide) hf15 (fun _ h9 => h9) rfl dX3_gain_58 ?_
  refine lv_iload_n hx hb dX3_gain_61 rfl (lv_at hl 5 rfl) ?_
  refine xk_iald hx hb hK hP 2 rfl j2 (rfl) (by omega) (by decide) dX3_gain_62 ?_
  refine xk_topi (y := nI (spn nn j2)) (hsp j2 (by omega)) ?_
  refine lv_iadd hx hb dX3_gain_63 ?_
  refine lv_istore (lv' := [(6, .int (112 + nI (spn nn j2))), (5, .int (112 + nI (spn nn j1))), (4, .int (mxI (nu j1) (nu j2))), (3, .int (mnI (nu j1) (nu j2))), (0, .ref t0), (1, .int (nI j1)), (2, .int (nI j2))]) hx hb dX3_gain_64 hl (by decide) rfl (fun ls hl => ?_)
  refine lv_aload_n hx hb dX3_gain_66 rfl (lv_at hl 4 rfl) ?_
  have hPc := hP.sub (ws' := [(t0, .inr (3, [.ref t1, .ref t2, .ref t3, .int (nI nn)])), (t1, .inl (cyI, 64, .inl nu)), (t2, .inl (cyI, 64, .inl sp)), (t3, .inl (cyI, 225, .inl ne))]) [0, 1, 2, 3] rfl
  have hDc := hD.sub (ws' := [(t0, .inr (3, [.ref t1, .ref t2, .ref t3, .int (nI nn)])), (t1, .inl (cyI, 64, .inl nu)), (t2, .inl (cyI, 64, .inl sp)), (t3, .inl (cyI, 225, .inl ne))]) [0, 1, 2, 3] (by decide) rfl
  refine xk_calli (wr := []) (w2 := [(t0, .inr (3, [.ref t1, .ref t2, .ref t3, .int (nI nn)])), (t1, .inl (cyI, 64, .inl nu)), (t2, .inl (cyI, 64, .inl sp)), (t3, .inl (cyI, 225, .inl ne))]) (va_runV (As := []) (rest := []) hC0 (ct_X3_places l D cyI cyZ t0 t1 t2 t3 _ nn nu sp ne (by first | assumption | omega)) (cwV 0 hts gX3_gain_X3_places rfl rfl rfl (by decide +kernel) ⟨Nat.le_of_ble_eq_true rfl, Nat.le_of_ble_eq_true rfl⟩) ⟨xk_blind, va_recv hK hPc (ci := 3) (q0 := 0) rfl rfl, xk_pre hK hN hPc hDc⟩ rfl rfl hl.1 rfl (lv_room (Nat.le_of_ble_eq_true rfl)) dX3_gain_67 ⟨Nat.le_of_ble_eq_true rfl, Nat.le_of_ble_eq_true rfl⟩) hP hD hS hA [0, 1, 2, 3] [] [0, 1, 2, 3] rfl rfl (by decide) (by decide) rfl (by decide) (fun H locs hP hD hS => ?_)
  refine lv_istore (lv' := [(7, .int (nI (nn * nn))), (6, .int (112 + nI (spn nn j2))), (5, .int (112 + nI (spn nn j1))), (4, .int (mxI (nu j1) (nu j2))), (3, .int (mnI (nu j1) (nu j2))), (0, .ref t0), (1, .int (nI j1)), (2, .int (nI j2))]) hx hb dX3_gain_70 hl (by decide) rfl (fun ls hl => ?_)
  refine lv_lconst (v := 0) hx hb dX3_gain_72 (by decide) ?_
  refine lv_lstore (lv' := [(8, .long 0), (7, .int (nI (nn * nn))), (6, .int (112 + nI (spn nn j2))), (5, .int (112 + nI (spn nn j1))), (4, .int (mxI (nu j1) (nu j2))), (3, .int (mnI (nu j1) (nu j2))), (0, .ref t0), (1, .int (nI j1)), (2, .int (nI j2))]) hx hb dX3_gain_73 hl (by decide) rfl (fun ls hl => ?_)
  refine lv_iconst (v := 0) hx hb dX3_gain_75 (by decide) ?_
  refine lv_istore (lv' := [(10, .int 0), (8, .long 0), (7, .int (nI (nn * nn))), (6, .int (112 + nI (spn nn j2))), (5, .int (112 + nI (spn nn j1))), (4, .int (mxI (nu j1) (nu j2))), (3, .int (mnI (nu j1) (nu j2))), (0, .ref t0), (1, .int (nI j1)), (2, .int (nI j2))]) hx hb dX3_gain_76 hl (by decide) rfl (fun ls hl => ?_)
  have L78 : ∀ (n k : Nat), k + n = (nn * nn) → ∀ (H : Heap) (locs : List Loc) (ls : Array Slot), va_P D vwCl [(t0, .inr (3, [.ref t1, .ref t2, .ref t3, .int (nI nn)])), (t1, .inl (cyI, 64, .inl nu)), (t2, .inl (cyI, 64, .inl sp)), (t3, .inl (cyI, 225, .inl ne))] H → va_D A [(t0, .inr (3, [.ref t1, .ref t2, .ref t3, .int (nI nn)])), (t1, .inl (cyI, 64, .inl nu)), (t2, .inl (cyI, 64, .inl sp)), (t3, .inl (cyI, 225, .inl ne))] → va_S A s.heap H locs → lv_has ls 14 [(0, .ref t0), (1, .int (nI j1)), (2, .int (nI j2)), (3, .int (mnI (nu j1) (nu j2))), (4, .int (mxI (nu j1) (nu j2))), (5, .int (112 + nI (spn nn j1))), (6, .int (112 + nI (spn nn j2))), (7, .int (nI (nn * nn))), (8, .long (gnI nn nu j1 j2 k)), (10, .int (nI k))] → W p l e rm_X3_gain s m ([.ref t0, .int (nI j1), .int (nI j2)] : List Value).toArray below meth c H locs 0 0 (MQ below (xk_Ql D A (wrt nn nu j1 j2) [(t0, .inr (3, [.ref t1, .ref t2, .ref t3, .int (nI nn)])), (t1, .inl (cyI, 64, .inl nu)), (t2, .inl (cyI, 64, .inl sp)), (t3, .inl (cyI, 225, .inl ne))]) ([.ref t0, .int (nI j1), .int (nI j2)] : List Value).toArray s 0 0 A) (F0 m 78 ls []) := by
    intro n
    induction n with
    | zero =>
      intro k hk_78  H locs ls hP hD hS hl
      have hz_78 : nn * nn = k := hk_78.symm
      subst hz_78
      refine lv_iload hx hb dX3_gain_78 (lv_at hl 9 rfl) ?_
      refine lv_iload hx hb dX3_gain_80 (lv_at hl 7 rfl) ?_
      refine lv_icmp_ge (tgt := 162) hx hb dX3_gain_82 (by decide) (fun c_82 => ?_) (fun c_82 => xk_ba c_82 (nI_le (Nat.le_refl _) (by omega)))
      refine lv_aload_n hx hb dX3_gain_162 rfl (lv_at hl 0 rfl) ?_
      refine va_get (D := D) (ci := 3) (v := .ref t1) (C := RX3) (T := TX3) (N := 4) hx hb hts in_X3_gain_X3 hown hK hP 0 rfl rfl 0 (by decide) hf11 (fun _ h9 => h9) rfl dX3_gain_163 ?_
      refine lv_iload_n hx hb dX3_gain_166 rfl (lv_at hl 1 rfl) ?_
      refine xk_iald hx hb hK hP 1 rfl j1 (rfl) (by omega) (by decide) dX3_gain_167 ?_
      refine lv_iload_n hx hb dX3_gain_168 rfl (lv_at hl 3 rfl) ?_
      refine lv_icmp_ne (tgt := 177) hx hb dX3_gain_169 (by decide) (fun c_169 => ?_) (fun c_169 => ?_)
      · refine lv_lload hx hb dX3_gain_177 (lv_at hl 8 rfl) ?_
        refine lv_lneg hx hb dX3_gain_179 ?_
        exact xk_lret hx hb hr hlocks hP hD hS (by rw [← gnV_eq hn2 hpm hj1 hj2 hne, gnV, if_neg c_169]) (rfl) dX3_gain_180
      · refine lv_lload hx hb dX3_gain_172 (lv_at hl 8 rfl) ?_
        refine lv_goto (tgt := 180) hx hb dX3_gain_174 (by decide) ?_
        exact xk_lret hx hb hr hlocks hP hD hS (by rw [← gnV_eq hn2 hpm hj1 hj2 hne, gnV, if_pos c_169]) (rfl) dX3_gain_180
    | succ n ih_78 =>
      intro k hk_78  H locs ls hP hD hS hl
      refine lv_iload hx hb dX3_gain_78 (lv_at hl 9 rfl) ?_
      refine lv_iload hx hb dX3_gain_80 (lv_at hl 7 rfl) ?_
      refine lv_icmp_ge (tgt := 162) hx hb dX3_gain_82 (by decide) (fun c_82 => xk_ab c_82 (nI_ge (by omega) (by omega))) (fun c_82 => ?_)
      refine lv_aload_n hx hb dX3_gain_85 rfl (lv_at hl 0 rfl) ?_
      refine va_get (D := D) (ci := 3) (v := .ref t1) (C := RX3) (T := TX3) (N := 4) hx hb hts in_X3_gain_X3 hown hK hP 0 rfl rfl 0 (by decide) hf11 (fun _ h9 => h9) rfl dX3_gain_86 ?_
      refine lv_iload hx hb dX3_gain_89 (lv_at hl 9 rfl) ?_
      refine xk_iald hx hb hK hP 1 rfl k (rfl) (by omega) (by decide) dX3_gain_91 ?_
      refine lv_istore (lv' := [(11, .int (nu k)), (0, .ref t0), (1, .int (nI j1)), (2, .int (nI j2)), (3, .int (mnI (nu j1) (nu j2))), (4, .int (mxI (nu j1) (nu j2))), (5, .int (112 + nI (spn nn j1))), (6, .int (112 + nI (spn nn j2))), (7, .int (nI (nn * nn))), (8, .long (gnI nn nu j1 j2 k)), (10, .int (nI k))]) hx hb dX3_gain_92 hl (by decide) rfl (fun ls hl => ?_)
      refine lv_iload hx hb dX3_gain_94 (lv_at hl 0 rfl) ?_
      refine lv_iload hx hb dX3_gain_96 (lv_at hl 5 rfl) ?_
      refine lv_icmp_ge (tgt := 156) hx hb dX3_gain_98 (by decide) (fun c_98 => ?_) (fun c_98 => ?_)
      · refine lv_iinc (v := nI (k + 1)) (lv' := [(10, .int (nI (k + 1))), (11, .int (nu k)), (0, .ref t0), (1, .int (nI j1)), (2, .int (nI j2)), (3, .int (mnI (nu j1) (nu j2))), (4, .int (mxI (nu j1) (nu j2))), (5, .int (112 + nI (spn nn j1))), (6, .int (112 + nI (spn nn j2))), (7, .int (nI (nn * nn))), (8, .long (gnI nn nu j1 j2 k))]) hx hb dX3_gain_156 hl (k := 10) rfl (nI_1 _) (by decide) rfl (fun ls hl => ?_)
        refine lv_goto (tgt := 78) hx hb dX3_gain_159 (by decide) ?_
        have eq_92 : (gnI nn nu j1 j2 k : Int64) = gnI nn nu j1 j2 (k + 1) := gnI_a c_98
        have hl := lv_sub (l' := [(0, .ref t0), (1, .int (nI j1)), (2, .int (nI j2)), (3, .int (mnI (nu j1) (nu j2))), (4, .int (mxI (nu j1) (nu j2))), (5, .int (112 + nI (spn nn j1))), (6, .int (112 + nI (spn nn j2))), (7, .int (nI (nn * nn))), (8, .long (gnI nn nu j1 j2 k)), (10, .int (nI (k + 1)))]) hl [2, 3, 4, 5, 6, 7, 8, 9, 10, 0] rfl
        have eL : ([(0, .ref t0), (1, .int (nI j1)), (2, .int (nI j2)), (3, .int (mnI (nu j1) (nu j2))), (4, .int (mxI (nu j1) (nu j2))), (5, .int (112 + nI (spn nn j1))), (6, .int (112 + nI (spn nn j2))), (7, .int (nI (nn * nn))), (8, .long (gnI nn nu j1 j2 k)), (10, .int (nI (k + 1)))] : List (Nat × Value)) = [(0, .ref t0), (1, .int (nI j1)), (2, .int (nI j2)), (3, .int (mnI (nu j1) (nu j2))), (4, .int (mxI (nu j1) (nu j2))), (5, .int (112 + nI (spn nn j1))), (6, .int (112 + nI (spn nn j2))), (7, .int (nI (nn * nn))), (8, .long (gnI nn nu j1 j2 (k + 1))), (10, .int (nI (k + 1)))] := (congrArg (List.cons _) (congrArg (List.cons _) (congrArg (List.cons _) (congrArg (List.cons _) (congrArg (List.cons _) (congrArg (List.cons _) (congrArg (List.cons _) (congrArg (List.cons _) (congr (congrArg List.cons (congrArg (fun z => (((8 : Nat), Value.long z) : Nat × Value)) eq_92)) (congrArg (List.cons _) rfl))))))))))
        rw [eL] at hl
        exact ih_78 (k + 1) (by omega)  _ _ _ hP hD hS hl
      · refine lv_iload hx hb dX3_gain_101 (lv_at hl 0 rfl) ?_
        refine lv_iload_n hx hb dX3_gain_103 rfl (lv_at hl 4 rfl) ?_
        refine lv_icmp_eq (tgt := 156) hx hb dX3_gain_104 (by decide) (fun c_104 => ?_) (fun c_104 => ?_)
        · refine lv_iinc (v := nI (k + 1)) (lv' := [(10, .int (nI (k + 1))), (11, .int (nu k)), (0, .ref t0), (1, .int (nI j1)), (2, .int (nI j2)), (3, .int (mnI (nu j1) (nu j2))), (4, .int (mxI (nu j1) (nu j2))), (5, .int (112 + nI (spn nn j1))), (6, .int (112 + nI (spn nn j2))), (7, .int (nI (nn * nn))), (8, .long (gnI nn nu j1 j2 k))]) hx hb dX3_gain_156 hl (k := 10) rfl (nI_1 _) (by decide) rfl (fun ls hl => ?_)
          refine lv_goto (tgt := 78) hx hb dX3_gain_159 (by decide) ?_
          have eq_102 : (gnI nn nu j1 j2 k : Int64) = gnI nn nu j1 j2 (k + 1) := gnI_b c_98 c_104
          have hl := lv_sub (l' := [(0, .ref t0), (1, .int (nI j1)), (2, .int (nI j2)), (3, .int (mnI (nu j1) (nu j2))), (4, .int (mxI (nu j1) (nu j2))), (5, .int (112 + nI (spn nn j1))), (6, .int (112 + nI (spn nn j2))), (7, .int (nI (nn * nn))), (8, .long (gnI nn nu j1 j2 k)), (10, .int (nI (k + 1)))]) hl [2, 3, 4, 5, 6, 7, 8, 9, 10, 0] rfl
          have eL : ([(0, .ref t0), (1, .int (nI j1)), (2, .int (nI j2)), (3, .int (mnI (nu j1) (nu j2))), (4, .int (mxI (nu j1) (nu j2))), (5, .int (112 + nI (spn nn j1))), (6, .int (112 + nI (spn nn j2))), (7, .int (nI (nn * nn))), (8, .long (gnI nn nu j1 j2 k)), (10, .int (nI (k + 1)))] : List (Nat × Value)) = [(0, .ref t0), (1, .int (nI j1)), (2, .int (nI j2)), (3, .int (mnI (nu j1) (nu j2))), (4, .int (mxI (nu j1) (nu j2))), (5, .int (112 + nI (spn nn j1))), (6, .int (112 + nI (spn nn j2))), (7, .int (nI (nn * nn))), (8, .long (gnI nn nu j1 j2 (k + 1))), (10, .int (nI (k + 1)))] := (congrArg (List.cons _) (congrArg (List.cons _) (congrArg (List.cons _) (congrArg (List.cons _) (congrArg (List.cons _) (congrArg (List.cons _) (congrArg (List.cons _) (congrArg (List.cons _) (congr (congrArg List.cons (congrArg (fun z => (((8 : Nat), Value.long z) : Nat × Value)) eq_102)) (congrArg (List.cons _) rfl))))))))))
          rw [eL] at hl
          exact ih_78 (k + 1) (by omega)  _ _ _ hP hD hS hl
        · refine lv_iload hx hb dX3_gain_107 (lv_at hl 5 rfl) ?_
          refine lv_iload_n hx hb dX3_gain_109 rfl (lv_at hl 4 rfl) ?_
          refine lv_iload hx hb dX3_gain_110 (lv_at hl 0 rfl) ?_
          refine va_mmax hx hb (hml.trans hl.1.symm) hown (hts (.methodLink RX3 61 Lib.Math.max.name) (by decide +kernel)) (hts (.static Lib.Math.max.name) (by decide +kernel)) (hts (.initialized "java/lang/Math") (by decide +kernel)) (hts (.code Lib.Math.max.name Lib.Math.max.code 2 (some .int)) (by decide +kernel)) (Nat.le_of_ble_eq_true rfl) (Nat.le_of_ble_eq_true rfl) (Nat.zero_le _) (Nat.zero_le _) dX3_gain_112 ?_
          refine xk_topi (y := mxI (mnI (nu j1) (nu j2)) (nu k)) (rfl) ?_
          refine lv_isub hx hb dX3_gain_115 ?_
          refine lv_istore (lv' := [(12, .int (mxI (nu j1) (nu j2) - mxI (mnI (nu j1) (nu j2)) (nu k))), (11, .int (nu k)), (0, .ref t0), (1, .int (nI j1)), (2, .int (nI j2)), (3, .int (mnI (nu j1) (nu j2))), (4, .int (mxI (nu j1) (nu j2))), (5, .int (112 + nI (spn nn j1))), (6, .int (112 + nI (spn nn j2))), (7, .int (nI (nn * nn))), (8, .long (gnI nn nu j1 j2 k)), (10, .int (nI k))]) hx hb dX3_gain_116 hl (by decide) rfl (fun ls hl => ?_)
          refine lv_aload_n hx hb dX3_gain_118 rfl (lv_at hl 2 rfl) ?_
          refine va_get (D := D) (ci := 3) (v := .ref t2) (C := RX3) (T := TX3) (N := 4) hx hb hts in_X3_gain_X3 hown hK hP 0 rfl rfl 1 (by decide) hf15 (fun _ h9 => h9) rfl dX3_gain_119 ?_
          refine lv_iload hx hb dX3_gain_122 (lv_at hl 11 rfl) ?_
          refine xk_iald hx hb hK hP 2 rfl k (rfl) (by omega) (by decide) dX3_gain_124 ?_
          refine xk_topi (y := nI (spn nn k)) (hsp k (by omega)) ?_
          refine lv_istore (lv' := [(13, .int (nI (spn nn k))), (12, .int (mxI (nu j1) (nu j2) - mxI (mnI (nu j1) (nu j2)) (nu k))), (11, .int (nu k)), (0, .ref t0), (1, .int (nI j1)), (2, .int (nI j2)), (3, .int (mnI (nu j1) (nu j2))), (4, .int (mxI (nu j1) (nu j2))), (5, .int (112 + nI (spn nn j1))), (6, .int (112 + nI (spn nn j2))), (7, .int (nI (nn * nn))), (8, .long (gnI nn nu j1 j2 k)), (10, .int (nI k))]) hx hb dX3_gain_125 hl (by decide) rfl (fun ls hl => ?_)
          refine lv_lload hx hb dX3_gain_127 (lv_at hl 11 rfl) ?_
          refine lv_iload hx hb dX3_gain_129 (lv_at hl 1 rfl) ?_
          refine lv_i2l hx hb dX3_gain_131 rfl ?_
          refine lv_aload_n hx hb dX3_gain_132 rfl (lv_at hl 3 rfl) ?_
          refine lv_iload hx hb dX3_gain_133 (lv_at hl 8 rfl) ?_
          refine lv_iload hx hb dX3_gain_135 (lv_at hl 0 rfl) ?_
          refine lv_isub hx hb dX3_gain_137 ?_
          refine xk_topi (y := nI (112 + spn nn j1 - spn nn k)) (sp_ix (spn_le hn2 (by omega))) ?_
          have hPc := hP.sub (ws' := [(t0, .inr (3, [.ref t1, .ref t2, .ref t3, .int (nI nn)])), (t1, .inl (cyI, 64, .inl nu)), (t2, .inl (cyI, 64, .inl sp)), (t3, .inl (cyI, 225, .inl ne))]) [0, 1, 2, 3] rfl
          have hDc := hD.sub (ws' := [(t0, .inr (3, [.ref t1, .ref t2, .ref t3, .int (nI nn)])), (t1, .inl (cyI, 64, .inl nu)), (t2, .inl (cyI, 64, .inl sp)), (t3, .inl (cyI, 225, .inl ne))]) [0, 1, 2, 3] (by decide) rfl
          refine xk_calli (wr := []) (w2 := [(t0, .inr (3, [.ref t1, .ref t2, .ref t3, .int (nI nn)])), (t1, .inl (cyI, 64, .inl nu)), (t2, .inl (cyI, 64, .inl sp)), (t3, .inl (cyI, 225, .inl ne))]) (va_runV (As := [.int (nI (112 + spn nn j1 - spn nn k))]) (rest := [.long ((mxI (nu j1) (nu j2) - mxI (mnI (nu j1) (nu j2)) (nu k)).toInt64), .long (gnI nn nu j1 j2 k)]) hC0 (ct_X3_nearnessAt l D cyI cyZ t0 t1 t2 t3 _ nn nu sp ne (112 + spn nn j1 - spn nn k) (by have h1 := spn_le (p := j1) hn2 (by omega); have h2 := spn_le (p := k) hn2 (by omega); omega)) (cwV 1 hts gX3_gain_X3_nearnessAt rfl rfl rfl (by decide +kernel) ⟨Nat.le_of_ble_eq_true rfl, Nat.le_of_ble_eq_true rfl⟩) ⟨xk_blind, va_recv hK hPc (ci := 3) (q0 := 0) rfl rfl, xk_pre hK hN hPc hDc⟩ rfl rfl hl.1 rfl (lv_room (Nat.le_of_ble_eq_true rfl)) dX3_gain_138 ⟨Nat.le_of_ble_eq_true rfl, Nat.le_of_ble_eq_true rfl⟩) hP hD hS hA [0, 1, 2, 3] [] [0, 1, 2, 3] rfl rfl (by decide) (by decide) rfl (by decide) (fun H locs hP hD hS => ?_)
          refine xk_topi (y := nrp nn k j1) (hne0 k j1 (by omega) (by omega)) ?_
          refine lv_aload_n hx hb dX3_gain_141 rfl (lv_at hl 3 rfl) ?_
          refine lv_iload hx hb dX3_gain_142 (lv_at hl 9 rfl) ?_
          refine lv_iload hx hb dX3_gain_144 (lv_at hl 0 rfl) ?_
          refine lv_isub hx hb dX3_gain_146 ?_
          refine xk_topi (y := nI (112 + spn nn j2 - spn nn k)) (sp_ix (spn_le hn2 (by omega))) ?_
          have hPc := hP.sub (ws' := [(t0, .inr (3, [.ref t1, .ref t2, .ref t3, .int (nI nn)])), (t1, .inl (cyI, 64, .inl nu)), (t2, .inl (cyI, 64, .inl sp)), (t3, .inl (cyI, 225, .inl ne))]) [0, 1, 2, 3] rfl
          have hDc := hD.sub (ws' := [(t0, .inr (3, [.ref t1, .ref t2, .ref t3, .int (nI nn)])), (t1, .inl (cyI, 64, .inl nu)), (t2, .inl (cyI, 64, .inl sp)), (t3, .inl (cyI, 225, .inl ne))]) [0, 1, 2, 3] (by decide) rfl
          refine xk_calli (wr := []) (w2 := [(t0, .inr (3, [.ref t1, .ref t2, .ref t3, .int (nI nn)])), (t1, .inl (cyI, 64, .inl nu)), (t2, .inl (cyI, 64, .inl sp)), (t3, .inl (cyI, 225, .inl ne))]) (va_runV (As := [.int (nI (112 + spn nn j2 - spn nn k))]) (rest := [.int (nrp nn k j1), .long ((mxI (nu j1) (nu j2) - mxI (mnI (nu j1) (nu j2)) (nu k)).toInt64), .long (gnI nn nu j1 j2 k)]) hC0 (ct_X3_nearnessAt l D cyI cyZ t0 t1 t2 t3 _ nn nu sp ne (112 + spn nn j2 - spn nn k) (by have h1 := spn_le (p := j2) hn2 (by omega); have h2 := spn_le (p := k) hn2 (by omega); omega)) (cwV 1 hts gX3_gain_X3_nearnessAt rfl rfl rfl (by decide +kernel) ⟨Nat.le_of_ble_eq_true rfl, Nat.le_of_ble_eq_true rfl⟩) ⟨xk_blind, va_recv hK hPc (ci := 3) (q0 := 0) rfl rfl, xk_pre hK hN hPc hDc⟩ rfl rfl hl.1 rfl (lv_room (Nat.le_of_ble_eq_true rfl)) dX3_gain_147 ⟨Nat.le_of_ble_eq_true rfl, Nat.le_of_ble_eq_true rfl⟩) hP hD hS hA [0, 1, 2, 3] [] [0, 1, 2, 3] rfl rfl (by decide) (by decide) rfl (by decide) (fun H locs hP hD hS => ?_)
          refine xk_topi (y := nrp nn k j2) (hne0 k j2 (by omega) (by omega)) ?_
          refine lv_isub hx hb dX3_gain_150 ?_
          refine lv_i2l hx hb dX3_gain_151 rfl ?_
          refine lv_lmul hx hb dX3_gain_152 ?_
          refine lv_ladd hx hb dX3_gain_153 ?_
          refine lv_lstore (lv' := [(8, .long (gnI nn nu j1 j2 k + ((mxI (nu j1) (nu j2) - mxI (mnI (nu j1) (nu j2)) (nu k)).toInt64 * (nrp nn k j1 - nrp nn k j2).toInt64))), (13, .int (nI (spn nn k))), (12, .int (mxI (nu j1) (nu j2) - mxI (mnI (nu j1) (nu j2)) (nu k))), (11, .int (nu k)), (0, .ref t0), (1, .int (nI j1)), (2, .int (nI j2)), (3, .int (mnI (nu j1) (nu j2))), (4, .int (mxI (nu j1) (nu j2))), (5, .int (112 + nI (spn nn j1))), (6, .int (112 + nI (spn nn j2))), (7, .int (nI (nn * nn))), (10, .int (nI k))]) hx hb dX3_gain_154 hl (by decide) rfl (fun ls hl => ?_)
          refine lv_iinc (v := nI (k + 1)) (lv' := [(10, .int (nI (k + 1))), (8, .long (gnI nn nu j1 j2 k + ((mxI (nu j1) (nu j2) - mxI (mnI (nu j1) (nu j2)) (nu k)).toInt64 * (nrp nn k j1 - nrp nn k j2).toInt64))), (13, .int (nI (spn nn k))), (12, .int (mxI (nu j1) (nu j2) - mxI (mnI (nu j1) (nu j2)) (nu k))), (11, .int (nu k)), (0, .ref t0), (1, .int (nI j1)), (2, .int (nI j2)), (3, .int (mnI (nu j1) (nu j2))), (4, .int (mxI (nu j1) (nu j2))), (5, .int (112 + nI (spn nn j1))), (6, .int (112 + nI (spn nn j2))), (7, .int (nI (nn * nn)))]) hx hb dX3_gain_156 hl (k := 12) rfl (nI_1 _) (by decide) rfl (fun ls hl => ?_)
          refine lv_goto (tgt := 78) hx hb dX3_gain_159 (by decide) ?_
          have eq_148 : (gnI nn nu j1 j2 k + ((mxI (nu j1) (nu j2) - mxI (mnI (nu j1) (nu j2)) (nu k)).toInt64 * (nrp nn k j1 - nrp nn k j2).toInt64) : Int64) = gnI nn nu j1 j2 (k + 1) := gnI_c c_98 c_104
          have hl := lv_sub (l' := [(0, .ref t0), (1, .int (nI j1)), (2, .int (nI j2)), (3, .int (mnI (nu j1) (nu j2))), (4, .int (mxI (nu j1) (nu j2))), (5, .int (112 + nI (spn nn j1))), (6, .int (112 + nI (spn nn j2))), (7, .int (nI (nn * nn))), (8, .long (gnI nn nu j1 j2 k + ((mxI (nu j1) (nu j2) - mxI (mnI (nu j1) (nu j2)) (nu k)).toInt64 * (nrp nn k j1 - nrp nn k j2).toInt64))), (10, .int (nI (k + 1)))]) hl [5, 6, 7, 8, 9, 10, 11, 12, 1, 0] rfl
          have eL : ([(0, .ref t0), (1, .int (nI j1)), (2, .int (nI j2)), (3, .int (mnI (nu j1) (nu j2))), (4, .int (mxI (nu j1) (nu j2))), (5, .int (112 + nI (spn nn j1))), (6, .int (112 + nI (spn nn j2))), (7, .int (nI (nn * nn))), (8, .long (gnI nn nu j1 j2 k + ((mxI (nu j1) (nu j2) - mxI (mnI (nu j1) (nu j2)) (nu k)).toInt64 * (nrp nn k j1 - nrp nn k j2).toInt64))), (10, .int (nI (k + 1)))] : List (Nat × Value)) = [(0, .ref t0), (1, .int (nI j1)), (2, .int (nI j2)), (3, .int (mnI (nu j1) (nu j2))), (4, .int (mxI (nu j1) (nu j2))), (5, .int (112 + nI (spn nn j1))), (6, .int (112 + nI (spn nn j2))), (7, .int (nI (nn * nn))), (8, .long (gnI nn nu j1 j2 (k + 1))), (10, .int (nI (k + 1)))] := (congrArg (List.cons _) (congrArg (List.cons _) (congrArg (List.cons _) (congrArg (List.cons _) (congrArg (List.cons _) (congrArg (List.cons _) (congrArg (List.cons _) (congrArg (List.cons _) (congr (congrArg List.cons (congrArg (fun z => (((8 : Nat), Value.long z) : Nat × Value)) eq_148)) (congrArg (List.cons _) rfl))))))))))
          rw [eL] at hl
          exact ih_78 (k + 1) (by omega)  _ _ _ hP hD hS hl
  have eq_153 : (0 : Int64) = gnI nn nu j1 j2 0 := rfl
  have eq_154 : (0 : Int32) = nI 0 := rfl
  have hl := lv_sub (l' := [(0, .ref t0), (1, .int (nI j1)), (2, .int (nI j2)), (3, .int (mnI (nu j1) (nu j2))), (4, .int (mxI (nu j1) (nu j2))), (5, .int (112 + nI (spn nn j1))), (6, .int (112 + nI (spn nn j2))), (7, .int (nI (nn * nn))), (8, .long 0), (10, .int 0)]) hl [7, 8, 9, 6, 5, 4, 3, 2, 1, 0] rfl
  have eL : ([(0, .ref t0), (1, .int (nI j1)), (2, .int (nI j2)), (3, .int (mnI (nu j1) (nu j2))), (4, .int (mxI (nu j1) (nu j2))), (5, .int (112 + nI (spn nn j1))), (6, .int (112 + nI (spn nn j2))), (7, .int (nI (nn * nn))), (8, .long 0), (10, .int 0)] : List (Nat × Value)) = [(0, .ref t0), (1, .int (nI j1)), (2, .int (nI j2)), (3, .int (mnI (nu j1) (nu j2))), (4, .int (mxI (nu j1) (nu j2))), (5, .int (112 + nI (spn nn j1))), (6, .int (112 + nI (spn nn j2))), (7, .int (nI (nn * nn))), (8, .long (gnI nn nu j1 j2 0)), (10, .int (nI 0))] := (congrArg (List.cons _) (congrArg (List.cons _) (congrArg (List.cons _) (congrArg (List.cons _) (congrArg (List.cons _) (congrArg (List.cons _) (congrArg (List.cons _) (congrArg (List.cons _) (congr (congrArg List.cons (congrArg (fun z => (((8 : Nat), Value.long z) : Nat × Value)) eq_153)) (congr (congrArg List.cons (congrArg (fun z => (((10 : Nat), Value.int z) : Nat × Value)) eq_154)) rfl))))))))))
  rw [eL] at hl
  exact L78 _ 0 (Nat.zero_add _)  _ _ _ hP hD hS hl

abbrev rm_X3_swapBest_no : Room := { frames := 5, cells := 0, slots := 0, locals := 110 }
set_option maxHeartbeats 4000000 in
set_option maxRecDepth 100000 in
theorem ct_X3_swapBest_no (l : Launch) (D : va_G) (cyI cyZ : ClassId) (t0 t1 t2 t3 : Nat) (sz : Nat) (nn : Nat) (nu sp ne : Nat → Int32)  (hn1 : 1 ≤ nn) (hn2 : nn ≤ 8) (hsp : SPok nn sp) (hne0 : NEok nn ne) (hpm : PMok nn nu) (hz : ¬ 0 < (bp nn nu).1) : Met l yX3_swapBest wsX3_swapBest rm_X3_swapBest_no (xk_Pc D cyI cyZ [.ref t0] [(t0, .inr (3, [.ref t1, .ref t2, .ref t3, .int (nI nn)])), (t1, .inl (cyI, 64, .inl nu)), (t2, .inl (cyI, 64, .inl sp)), (t3, .inl (cyI, 225, .inl ne))] sz) (xk_Qi D (va_A [(t0, .inr (3, [.ref t1, .ref t2, .ref t3, .int (nI nn)])), (t1, .inl (cyI, 64, .inl nu)), (t2, .inl (cyI, 64, .inl sp)), (t3, .inl (cyI, 225, .inl ne))] sz) 0 [(t0, .inr (3, [.ref t1, .ref t2, .ref t3, .int (nI nn)])), (t1, .inl (cyI, 64, .inl nu)), (t2, .inl (cyI, 64, .inl sp)), (t3, .inl (cyI, 225, .inl ne))]) 0 0 (va_A [(t0, .inr (3, [.ref t1, .ref t2, .ref t3, .int (nI nn)])), (t1, .inl (cyI, 64, .inl nu)), (t2, .inl (cyI, 64, .inl sp)), (t3, .inl (cyI, 225, .inl ne))] sz) := by
  refine xk_of (own := RX3) (cc := cX3_swapBest) (maxL := 10) (ret := (some .boolean)) (Qc := fun A => xk_Qi D A 0 [(t0, .inr (3, [.ref t1, .ref t2, .ref t3, .int (nI nn)])), (t1, .inl (cyI, 64, .inl nu)), (t2, .inl (cyI, 64, .inl sp)), (t3, .inl (cyI, 225, .inl ne))]) (by decide) rfl rfl (Nat.le_of_ble_eq_true rfl) ?_
  intro p e s m below meth c A ls hx hb hr hml hown hlocks hin hts hA hP hK hN hD hS hl
  have hC0 := xk_fix hx hb hml hown hts
  have hl : lv_has ls 10 [(0, .ref t0)] := hl
  have hq := nn_64 hn2
  have hq1 := nn_1 hn1
  refine lv_aload_n hx hb dX3_swapBest_0 rfl (lv_at hl 0 rfl) ?_
  have hPc := hP.sub (ws' := [(t0, .inr (3, [.ref t1, .ref t2, .ref t3, .int (nI nn)])), (t1, .inl (cyI, 64, .inl nu)), (t2, .inl (cyI, 64, .inl sp)), (t3, .inl (cyI, 225, .inl ne))]) [0, 1, 2, 3] rfl
  have hDc := hD.sub (ws' := [(t0, .inr (3, [.ref t1, .ref t2, .ref t3, .int (nI nn)])), (t1, .inl (cyI, 64, .inl nu)), (t2, .inl (cyI, 64, .inl sp)), (t3, .inl (cyI, 225, .inl ne))]) [0, 1, 2, 3] (by decide) rfl
  refine xk_calli (wr := []) (w2 := [(t0, .inr (3, [.ref t1, .ref t2, .ref t3, .int (nI nn)])), (t1, .inl (cyI, 64, .inl nu)), (t2, .inl (cyI, 64, .inl sp)), (t3, .inl (cyI, 225, .inl ne))]) (va_runV (As := []) (rest := []) hC0 (ct_X3_places l D cyI cyZ t0 t1 t2 t3 _ nn nu sp ne (by first | assumption | omega)) (cwV 0 hts gX3_swapBest_X3_places rfl rfl rfl (by decide +kernel) ⟨Nat.le_of_ble_eq_true rfl, Nat.le_of_ble_eq_true rfl⟩) ⟨xk_blind, va_recv hK hPc (ci := 3) (q0 := 0) rfl rfl, xk_pre hK hN hPc hDc⟩ rfl rfl hl.1 rfl (lv_room (Nat.le_of_ble_eq_true rfl)) dX3_swapBest_1 ⟨Nat.le_of_ble_eq_true rfl, Nat.le_of_ble_eq_true rfl⟩) hP hD hS hA [0, 1, 2, 3] [] [0, 1, 2, 3] rfl rfl (by decide) (by decide) rfl (by decide) (fun H locs hP hD hS => ?_)
  refine lv_istore_n (lv' := [(1, .int (nI (nn * nn))), (0, .ref t0)]) hx hb dX3_swapBest_4 rfl hl (by decide) rfl (fun ls hl => ?_)
  refine lv_lconst (v := 0) hx hb dX3_swapBest_5 (by decide) ?_
  refine lv_lstore_n (lv' := [(2, .long 0), (1, .int (nI (nn * nn))), (0, .ref t0)]) hx hb dX3_swapBest_6 rfl hl (by decide) rfl (fun ls hl => ?_)
  refine lv_iconst (v := 0) hx hb dX3_swapBest_7 (by decide) ?_
  refine lv_istore (lv' := [(4, .int 0), (2, .long 0), (1, .int (nI (nn * nn))), (0, .ref t0)]) hx hb dX3_swapBest_8 hl (by decide) rfl (fun ls hl => ?_)
  refine lv_iconst (v := 0) hx hb dX3_swapBest_10 (by decide) ?_
  refine lv_istore (lv' := [(5, .int 0), (4, .int 0), (2, .long 0), (1, .int (nI (nn * nn))), (0, .ref t0)]) hx hb dX3_swapBest_11 hl (by decide) rfl (fun ls hl => ?_)
  refine lv_iconst (v := 0) hx hb dX3_swapBest_13 (by decide) ?_
  refine lv_istore (lv' := [(6, .int 0), (5, .int 0), (4, .int 0), (2, .long 0), (1, .int (nI (nn * nn))), (0, .ref t0)]) hx hb dX3_swapBest_14 hl (by decide) rfl (fun ls hl => ?_)
  have L16 : ∀ (n k : Nat), k + n = (nn * nn) → ∀ (H : Heap) (locs : List Loc) (ls : Array Slot), va_P D vwCl [(t0, .inr (3, [.ref t1, .ref t2, .ref t3, .int (nI nn)])), (t1, .inl (cyI, 64, .inl nu)), (t2, .inl (cyI, 64, .inl sp)), (t3, .inl (cyI, 225, .inl ne))] H → va_D A [(t0, .inr (3, [.ref t1, .ref t2, .ref t3, .int (nI nn)])), (t1, .inl (cyI, 64, .inl nu)), (t2, .inl (cyI, 64, .inl sp)), (t3, .inl (cyI, 225, .inl ne))] → va_S A s.heap H locs → lv_has ls 10 [(0, .ref t0), (1, .int (nI (nn * nn))), (2, .long ((sbO (wrt nn nu) (nn * nn) k).1)), (4, .int (nI (sbO (wrt nn nu) (nn * nn) k).2.1)), (5, .int (nI (sbO (wrt nn nu) (nn * nn) k).2.2)), (6, .int (nI k))] → W p l e rm_X3_swapBest_no s m ([.ref t0] : List Value).toArray below meth c H locs 0 0 (MQ below (xk_Qi D A 0 [(t0, .inr (3, [.ref t1, .ref t2, .ref t3, .int (nI nn)])), (t1, .inl (cyI, 64, .inl nu)), (t2, .inl (cyI, 64, .inl sp)), (t3, .inl (cyI, 225, .inl ne))]) ([.ref t0] : List Value).toArray s 0 0 A) (F0 m 16 ls []) := by
    intro n
    induction n with
    | zero =>
      intro k hk_16  H locs ls hP hD hS hl
      have hz_16 : nn * nn = k := hk_16.symm
      subst hz_16
      refine lv_iload hx hb dX3_swapBest_16 (lv_at hl 5 rfl) ?_
      refine lv_iload_n hx hb dX3_swapBest_18 rfl (lv_at hl 1 rfl) ?_
      refine lv_icmp_ge (tgt := 74) hx hb dX3_swapBest_19 (by decide) (fun c_19 => ?_) (fun c_19 => xk_ba c_19 (nI_le (Nat.le_refl _) (by omega)))
      refine lv_aload_n hx hb dX3_swapBest_74 rfl (lv_at hl 0 rfl) ?_
      refine lv_iload hx hb dX3_swapBest_75 (lv_at hl 3 rfl) ?_
      refine lv_iload hx hb dX3_swapBest_77 (lv_at hl 4 rfl) ?_
      have hPc := hP.sub (ws' := [(t0, .inr (3, [.ref t1, .ref t2, .ref t3, .int (nI nn)])), (t1, .inl (cyI, 64, .inl nu)), (t2, .inl (cyI, 64, .inl sp)), (t3, .inl (cyI, 225, .inl ne))]) [0, 1, 2, 3] rfl
      have hDc := hD.sub (ws' := [(t0, .inr (3, [.ref t1, .ref t2, .ref t3, .int (nI nn)])), (t1, .inl (cyI, 64, .inl nu)), (t2, .inl (cyI, 64, .inl sp)), (t3, .inl (cyI, 225, .inl ne))]) [0, 1, 2, 3] (by decide) rfl
      refine xk_callv (wr := []) (w2 := [(t0, .inr (3, [.ref t1, .ref t2, .ref t3, .int (nI nn)])), (t1, .inl (cyI, 64, .inl nu)), (t2, .inl (cyI, 64, .inl sp)), (t3, .inl (cyI, 225, .inl ne))]) (va_runV (As := [.int (nI (sbO (wrt nn nu) (nn * nn) (nn * nn)).2.1), .int (nI (sbO (wrt nn nu) (nn * nn) (nn * nn)).2.2)]) (rest := []) hC0 (ct_X3_swap_no l D cyI cyZ t0 t1 t2 t3 _ nn nu sp ne (nI (sbO (wrt nn nu) (nn * nn) (nn * nn)).2.1) (nI (sbO (wrt nn nu) (nn * nn) (nn * nn)).2.2) (by first | assumption | omega) (fun h => h.2.2 (by rw [sbO_z hz]))) (cwV 2 hts gX3_swapBest_X3_swap rfl rfl rfl (by decide +kernel) ⟨Nat.le_of_ble_eq_true rfl, Nat.le_of_ble_eq_true rfl⟩) ⟨xk_blind, va_recv hK hPc (ci := 3) (q0 := 0) rfl rfl, xk_pre hK hN hPc hDc⟩ rfl rfl hl.1 rfl (lv_room (Nat.le_of_ble_eq_true rfl)) dX3_swapBest_79 ⟨Nat.le_of_ble_eq_true rfl, Nat.le_of_ble_eq_true rfl⟩) hP hD hS hA [0, 1, 2, 3] [] [0, 1, 2, 3] rfl rfl (by decide) (by decide) rfl (by decide) (fun H locs hP hD hS => ?_)
      refine lv_lload_n hx hb dX3_swapBest_82 rfl (lv_at hl 2 rfl) ?_
      refine lv_lconst (v := 0) hx hb dX3_swapBest_83 (by decide) ?_
      refine W.lcmp hx hb dX3_swapBest_84 ?_
      refine lv_if_le (tgt := 92) hx hb dX3_swapBest_85 (by decide) (fun c_85 => ?_) (fun c_85 => xk_ba c_85 ((lg_cmp_le _ _).mpr (Int64.not_lt.mp hz)))
      refine lv_iconst (v := 0) hx hb dX3_swapBest_92 (by decide) ?_
      exact xk_zret hx hb hr hlocks hP hD hS (rfl) (rfl) (rfl) dX3_swapBest_93
    | succ n ih_16 =>
      intro k hk_16  H locs ls hP hD hS hl
      refine lv_iload hx hb dX3_swapBest_16 (lv_at hl 5 rfl) ?_
      refine lv_iload_n hx hb dX3_swapBest_18 rfl (lv_at hl 1 rfl) ?_
      refine lv_icmp_ge (tgt := 74) hx hb dX3_swapBest_19 (by decide) (fun c_19 => xk_ab c_19 (nI_ge (by omega) (by omega))) (fun c_19 => ?_)
      refine lv_iload hx hb dX3_swapBest_22 (lv_at hl 5 rfl) ?_
      refine lv_iconst (v := 1) hx hb dX3_swapBest_24 (by decide) ?_
      refine lv_iadd hx hb dX3_swapBest_25 ?_
      refine lv_istore (lv' := [(7, .int (nI k + 1)), (0, .ref t0), (1, .int (nI (nn * nn))), (2, .long ((sbO (wrt nn nu) (nn * nn) k).1)), (4, .int (nI (sbO (wrt nn nu) (nn * nn) k).2.1)), (5, .int (nI (sbO (wrt nn nu) (nn * nn) k).2.2)), (6, .int (nI k))]) hx hb dX3_swapBest_26 hl (by decide) rfl (fun ls hl => ?_)
      have L28 : ∀ (n q : Nat), q + n = (nn * nn - (k + 1)) → ∀ (H : Heap) (locs : List Loc) (ls : Array Slot), va_P D vwCl [(t0, .inr (3, [.ref t1, .ref t2, .ref t3, .int (nI nn)])), (t1, .inl (cyI, 64, .inl nu)), (t2, .inl (cyI, 64, .inl sp)), (t3, .inl (cyI, 225, .inl ne))] H → va_D A [(t0, .inr (3, [.ref t1, .ref t2, .ref t3, .int (nI nn)])), (t1, .inl (cyI, 64, .inl nu)), (t2, .inl (cyI, 64, .inl sp)), (t3, .inl (cyI, 225, .inl ne))] → va_S A s.heap H locs → lv_has ls 10 [(0, .ref t0), (1, .int (nI (nn * nn))), (2, .long ((sbI (wrt nn nu) k (sbO (wrt nn nu) (nn * nn) k) q).1)), (4, .int (nI (sbI (wrt nn nu) k (sbO (wrt nn nu) (nn * nn) k) q).2.1)), (5, .int (nI (sbI (wrt nn nu) k (sbO (wrt nn nu) (nn * nn) k) q).2.2)), (6, .int (nI k)), (7, .int (nI (k + 1 + q)))] → W p l e rm_X3_swapBest_no s m ([.ref t0] : List Value).toArray below meth c H locs 0 0 (MQ below (xk_Qi D A 0 [(t0, .inr (3, [.ref t1, .ref t2, .ref t3, .int (nI nn)])), (t1, .inl (cyI, 64, .inl nu)), (t2, .inl (cyI, 64, .inl sp)), (t3, .inl (cyI, 225, .inl ne))]) ([.ref t0] : List Value).toArray s 0 0 A) (F0 m 28 ls []) := by
        intro n
        induction n with
        | zero =>
          intro q hk_28  H locs ls hP hD hS hl
          have hz_28 : nn * nn - (k + 1) = q := hk_28.symm
          subst hz_28
          refine lv_iload hx hb dX3_swapBest_28 (lv_at hl 6 rfl) ?_
          refine lv_iload_n hx hb dX3_swapBest_30 rfl (lv_at hl 1 rfl) ?_
          refine lv_icmp_ge (tgt := 68) hx hb dX3_swapBest_31 (by decide) (fun c_31 => ?_) (fun c_31 => xk_ba c_31 (nI_le (by omega) (by omega)))
          refine lv_iinc (v := nI (k + 1)) (lv' := [(6, .int (nI (k + 1))), (0, .ref t0), (1, .int (nI (nn * nn))), (2, .long ((sbI (wrt nn nu) k (sbO (wrt nn nu) (nn * nn) k) (nn * nn - (k + 1))).1)), (4, .int (nI (sbI (wrt nn nu) k (sbO (wrt nn nu) (nn * nn) k) (nn * nn - (k + 1))).2.1)), (5, .int (nI (sbI (wrt nn nu) k (sbO (wrt nn nu) (nn * nn) k) (nn * nn - (k + 1))).2.2)), (7, .int (nI (k + 1 + (nn * nn - (k + 1)))))]) hx hb dX3_swapBest_68 hl (k := 5) rfl (nI_1 _) (by decide) rfl (fun ls hl => ?_)
          refine lv_goto (tgt := 16) hx hb dX3_swapBest_71 (by decide) ?_
          have eq_56 : ((sbI (wrt nn nu) k (sbO (wrt nn nu) (nn * nn) k) (nn * nn - (k + 1))).1 : Int64) = (sbO (wrt nn nu) (nn * nn) (k + 1)).1 := rfl
          have eq_57 : (nI (sbI (wrt nn nu) k (sbO (wrt nn nu) (nn * nn) k) (nn * nn - (k + 1))).2.1 : Int32) = nI (sbO (wrt nn nu) (nn * nn) (k + 1)).2.1 := rfl
          have eq_58 : (nI (sbI (wrt nn nu) k (sbO (wrt nn nu) (nn * nn) k) (nn * nn - (k + 1))).2.2 : Int32) = nI (sbO (wrt nn nu) (nn * nn) (k + 1)).2.2 := rfl
          have hl := lv_sub (l' := [(0, .ref t0), (1, .int (nI (nn * nn))), (2, .long ((sbI (wrt nn nu) k (sbO (wrt nn nu) (nn * nn) k) (nn * nn - (k + 1))).1)), (4, .int (nI (sbI (wrt nn nu) k (sbO (wrt nn nu) (nn * nn) k) (nn * nn - (k + 1))).2.1)), (5, .int (nI (sbI (wrt nn nu) k (sbO (wrt nn nu) (nn * nn) k) (nn * nn - (k + 1))).2.2)), (6, .int (nI (k + 1)))]) hl [1, 2, 3, 4, 5, 0] rfl
          have eL : ([(0, .ref t0), (1, .int (nI (nn * nn))), (2, .long ((sbI (wrt nn nu) k (sbO (wrt nn nu) (nn * nn) k) (nn * nn - (k + 1))).1)), (4, .int (nI (sbI (wrt nn nu) k (sbO (wrt nn nu) (nn * nn) k) (nn * nn - (k + 1))).2.1)), (5, .int (nI (sbI (wrt nn nu) k (sbO (wrt nn nu) (nn * nn) k) (nn * nn - (k + 1))).2.2)), (6, .int (nI (k + 1)))] : List (Nat × Value)) = [(0, .ref t0), (1, .int (nI (nn * nn))), (2, .long ((sbO (wrt nn nu) (nn * nn) (k + 1)).1)), (4, .int (nI (sbO (wrt nn nu) (nn * nn) (k + 1)).2.1)), (5, .int (nI (sbO (wrt nn nu) (nn * nn) (k + 1)).2.2)), (6, .int (nI (k + 1)))] := (congrArg (List.cons _) (congrArg (List.cons _) (congr (congrArg List.cons (congrArg (fun z => (((2 : Nat), Value.long z) : Nat × Value)) eq_56)) (congr (congrArg List.cons (congrArg (fun z => (((4 : Nat), Value.int z) : Nat × Value)) eq_57)) (congr (congrArg List.cons (congrArg (fun z => (((5 : Nat), Value.int z) : Nat × Value)) eq_58)) (congrArg (List.cons _) rfl))))))
          rw [eL] at hl
          exact ih_16 (k + 1) (by omega)  _ _ _ hP hD hS hl
        | succ n ih_28 =>
          intro q hk_28  H locs ls hP hD hS hl
          refine lv_iload hx hb dX3_swapBest_28 (lv_at hl 6 rfl) ?_
          refine lv_iload_n hx hb dX3_swapBest_30 rfl (lv_at hl 1 rfl) ?_
          refine lv_icmp_ge (tgt := 68) hx hb dX3_swapBest_31 (by decide) (fun c_31 => xk_ab c_31 (nI_ge (by omega) (by omega))) (fun c_31 => ?_)
          refine lv_aload_n hx hb dX3_swapBest_34 rfl (lv_at hl 0 rfl) ?_
          refine lv_iload hx hb dX3_swapBest_35 (lv_at hl 5 rfl) ?_
          refine lv_iload hx hb dX3_swapBest_37 (lv_at hl 6 rfl) ?_
          have hPc := hP.sub (ws' := [(t0, .inr (3, [.ref t1, .ref t2, .ref t3, .int (nI nn)])), (t1, .inl (cyI, 64, .inl nu)), (t2, .inl (cyI, 64, .inl sp)), (t3, .inl (cyI, 225, .inl ne))]) [0, 1, 2, 3] rfl
          have hDc := hD.sub (ws' := [(t0, .inr (3, [.ref t1, .ref t2, .ref t3, .int (nI nn)])), (t1, .inl (cyI, 64, .inl nu)), (t2, .inl (cyI, 64, .inl sp)), (t3, .inl (cyI, 225, .inl ne))]) [0, 1, 2, 3] (by decide) rfl
          refine xk_calll (wr := []) (w2 := [(t0, .inr (3, [.ref t1, .ref t2, .ref t3, .int (nI nn)])), (t1, .inl (cyI, 64, .inl nu)), (t2, .inl (cyI, 64, .inl sp)), (t3, .inl (cyI, 225, .inl ne))]) (va_runV (As := [.int (nI k), .int (nI (k + 1 + q))]) (rest := []) hC0 (ct_X3_gain l D cyI cyZ t0 t1 t2 t3 _ nn nu sp ne k (k + 1 + q) (by first | assumption | omega) (by first | assumption | omega) (by first | assumption | omega) (by first | assumption | omega) (by first | assumption | omega) (by omega) (by omega) (by omega)) (cwV 2 hts gX3_swapBest_X3_gain rfl rfl rfl (by decide +kernel) ⟨Nat.le_of_ble_eq_true rfl, Nat.le_of_ble_eq_true rfl⟩) ⟨xk_blind, va_recv hK hPc (ci := 3) (q0 := 0) rfl rfl, xk_pre hK hN hPc hDc⟩ rfl rfl hl.1 rfl (lv_room (Nat.le_of_ble_eq_true rfl)) dX3_swapBest_39 ⟨Nat.le_of_ble_eq_true rfl, Nat.le_of_ble_eq_true rfl⟩) hP hD hS hA [0, 1, 2, 3] [] [0, 1, 2, 3] rfl rfl (by decide) (by decide) rfl (by decide) (fun H locs hP hD hS => ?_)
          refine lv_lstore (lv' := [(8, .long (wrt nn nu k (k + 1 + q))), (0, .ref t0), (1, .int (nI (nn * nn))), (2, .long ((sbI (wrt nn nu) k (sbO (wrt nn nu) (nn * nn) k) q).1)), (4, .int (nI (sbI (wrt nn nu) k (sbO (wrt nn nu) (nn * nn) k) q).2.1)), (5, .int (nI (sbI (wrt nn nu) k (sbO (wrt nn nu) (nn * nn) k) q).2.2)), (6, .int (nI k)), (7, .int (nI (k + 1 + q)))]) hx hb dX3_swapBest_42 hl (by decide) rfl (fun ls hl => ?_)
          refine lv_lload hx hb dX3_swapBest_44 (lv_at hl 0 rfl) ?_
          refine lv_lload_n hx hb dX3_swapBest_46 rfl (lv_at hl 3 rfl) ?_
          refine W.lcmp hx hb dX3_swapBest_47 ?_
          refine lv_if_le (tgt := 62) hx hb dX3_swapBest_48 (by decide) (fun c_48 => ?_) (fun c_48 => ?_)
          · have c_48 := (lg_cmp_le _ _).mp c_48
            refine lv_iinc (v := nI (k + 1 + q + 1)) (lv' := [(7, .int (nI (k + 1 + q + 1))), (8, .long (wrt nn nu k (k + 1 + q))), (0, .ref t0), (1, .int (nI (nn * nn))), (2, .long ((sbI (wrt nn nu) k (sbO (wrt nn nu) (nn * nn) k) q).1)), (4, .int (nI (sbI (wrt nn nu) k (sbO (wrt nn nu) (nn * nn) k) q).2.1)), (5, .int (nI (sbI (wrt nn nu) k (sbO (wrt nn nu) (nn * nn) k) q).2.2)), (6, .int (nI k))]) hx hb dX3_swapBest_62 hl (k := 7) rfl (nI_1 _) (by decide) rfl (fun ls hl => ?_)
            refine lv_goto (tgt := 28) hx hb dX3_swapBest_65 (by decide) ?_
            have eq_82 : ((sbI (wrt nn nu) k (sbO (wrt nn nu) (nn * nn) k) q).1 : Int64) = (sbI (wrt nn nu) k (sbO (wrt nn nu) (nn * nn) k) (q + 1)).1 := by rw [sbI_no c_48]
            have eq_83 : (nI (sbI (wrt nn nu) k (sbO (wrt nn nu) (nn * nn) k) q).2.1 : Int32) = nI (sbI (wrt nn nu) k (sbO (wrt nn nu) (nn * nn) k) (q + 1)).2.1 := by rw [sbI_no c_48]
            have eq_84 : (nI (sbI (wrt nn nu) k (sbO (wrt nn nu) (nn * nn) k) q).2.2 : Int32) = nI (sbI (wrt nn nu) k (sbO (wrt nn nu) (nn * nn) k) (q + 1)).2.2 := by rw [sbI_no c_48]
            have eq_85 : (nI (k + 1 + q + 1) : Int32) = nI (k + 1 + (q + 1)) := rfl
            have hl := lv_sub (l' := [(0, .ref t0), (1, .int (nI (nn * nn))), (2, .long ((sbI (wrt nn nu) k (sbO (wrt nn nu) (nn * nn) k) q).1)), (4, .int (nI (sbI (wrt nn nu) k (sbO (wrt nn nu) (nn * nn) k) q).2.1)), (5, .int (nI (sbI (wrt nn nu) k (sbO (wrt nn nu) (nn * nn) k) q).2.2)), (6, .int (nI k)), (7, .int (nI (k + 1 + q + 1)))]) hl [2, 3, 4, 5, 6, 7, 0] rfl
            have eL : ([(0, .ref t0), (1, .int (nI (nn * nn))), (2, .long ((sbI (wrt nn nu) k (sbO (wrt nn nu) (nn * nn) k) q).1)), (4, .int (nI (sbI (wrt nn nu) k (sbO (wrt nn nu) (nn * nn) k) q).2.1)), (5, .int (nI (sbI (wrt nn nu) k (sbO (wrt nn nu) (nn * nn) k) q).2.2)), (6, .int (nI k)), (7, .int (nI (k + 1 + q + 1)))] : List (Nat × Value)) = [(0, .ref t0), (1, .int (nI (nn * nn))), (2, .long ((sbI (wrt nn nu) k (sbO (wrt nn nu) (nn * nn) k) (q + 1)).1)), (4, .int (nI (sbI (wrt nn nu) k (sbO (wrt nn nu) (nn * nn) k) (q + 1)).2.1)), (5, .int (nI (sbI (wrt nn nu) k (sbO (wrt nn nu) (nn * nn) k) (q + 1)).2.2)), (6, .int (nI k)), (7, .int (nI (k + 1 + (q + 1))))] := (congrArg (List.cons _) (congrArg (List.cons _) (congr (congrArg List.cons (congrArg (fun z => (((2 : Nat), Value.long z) : Nat × Value)) eq_82)) (congr (congrArg List.cons (congrArg (fun z => (((4 : Nat), Value.int z) : Nat × Value)) eq_83)) (congr (congrArg List.cons (congrArg (fun z => (((5 : Nat), Value.int z) : Nat × Value)) eq_84)) (congrArg (List.cons _) (congr (congrArg List.cons (congrArg (fun z => (((7 : Nat), Value.int z) : Nat × Value)) eq_85)) rfl)))))))
            rw [eL] at hl
            exact ih_28 (q + 1) (by omega)  _ _ _ hP hD hS hl
          · have c_48 : ¬ wrt nn nu k (k + 1 + q) ≤ (sbI (wrt nn nu) k (sbO (wrt nn nu) (nn * nn) k) q).1 := fun h => c_48 ((lg_cmp_le _ _).mpr h)
            refine lv_lload hx hb dX3_swapBest_51 (lv_at hl 0 rfl) ?_
            refine lv_lstore_n (lv' := [(2, .long (wrt nn nu k (k + 1 + q))), (8, .long (wrt nn nu k (k + 1 + q))), (0, .ref t0), (1, .int (nI (nn * nn))), (4, .int (nI (sbI (wrt nn nu) k (sbO (wrt nn nu) (nn * nn) k) q).2.1)), (5, .int (nI (sbI (wrt nn nu) k (sbO (wrt nn nu) (nn * nn) k) q).2.2)), (6, .int (nI k)), (7, .int (nI (k + 1 + q)))]) hx hb dX3_swapBest_53 rfl hl (by decide) rfl (fun ls hl => ?_)
            refine lv_iload hx hb dX3_swapBest_54 (lv_at hl 6 rfl) ?_
            refine lv_istore (lv' := [(4, .int (nI k)), (2, .long (wrt nn nu k (k + 1 + q))), (8, .long (wrt nn nu k (k + 1 + q))), (0, .ref t0), (1, .int (nI (nn * nn))), (5, .int (nI (sbI (wrt nn nu) k (sbO (wrt nn nu) (nn * nn) k) q).2.2)), (6, .int (nI k)), (7, .int (nI (k + 1 + q)))]) hx hb dX3_swapBest_56 hl (by decide) rfl (fun ls hl => ?_)
            refine lv_iload hx hb dX3_swapBest_58 (lv_at hl 7 rfl) ?_
            refine lv_istore (lv' := [(5, .int (nI (k + 1 + q))), (4, .int (nI k)), (2, .long (wrt nn nu k (k + 1 + q))), (8, .long (wrt nn nu k (k + 1 + q))), (0, .ref t0), (1, .int (nI (nn * nn))), (6, .int (nI k)), (7, .int (nI (k + 1 + q)))]) hx hb dX3_swapBest_60 hl (by decide) rfl (fun ls hl => ?_)
            refine lv_iinc (v := nI (k + 1 + q + 1)) (lv' := [(7, .int (nI (k + 1 + q + 1))), (5, .int (nI (k + 1 + q))), (4, .int (nI k)), (2, .long (wrt nn nu k (k + 1 + q))), (8, .long (wrt nn nu k (k + 1 + q))), (0, .ref t0), (1, .int (nI (nn * nn))), (6, .int (nI k))]) hx hb dX3_swapBest_62 hl (k := 7) rfl (nI_1 _) (by decide) rfl (fun ls hl => ?_)
            refine lv_goto (tgt := 28) hx hb dX3_swapBest_65 (by decide) ?_
            have eq_99 : (wrt nn nu k (k + 1 + q) : Int64) = (sbI (wrt nn nu) k (sbO (wrt nn nu) (nn * nn) k) (q + 1)).1 := by rw [sbI_yes c_48]
            have eq_100 : (nI k : Int32) = nI (sbI (wrt nn nu) k (sbO (wrt nn nu) (nn * nn) k) (q + 1)).2.1 := by rw [sbI_yes c_48]
            have eq_101 : (nI (k + 1 + q) : Int32) = nI (sbI (wrt nn nu) k (sbO (wrt nn nu) (nn * nn) k) (q + 1)).2.2 := by rw [sbI_yes c_48]
            have eq_102 : (nI (k + 1 + q + 1) : Int32) = nI (k + 1 + (q + 1)) := rfl
            have hl := lv_sub (l' := [(0, .ref t0), (1, .int (nI (nn * nn))), (2, .long (wrt nn nu k (k + 1 + q))), (4, .int (nI k)), (5, .int (nI (k + 1 + q))), (6, .int (nI k)), (7, .int (nI (k + 1 + q + 1)))]) hl [5, 6, 3, 2, 1, 7, 0] rfl
            have eL : ([(0, .ref t0), (1, .int (nI (nn * nn))), (2, .long (wrt nn nu k (k + 1 + q))), (4, .int (nI k)), (5, .int (nI (k + 1 + q))), (6, .int (nI k)), (7, .int (nI (k + 1 + q + 1)))] : List (Nat × Value)) = [(0, .ref t0), (1, .int (nI (nn * nn))), (2, .long ((sbI (wrt nn nu) k (sbO (wrt nn nu) (nn * nn) k) (q + 1)).1)), (4, .int (nI (sbI (wrt nn nu) k (sbO (wrt nn nu) (nn * nn) k) (q + 1)).2.1)), (5, .int (nI (sbI (wrt nn nu) k (sbO (wrt nn nu) (nn * nn) k) (q + 1)).2.2)), (6, .int (nI k)), (7, .int (nI (k + 1 + (q + 1))))] := (congrArg (List.cons _) (congrArg (List.cons _) (congr (congrArg List.cons (congrArg (fun z => (((2 : Nat), Value.long z) : Nat × Value)) eq_99)) (congr (congrArg List.cons (congrArg (fun z => (((4 : Nat), Value.int z) : Nat × Value)) eq_100)) (congr (congrArg List.cons (congrArg (fun z => (((5 : Nat), Value.int z) : Nat × Value)) eq_101)) (congrArg (List.cons _) (congr (congrArg List.cons (congrArg (fun z => (((7 : Nat), Value.int z) : Nat × Value)) eq_102)) rfl)))))))
            rw [eL] at hl
            exact ih_28 (q + 1) (by omega)  _ _ _ hP hD hS hl
      have eq_107 : ((sbO (wrt nn nu) (nn * nn) k).1 : Int64) = (sbI (wrt nn nu) k (sbO (wrt nn nu) (nn * nn) k) 0).1 := rfl
      have eq_108 : (nI (sbO (wrt nn nu) (nn * nn) k).2.1 : Int32) = nI (sbI (wrt nn nu) k (sbO (wrt nn nu) (nn * nn) k) 0).2.1 := rfl
      have eq_109 : (nI (sbO (wrt nn nu) (nn * nn) k).2.2 : Int32) = nI (sbI (wrt nn nu) k (sbO (wrt nn nu) (nn * nn) k) 0).2.2 := rfl
      have eq_110 : (nI k + 1 : Int32) = nI (k + 1 + 0) := nI_1 k
      have hl := lv_sub (l' := [(0, .ref t0), (1, .int (nI (nn * nn))), (2, .long ((sbO (wrt nn nu) (nn * nn) k).1)), (4, .int (nI (sbO (wrt nn nu) (nn * nn) k).2.1)), (5, .int (nI (sbO (wrt nn nu) (nn * nn) k).2.2)), (6, .int (nI k)), (7, .int (nI k + 1))]) hl [1, 2, 3, 4, 5, 6, 0] rfl
      have eL : ([(0, .ref t0), (1, .int (nI (nn * nn))), (2, .long ((sbO (wrt nn nu) (nn * nn) k).1)), (4, .int (nI (sbO (wrt nn nu) (nn * nn) k).2.1)), (5, .int (nI (sbO (wrt nn nu) (nn * nn) k).2.2)), (6, .int (nI k)), (7, .int (nI k + 1))] : List (Nat × Value)) = [(0, .ref t0), (1, .int (nI (nn * nn))), (2, .long ((sbI (wrt nn nu) k (sbO (wrt nn nu) (nn * nn) k) 0).1)), (4, .int (nI (sbI (wrt nn nu) k (sbO (wrt nn nu) (nn * nn) k) 0).2.1)), (5, .int (nI (sbI (wrt nn nu) k (sbO (wrt nn nu) (nn * nn) k) 0).2.2)), (6, .int (nI k)), (7, .int (nI (k + 1 + 0)))] := (congrArg (List.cons _) (congrArg (List.cons _) (congr (congrArg List.cons (congrArg (fun z => (((2 : Nat), Value.long z) : Nat × Value)) eq_107)) (congr (congrArg List.cons (congrArg (fun z => (((4 : Nat), Value.int z) : Nat × Value)) eq_108)) (congr (congrArg List.cons (congrArg (fun z => (((5 : Nat), Value.int z) : Nat × Value)) eq_109)) (congrArg (List.cons _) (congr (congrArg List.cons (congrArg (fun z => (((7 : Nat), Value.int z) : Nat × Value)) eq_110)) rfl)))))))
      rw [eL] at hl
      exact L28 _ 0 (Nat.zero_add _)  _ _ _ hP hD hS hl
  have eq_115 : (0 : Int64) = (sbO (wrt nn nu) (nn * nn) 0).1 := rfl
  have eq_116 : (0 : Int32) = nI (sbO (wrt nn nu) (nn * nn) 0).2.1 := rfl
  have eq_117 : (0 : Int32) = nI (sbO (wrt nn nu) (nn * nn) 0).2.2 := rfl
  have eq_118 : (0 : Int32) = nI 0 := rfl
  have hl := lv_sub (l' := [(0, .ref t0), (1, .int (nI (nn * nn))), (2, .long 0), (4, .int 0), (5, .int 0), (6, .int 0)]) hl [5, 4, 3, 2, 1, 0] rfl
  have eL : ([(0, .ref t0), (1, .int (nI (nn * nn))), (2, .long 0), (4, .int 0), (5, .int 0), (6, .int 0)] : List (Nat × Value)) = [(0, .ref t0), (1, .int (nI (nn * nn))), (2, .long ((sbO (wrt nn nu) (nn * nn) 0).1)), (4, .int (nI (sbO (wrt nn nu) (nn * nn) 0).2.1)), (5, .int (nI (sbO (wrt nn nu) (nn * nn) 0).2.2)), (6, .int (nI 0))] := (congrArg (List.cons _) (congrArg (List.cons _) (congr (congrArg List.cons (congrArg (fun z => (((2 : Nat), Value.long z) : Nat × Value)) eq_115)) (congr (congrArg List.cons (congrArg (fun z => (((4 : Nat), Value.int z) : Nat × Value)) eq_116)) (congr (congrArg List.cons (congrArg (fun z => (((5 : Nat), Value.int z) : Nat × Value)) eq_117)) (congr (congrArg List.cons (congrArg (fun z => (((6 : Nat), Value.int z) : Nat × Value)) eq_118)) rfl))))))
  rw [eL] at hl
  exact L16 _ 0 (Nat.zero_add _)  _ _ _ hP hD hS hl

abbrev rm_X3_swapBest_ok : Room := { frames := 5, cells := 0, slots := 0, locals := 110 }
set_option maxHeartbeats 4000000 in
set_option maxRecDepth 100000 in
theorem ct_X3_swapBest_ok (l : Launch) (D : va_G) (cyI cyZ : ClassId) (t0 t1 t2 t3 : Nat) (sz : Nat) (nn : Nat) (nu sp ne : Nat → Int32)  (hn1 : 1 ≤ nn) (hn2 : nn ≤ 8) (hsp : SPok nn sp) (hne0 : NEok nn ne) (hpm : PMok nn nu) (hz : 0 < (bp nn nu).1) : Met l yX3_swapBest wsX3_swapBest rm_X3_swapBest_ok (xk_Pc D cyI cyZ [.ref t0] [(t0, .inr (3, [.ref t1, .ref t2, .ref t3, .int (nI nn)])), (t1, .inl (cyI, 64, .inl nu)), (t2, .inl (cyI, 64, .inl sp)), (t3, .inl (cyI, 225, .inl ne))] sz) (xk_Qi D (va_A [(t0, .inr (3, [.ref t1, .ref t2, .ref t3, .int (nI nn)])), (t1, .inl (cyI, 64, .inl nu)), (t2, .inl (cyI, 64, .inl sp)), (t3, .inl (cyI, 225, .inl ne))] sz) 1 [(t0, .inr (3, [.ref t1, .ref t2, .ref t3, .int (nI nn)])), (t1, .inl (cyI, 64, .inl (sw nu (bp nn nu).2.1 (bp nn nu).2.2))), (t2, .inl (cyI, 64, .inl sp)), (t3, .inl (cyI, 225, .inl ne))]) 0 0 (va_A [(t0, .inr (3, [.ref t1, .ref t2, .ref t3, .int (nI nn)])), (t1, .inl (cyI, 64, .inl nu)), (t2, .inl (cyI, 64, .inl sp)), (t3, .inl (cyI, 225, .inl ne))] sz) := by
  refine xk_of (own := RX3) (cc := cX3_swapBest) (maxL := 10) (ret := (some .boolean)) (Qc := fun A => xk_Qi D A 1 [(t0, .inr (3, [.ref t1, .ref t2, .ref t3, .int (nI nn)])), (t1, .inl (cyI, 64, .inl (sw nu (bp nn nu).2.1 (bp nn nu).2.2))), (t2, .inl (cyI, 64, .inl sp)), (t3, .inl (cyI, 225, .inl ne))]) (by decide) rfl rfl (Nat.le_of_ble_eq_true rfl) ?_
  intro p e s m below meth c A ls hx hb hr hml hown hlocks hin hts hA hP hK hN hD hS hl
  have hC0 := xk_fix hx hb hml hown hts
  have hl : lv_has ls 10 [(0, .ref t0)] := hl
  have hq := nn_64 hn2
  have hq1 := nn_1 hn1
  have hzi := sbO_in hz
  refine lv_aload_n hx hb dX3_swapBest_0 rfl (lv_at hl 0 rfl) ?_
  have hPc := hP.sub (ws' := [(t0, .inr (3, [.ref t1, .ref t2, .ref t3, .int (nI nn)])), (t1, .inl (cyI, 64, .inl nu)), (t2, .inl (cyI, 64, .inl sp)), (t3, .inl (cyI, 225, .inl ne))]) [0, 1, 2, 3] rfl
  have hDc := hD.sub (ws' := [(t0, .inr (3, [.ref t1, .ref t2, .ref t3, .int (nI nn)])), (t1, .inl (cyI, 64, .inl nu)), (t2, .inl (cyI, 64, .inl sp)), (t3, .inl (cyI, 225, .inl ne))]) [0, 1, 2, 3] (by decide) rfl
  refine xk_calli (wr := []) (w2 := [(t0, .inr (3, [.ref t1, .ref t2, .ref t3, .int (nI nn)])), (t1, .inl (cyI, 64, .inl nu)), (t2, .inl (cyI, 64, .inl sp)), (t3, .inl (cyI, 225, .inl ne))]) (va_runV (As := []) (rest := []) hC0 (ct_X3_places l D cyI cyZ t0 t1 t2 t3 _ nn nu sp ne (by first | assumption | omega)) (cwV 0 hts gX3_swapBest_X3_places rfl rfl rfl (by decide +kernel) ⟨Nat.le_of_ble_eq_true rfl, Nat.le_of_ble_eq_true rfl⟩) ⟨xk_blind, va_recv hK hPc (ci := 3) (q0 := 0) rfl rfl, xk_pre hK hN hPc hDc⟩ rfl rfl hl.1 rfl (lv_room (Nat.le_of_ble_eq_true rfl)) dX3_swapBest_1 ⟨Nat.le_of_ble_eq_true rfl, Nat.le_of_ble_eq_true rfl⟩) hP hD hS hA [0, 1, 2, 3] [] [0, 1, 2, 3] rfl rfl (by decide) (by decide) rfl (by decide) (fun H locs hP hD hS => ?_)
  refine lv_istore_n (lv' := [(1, .int (nI (nn * nn))), (0, .ref t0)]) hx hb dX3_swapBest_4 rfl hl (by decide) rfl (fun ls hl => ?_)
  refine lv_lconst (v := 0) hx hb dX3_swapBest_5 (by decide) ?_
  refine lv_lstore_n (lv' := [(2, .long 0), (1, .int (nI (nn * nn))), (0, .ref t0)]) hx hb dX3_swapBest_6 rfl hl (by decide) rfl (fun ls hl => ?_)
  refine lv_iconst (v := 0) hx hb dX3_swapBest_7 (by decide) ?_
  refine lv_istore (lv' := [(4, .int 0), (2, .long 0), (1, .int (nI (nn * nn))), (0, .ref t0)]) hx hb dX3_swapBest_8 hl (by decide) rfl (fun ls hl => ?_)
  refine lv_iconst (v := 0) hx hb dX3_swapBest_10 (by decide) ?_
  refine lv_istore (lv' := [(5, .int 0), (4, .int 0), (2, .long 0), (1, .int (nI (nn * nn))), (0, .ref t0)]) hx hb dX3_swapBest_11 hl (by decide) rfl (fun ls hl => ?_)
  refine lv_iconst (v := 0) hx hb dX3_swapBest_13 (by decide) ?_
  refine lv_istore (lv' := [(6, .int 0), (5, .int 0), (4, .int 0), (2, .long 0), (1, .int (nI (nn * nn))), (0, .ref t0)]) hx hb dX3_swapBest_14 hl (by decide) rfl (fun ls hl => ?_)
  have L16 : ∀ (n k : Nat), k + n = (nn * nn) → ∀ (H : Heap) (locs : List Loc) (ls : Array Slot), va_P D vwCl [(t0, .inr (3, [.ref t1, .ref t2, .ref t3, .int (nI nn)])), (t1, .inl (cyI, 64, .inl nu)), (t2, .inl (cyI, 64, .inl sp)), (t3, .inl (cyI, 225, .inl ne))] H → va_D A [(t0, .inr (3, [.ref t1, .ref t2, .ref t3, .int (nI nn)])), (t1, .inl (cyI, 64, .inl nu)), (t2, .inl (cyI, 64, .inl sp)), (t3, .inl (cyI, 225, .inl ne))] → va_S A s.heap H locs → lv_has ls 10 [(0, .ref t0), (1, .int (nI (nn * nn))), (2, .long ((sbO (wrt nn nu) (nn * nn) k).1)), (4, .int (nI (sbO (wrt nn nu) (nn * nn) k).2.1)), (5, .int (nI (sbO (wrt nn nu) (nn * nn) k).2.2)), (6, .int (nI k))] → W p l e rm_X3_swapBest_ok s m ([.ref t0] : List Value).toArray below meth c H locs 0 0 (MQ below (xk_Qi D A 1 [(t0, .inr (3, [.ref t1, .ref t2, .ref t3, .int (nI nn)])), (t1, .inl (cyI, 64, .inl (sw nu (bp nn nu).2.1 (bp nn nu).2.2))), (t2, .inl (cyI, 64, .inl sp)), (t3, .inl (cyI, 225, .inl ne))]) ([.ref t0] : List Value).toArray s 0 0 A) (F0 m 16 ls []) := by
    intro n
    induction n with
    | zero =>
      intro k hk_16  H locs ls hP hD hS hl
      have hz_16 : nn * nn = k := hk_16.symm
      subst hz_16
      refine lv_iload hx hb dX3_swapBest_16 (lv_at hl 5 rfl) ?_
      refine lv_iload_n hx hb dX3_swapBest_18 rfl (lv_at hl 1 rfl) ?_
      refine lv_icmp_ge (tgt := 74) hx hb dX3_swapBest_19 (by decide) (fun c_19 => ?_) (fun c_19 => xk_ba c_19 (nI_le (Nat.le_refl _) (by omega)))
      refine lv_aload_n hx hb dX3_swapBest_74 rfl (lv_at hl 0 rfl) ?_
      refine lv_iload hx hb dX3_swapBest_75 (lv_at hl 3 rfl) ?_
      refine lv_iload hx hb dX3_swapBest_77 (lv_at hl 4 rfl) ?_
      have hPc := hP.sub (ws' := [(t0, .inr (3, [.ref t1, .ref t2, .ref t3, .int (nI nn)])), (t1, .inl (cyI, 64, .inl nu)), (t2, .inl (cyI, 64, .inl sp)), (t3, .inl (cyI, 225, .inl ne))]) [0, 1, 2, 3] rfl
      have hDc := hD.sub (ws' := [(t0, .inr (3, [.ref t1, .ref t2, .ref t3, .int (nI nn)])), (t1, .inl (cyI, 64, .inl nu)), (t2, .inl (cyI, 64, .inl sp)), (t3, .inl (cyI, 225, .inl ne))]) [0, 1, 2, 3] (by decide) rfl
      refine xk_callv (wr := []) (w2 := [(t0, .inr (3, [.ref t1, .ref t2, .ref t3, .int (nI nn)])), (t1, .inl (cyI, 64, .inl (sw nu ((sbO (wrt nn nu) (nn * nn) (nn * nn)).2.1) ((sbO (wrt nn nu) (nn * nn) (nn * nn)).2.2)))), (t2, .inl (cyI, 64, .inl sp)), (t3, .inl (cyI, 225, .inl ne))]) (va_runV (As := [.int (nI (sbO (wrt nn nu) (nn * nn) (nn * nn)).2.1), .int (nI (sbO (wrt nn nu) (nn * nn) (nn * nn)).2.2)]) (rest := []) hC0 (ct_X3_swap_ok l D cyI cyZ t0 t1 t2 t3 _ nn nu sp ne ((sbO (wrt nn nu) (nn * nn) (nn * nn)).2.1) ((sbO (wrt nn nu) (nn * nn) (nn * nn)).2.2) (by first | assumption | omega) (Nat.lt_trans hzi.1 hzi.2) (hzi.2) (Nat.ne_of_lt hzi.1)) (cwV 2 hts gX3_swapBest_X3_swap rfl rfl rfl (by decide +kernel) ⟨Nat.le_of_ble_eq_true rfl, Nat.le_of_ble_eq_true rfl⟩) ⟨xk_blind, va_recv hK hPc (ci := 3) (q0 := 0) rfl rfl, xk_pre hK hN hPc hDc⟩ rfl rfl hl.1 rfl (lv_room (Nat.le_of_ble_eq_true rfl)) dX3_swapBest_79 ⟨Nat.le_of_ble_eq_true rfl, Nat.le_of_ble_eq_true rfl⟩) hP hD hS hA [0, 1, 2, 3] [] [0, 1, 2, 3] rfl rfl (by decide) (by decide) rfl (by decide) (fun H locs hP hD hS => ?_)
      refine lv_lload_n hx hb dX3_swapBest_82 rfl (lv_at hl 2 rfl) ?_
      refine lv_lconst (v := 0) hx hb dX3_swapBest_83 (by decide) ?_
      refine W.lcmp hx hb dX3_swapBest_84 ?_
      refine lv_if_le (tgt := 92) hx hb dX3_swapBest_85 (by decide) (fun c_85 => xk_ab c_85 (fun h => absurd hz (Int64.not_lt.mpr ((lg_cmp_le _ _).mp h)))) (fun c_85 => ?_)
      refine lv_iconst (v := 1) hx hb dX3_swapBest_88 (by decide) ?_
      refine lv_goto (tgt := 93) hx hb dX3_swapBest_89 (by decide) ?_
      exact xk_zret hx hb hr hlocks hP hD hS (rfl) (rfl) (rfl) dX3_swapBest_93
    | succ n ih_16 =>
      intro k hk_16  H locs ls hP hD hS hl
      refine lv_iload hx hb dX3_swapBest_16 (lv_at hl 5 rfl) ?_
      refine lv_iload_n hx hb dX3_swapBest_18 rfl (lv_at hl 1 rfl) ?_
      refine lv_icmp_ge (tgt := 74) hx hb dX3_swapBest_19 (by decide) (fun c_19 => xk_ab c_19 (nI_ge (by omega) (by omega))) (fun c_19 => ?_)
      refine lv_iload hx hb dX3_swapBest_22 (lv_at hl 5 rfl) ?_
      refine lv_iconst (v := 1) hx hb dX3_swapBest_24 (by decide) ?_
      refine lv_iadd hx hb dX3_swapBest_25 ?_
      refine lv_istore (lv' := [(7, .int (nI k + 1)), (0, .ref t0), (1, .int (nI (nn * nn))), (2, .long ((sbO (wrt nn nu) (nn * nn) k).1)), (4, .int (nI (sbO (wrt nn nu) (nn * nn) k).2.1)), (5, .int (nI (sbO (wrt nn nu) (nn * nn) k).2.2)), (6, .int (nI k))]) hx hb dX3_swapBest_26 hl (by decide) rfl (fun ls hl => ?_)
      have L28 : ∀ (n q : Nat), q + n = (nn * nn - (k + 1)) → ∀ (H : Heap) (locs : List Loc) (ls : Array Slot), va_P D vwCl [(t0, .inr (3, [.ref t1, .ref t2, .ref t3, .int (nI nn)])), (t1, .inl (cyI, 64, .inl nu)), (t2, .inl (cyI, 64, .inl sp)), (t3, .inl (cyI, 225, .inl ne))] H → va_D A [(t0, .inr (3, [.ref t1, .ref t2, .ref t3, .int (nI nn)])), (t1, .inl (cyI, 64, .inl nu)), (t2, .inl (cyI, 64, .inl sp)), (t3, .inl (cyI, 225, .inl ne))] → va_S A s.heap H locs → lv_has ls 10 [(0, .ref t0), (1, .int (nI (nn * nn))), (2, .long ((sbI (wrt nn nu) k (sbO (wrt nn nu) (nn * nn) k) q).1)), (4, .int (nI (sbI (wrt nn nu) k (sbO (wrt nn nu) (nn * nn) k) q).2.1)), (5, .int (nI (sbI (wrt nn nu) k (sbO (wrt nn nu) (nn * nn) k) q).2.2)), (6, .int (nI k)), (7, .int (nI (k + 1 + q)))] → W p l e rm_X3_swapBest_ok s m ([.ref t0] : List Value).toArray below meth c H locs 0 0 (MQ below (xk_Qi D A 1 [(t0, .inr (3, [.ref t1, .ref t2, .ref t3, .int (nI nn)])), (t1, .inl (cyI, 64, .inl (sw nu (bp nn nu).2.1 (bp nn nu).2.2))), (t2, .inl (cyI, 64, .inl sp)), (t3, .inl (cyI, 225, .inl ne))]) ([.ref t0] : List Value).toArray s 0 0 A) (F0 m 28 ls []) := by
        intro n
        induction n with
        | zero =>
          intro q hk_28  H locs ls hP hD hS hl
          have hz_28 : nn * nn - (k + 1) = q := hk_28.symm
          subst hz_28
          refine lv_iload hx hb dX3_swapBest_28 (lv_at hl 6 rfl) ?_
          refine lv_iload_n hx hb dX3_swapBest_30 rfl (lv_at hl 1 rfl) ?_
          refine lv_icmp_ge (tgt := 68) hx hb dX3_swapBest_31 (by decide) (fun c_31 => ?_) (fun c_31 => xk_ba c_31 (nI_le (by omega) (by omega)))
          refine lv_iinc (v := nI (k + 1)) (lv' := [(6, .int (nI (k + 1))), (0, .ref t0), (1, .int (nI (nn * nn))), (2, .long ((sbI (wrt nn nu) k (sbO (wrt nn nu) (nn * nn) k) (nn * nn - (k + 1))).1)), (4, .int (nI (sbI (wrt nn nu) k (sbO (wrt nn nu) (nn * nn) k) (nn * nn - (k + 1))).2.1)), (5, .int (nI (sbI (wrt nn nu) k (sbO (wrt nn nu) (nn * nn) k) (nn * nn - (k + 1))).2.2)), (7, .int (nI (k + 1 + (nn * nn - (k + 1)))))]) hx hb dX3_swapBest_68 hl (k := 5) rfl (nI_1 _) (by decide) rfl (fun ls hl => ?_)
          refine lv_goto (tgt := 16) hx hb dX3_swapBest_71 (by decide) ?_
          have eq_57 : ((sbI (wrt nn nu) k (sbO (wrt nn nu) (nn * nn) k) (nn * nn - (k + 1))).1 : Int64) = (sbO (wrt nn nu) (nn * nn) (k + 1)).1 := rfl
          have eq_58 : (nI (sbI (wrt nn nu) k (sbO (wrt nn nu) (nn * nn) k) (nn * nn - (k + 1))).2.1 : Int32) = nI (sbO (wrt nn nu) (nn * nn) (k + 1)).2.1 := rfl
          have eq_59 : (nI (sbI (wrt nn nu) k (sbO (wrt nn nu) (nn * nn) k) (nn * nn - (k + 1))).2.2 : Int32) = nI (sbO (wrt nn nu) (nn * nn) (k + 1)).2.2 := rfl
          have hl := lv_sub (l' := [(0, .ref t0), (1, .int (nI (nn * nn))), (2, .long ((sbI (wrt nn nu) k (sbO (wrt nn nu) (nn * nn) k) (nn * nn - (k + 1))).1)), (4, .int (nI (sbI (wrt nn nu) k (sbO (wrt nn nu) (nn * nn) k) (nn * nn - (k + 1))).2.1)), (5, .int (nI (sbI (wrt nn nu) k (sbO (wrt nn nu) (nn * nn) k) (nn * nn - (k + 1))).2.2)), (6, .int (nI (k + 1)))]) hl [1, 2, 3, 4, 5, 0] rfl
          have eL : ([(0, .ref t0), (1, .int (nI (nn * nn))), (2, .long ((sbI (wrt nn nu) k (sbO (wrt nn nu) (nn * nn) k) (nn * nn - (k + 1))).1)), (4, .int (nI (sbI (wrt nn nu) k (sbO (wrt nn nu) (nn * nn) k) (nn * nn - (k + 1))).2.1)), (5, .int (nI (sbI (wrt nn nu) k (sbO (wrt nn nu) (nn * nn) k) (nn * nn - (k + 1))).2.2)), (6, .int (nI (k + 1)))] : List (Nat × Value)) = [(0, .ref t0), (1, .int (nI (nn * nn))), (2, .long ((sbO (wrt nn nu) (nn * nn) (k + 1)).1)), (4, .int (nI (sbO (wrt nn nu) (nn * nn) (k + 1)).2.1)), (5, .int (nI (sbO (wrt nn nu) (nn * nn) (k + 1)).2.2)), (6, .int (nI (k + 1)))] := (congrArg (List.cons _) (congrArg (List.cons _) (congr (congrArg List.cons (congrArg (fun z => (((2 : Nat), Value.long z) : Nat × Value)) eq_57)) (congr (congrArg List.cons (congrArg (fun z => (((4 : Nat), Value.int z) : Nat × Value)) eq_58)) (congr (congrArg List.cons (congrArg (fun z => (((5 : Nat), Value.int z) : Nat × Value)) eq_59)) (congrArg (List.cons _) rfl))))))
          rw [eL] at hl
          exact ih_16 (k + 1) (by omega)  _ _ _ hP hD hS hl
        | succ n ih_28 =>
          intro q hk_28  H locs ls hP hD hS hl
          refine lv_iload hx hb dX3_swapBest_28 (lv_at hl 6 rfl) ?_
          refine lv_iload_n hx hb dX3_swapBest_30 rfl (lv_at hl 1 rfl) ?_
          refine lv_icmp_ge (tgt := 68) hx hb dX3_swapBest_31 (by decide) (fun c_31 => xk_ab c_31 (nI_ge (by omega) (by omega))) (fun c_31 => ?_)
          refine lv_aload_n hx hb dX3_swapBest_34 rfl (lv_at hl 0 rfl) ?_
          refine lv_iload hx hb dX3_swapBest_35 (lv_at hl 5 rfl) ?_
          refine lv_iload hx hb dX3_swapBest_37 (lv_at hl 6 rfl) ?_
          have hPc := hP.sub (ws' := [(t0, .inr (3, [.ref t1, .ref t2, .ref t3, .int (nI nn)])), (t1, .inl (cyI, 64, .inl nu)), (t2, .inl (cyI, 64, .inl sp)), (t3, .inl (cyI, 225, .inl ne))]) [0, 1, 2, 3] rfl
          have hDc := hD.sub (ws' := [(t0, .inr (3, [.ref t1, .ref t2, .ref t3, .int (nI nn)])), (t1, .inl (cyI, 64, .inl nu)), (t2, .inl (cyI, 64, .inl sp)), (t3, .inl (cyI, 225, .inl ne))]) [0, 1, 2, 3] (by decide) rfl
          refine xk_calll (wr := []) (w2 := [(t0, .inr (3, [.ref t1, .ref t2, .ref t3, .int (nI nn)])), (t1, .inl (cyI, 64, .inl nu)), (t2, .inl (cyI, 64, .inl sp)), (t3, .inl (cyI, 225, .inl ne))]) (va_runV (As := [.int (nI k), .int (nI (k + 1 + q))]) (rest := []) hC0 (ct_X3_gain l D cyI cyZ t0 t1 t2 t3 _ nn nu sp ne k (k + 1 + q) (by first | assumption | omega) (by first | assumption | omega) (by first | assumption | omega) (by first | assumption | omega) (by first | assumption | omega) (by omega) (by omega) (by omega)) (cwV 2 hts gX3_swapBest_X3_gain rfl rfl rfl (by decide +kernel) ⟨Nat.le_of_ble_eq_true rfl, Nat.le_of_ble_eq_true rfl⟩) ⟨xk_blind, va_recv hK hPc (ci := 3) (q0 := 0) rfl rfl, xk_pre hK hN hPc hDc⟩ rfl rfl hl.1 rfl (lv_room (Nat.le_of_ble_eq_true rfl)) dX3_swapBest_39 ⟨Nat.le_of_ble_eq_true rfl, Nat.le_of_ble_eq_true rfl⟩) hP hD hS hA [0, 1, 2, 3] [] [0, 1, 2, 3] rfl rfl (by decide) (by decide) rfl (by decide) (fun H locs hP hD hS => ?_)
          refine lv_lstore (lv' := [(8, .long (wrt nn nu k (k + 1 + q))), (0, .ref t0), (1, .int (nI (nn * nn))), (2, .long ((sbI (wrt nn nu) k (sbO (wrt nn nu) (nn * nn) k) q).1)), (4, .int (nI (sbI (wrt nn nu) k (sbO (wrt nn nu) (nn * nn) k) q).2.1)), (5, .int (nI (sbI (wrt nn nu) k (sbO (wrt nn nu) (nn * nn) k) q).2.2)), (6, .int (nI k)), (7, .int (nI (k + 1 + q)))]) hx hb dX3_swapBest_42 hl (by decide) rfl (fun ls hl => ?_)
          refine lv_lload hx hb dX3_swapBest_44 (lv_at hl 0 rfl) ?_
          refine lv_lload_n hx hb dX3_swapBest_46 rfl (lv_at hl 3 rfl) ?_
          refine W.lcmp hx hb dX3_swapBest_47 ?_
          refine lv_if_le (tgt := 62) hx hb dX3_swapBest_48 (by decide) (fun c_48 => ?_) (fun c_48 => ?_)
          · have c_48 := (lg_cmp_le _ _).mp c_48
            refine lv_iinc (v := nI (k + 1 + q + 1)) (lv' := [(7, .int (nI (k + 1 + q + 1))), (8, .long (wrt nn nu k (k + 1 + q))), (0, .ref t0), (1, .int (nI (nn * nn))), (2, .long ((sbI (wrt nn nu) k (sbO (wrt nn nu) (nn * nn) k) q).1)), (4, .int (nI (sbI (wrt nn nu) k (sbO (wrt nn nu) (nn * nn) k) q).2.1)), (5, .int (nI (sbI (wrt nn nu) k (sbO (wrt nn nu) (nn * nn) k) q).2.2)), (6, .int (nI k))]) hx hb dX3_swapBest_62 hl (k := 7) rfl (nI_1 _) (by decide) rfl (fun ls hl => ?_)
            refine lv_goto (tgt := 28) hx hb dX3_swapBest_65 (by decide) ?_
            have eq_83 : ((sbI (wrt nn nu) k (sbO (wrt nn nu) (nn * nn) k) q).1 : Int64) = (sbI (wrt nn nu) k (sbO (wrt nn nu) (nn * nn) k) (q + 1)).1 := by rw [sbI_no c_48]
            have eq_84 : (nI (sbI (wrt nn nu) k (sbO (wrt nn nu) (nn * nn) k) q).2.1 : Int32) = nI (sbI (wrt nn nu) k (sbO (wrt nn nu) (nn * nn) k) (q + 1)).2.1 := by rw [sbI_no c_48]
            have eq_85 : (nI (sbI (wrt nn nu) k (sbO (wrt nn nu) (nn * nn) k) q).2.2 : Int32) = nI (sbI (wrt nn nu) k (sbO (wrt nn nu) (nn * nn) k) (q + 1)).2.2 := by rw [sbI_no c_48]
            have eq_86 : (nI (k + 1 + q + 1) : Int32) = nI (k + 1 + (q + 1)) := rfl
            have hl := lv_sub (l' := [(0, .ref t0), (1, .int (nI (nn * nn))), (2, .long ((sbI (wrt nn nu) k (sbO (wrt nn nu) (nn * nn) k) q).1)), (4, .int (nI (sbI (wrt nn nu) k (sbO (wrt nn nu) (nn * nn) k) q).2.1)), (5, .int (nI (sbI (wrt nn nu) k (sbO (wrt nn nu) (nn * nn) k) q).2.2)), (6, .int (nI k)), (7, .int (nI (k + 1 + q + 1)))]) hl [2, 3, 4, 5, 6, 7, 0] rfl
            have eL : ([(0, .ref t0), (1, .int (nI (nn * nn))), (2, .long ((sbI (wrt nn nu) k (sbO (wrt nn nu) (nn * nn) k) q).1)), (4, .int (nI (sbI (wrt nn nu) k (sbO (wrt nn nu) (nn * nn) k) q).2.1)), (5, .int (nI (sbI (wrt nn nu) k (sbO (wrt nn nu) (nn * nn) k) q).2.2)), (6, .int (nI k)), (7, .int (nI (k + 1 + q + 1)))] : List (Nat × Value)) = [(0, .ref t0), (1, .int (nI (nn * nn))), (2, .long ((sbI (wrt nn nu) k (sbO (wrt nn nu) (nn * nn) k) (q + 1)).1)), (4, .int (nI (sbI (wrt nn nu) k (sbO (wrt nn nu) (nn * nn) k) (q + 1)).2.1)), (5, .int (nI (sbI (wrt nn nu) k (sbO (wrt nn nu) (nn * nn) k) (q + 1)).2.2)), (6, .int (nI k)), (7, .int (nI (k + 1 + (q + 1))))] := (congrArg (List.cons _) (congrArg (List.cons _) (congr (congrArg List.cons (congrArg (fun z => (((2 : Nat), Value.long z) : Nat × Value)) eq_83)) (congr (congrArg List.cons (congrArg (fun z => (((4 : Nat), Value.int z) : Nat × Value)) eq_84)) (congr (congrArg List.cons (congrArg (fun z => (((5 : Nat), Value.int z) : Nat × Value)) eq_85)) (congrArg (List.cons _) (congr (congrArg List.cons (congrArg (fun z => (((7 : Nat), Value.int z) : Nat × Value)) eq_86)) rfl)))))))
            rw [eL] at hl
            exact ih_28 (q + 1) (by omega)  _ _ _ hP hD hS hl
          · have c_48 : ¬ wrt nn nu k (k + 1 + q) ≤ (sbI (wrt nn nu) k (sbO (wrt nn nu) (nn * nn) k) q).1 := fun h => c_48 ((lg_cmp_le _ _).mpr h)
            refine lv_lload hx hb dX3_swapBest_51 (lv_at hl 0 rfl) ?_
            refine lv_lstore_n (lv' := [(2, .long (wrt nn nu k (k + 1 + q))), (8, .long (wrt nn nu k (k + 1 + q))), (0, .ref t0), (1, .int (nI (nn * nn))), (4, .int (nI (sbI (wrt nn nu) k (sbO (wrt nn nu) (nn * nn) k) q).2.1)), (5, .int (nI (sbI (wrt nn nu) k (sbO (wrt nn nu) (nn * nn) k) q).2.2)), (6, .int (nI k)), (7, .int (nI (k + 1 + q)))]) hx hb dX3_swapBest_53 rfl hl (by decide) rfl (fun ls hl => ?_)
            refine lv_iload hx hb dX3_swapBest_54 (lv_at hl 6 rfl) ?_
            refine lv_istore (lv' := [(4, .int (nI k)), (2, .long (wrt nn nu k (k + 1 + q))), (8, .long (wrt nn nu k (k + 1 + q))), (0, .ref t0), (1, .int (nI (nn * nn))), (5, .int (nI (sbI (wrt nn nu) k (sbO (wrt nn nu) (nn * nn) k) q).2.2)), (6, .int (nI k)), (7, .int (nI (k + 1 + q)))]) hx hb dX3_swapBest_56 hl (by decide) rfl (fun ls hl => ?_)
            refine lv_iload hx hb dX3_swapBest_58 (lv_at hl 7 rfl) ?_
            refine lv_istore (lv' := [(5, .int (nI (k + 1 + q))), (4, .int (nI k)), (2, .long (wrt nn nu k (k + 1 + q))), (8, .long (wrt nn nu k (k + 1 + q))), (0, .ref t0), (1, .int (nI (nn * nn))), (6, .int (nI k)), (7, .int (nI (k + 1 + q)))]) hx hb dX3_swapBest_60 hl (by decide) rfl (fun ls hl => ?_)
            refine lv_iinc (v := nI (k + 1 + q + 1)) (lv' := [(7, .int (nI (k + 1 + q + 1))), (5, .int (nI (k + 1 + q))), (4, .int (nI k)), (2, .long (wrt nn nu k (k + 1 + q))), (8, .long (wrt nn nu k (k + 1 + q))), (0, .ref t0), (1, .int (nI (nn * nn))), (6, .int (nI k))]) hx hb dX3_swapBest_62 hl (k := 7) rfl (nI_1 _) (by decide) rfl (fun ls hl => ?_)
            refine lv_goto (tgt := 28) hx hb dX3_swapBest_65 (by decide) ?_
            have eq_100 : (wrt nn nu k (k + 1 + q) : Int64) = (sbI (wrt nn nu) k (sbO (wrt nn nu) (nn * nn) k) (q + 1)).1 := by rw [sbI_yes c_48]
            have eq_101 : (nI k : Int32) = nI (sbI (wrt nn nu) k (sbO (wrt nn nu) (nn * nn) k) (q + 1)).2.1 := by rw [sbI_yes c_48]
            have eq_102 : (nI (k + 1 + q) : Int32) = nI (sbI (wrt nn nu) k (sbO (wrt nn nu) (nn * nn) k) (q + 1)).2.2 := by rw [sbI_yes c_48]
            have eq_103 : (nI (k + 1 + q + 1) : Int32) = nI (k + 1 + (q + 1)) := rfl
            have hl := lv_sub (l' := [(0, .ref t0), (1, .int (nI (nn * nn))), (2, .long (wrt nn nu k (k + 1 + q))), (4, .int (nI k)), (5, .int (nI (k + 1 + q))), (6, .int (nI k)), (7, .int (nI (k + 1 + q + 1)))]) hl [5, 6, 3, 2, 1, 7, 0] rfl
            have eL : ([(0, .ref t0), (1, .int (nI (nn * nn))), (2, .long (wrt nn nu k (k + 1 + q))), (4, .int (nI k)), (5, .int (nI (k + 1 + q))), (6, .int (nI k)), (7, .int (nI (k + 1 + q + 1)))] : List (Nat × Value)) = [(0, .ref t0), (1, .int (nI (nn * nn))), (2, .long ((sbI (wrt nn nu) k (sbO (wrt nn nu) (nn * nn) k) (q + 1)).1)), (4, .int (nI (sbI (wrt nn nu) k (sbO (wrt nn nu) (nn * nn) k) (q + 1)).2.1)), (5, .int (nI (sbI (wrt nn nu) k (sbO (wrt nn nu) (nn * nn) k) (q + 1)).2.2)), (6, .int (nI k)), (7, .int (nI (k + 1 + (q + 1))))] := (congrArg (List.cons _) (congrArg (List.cons _) (congr (congrArg List.cons (congrArg (fun z => (((2 : Nat), Value.long z) : Nat × Value)) eq_100)) (congr (congrArg List.cons (congrArg (fun z => (((4 : Nat), Value.int z) : Nat × Value)) eq_101)) (congr (congrArg List.cons (congrArg (fun z => (((5 : Nat), Value.int z) : Nat × Value)) eq_102)) (congrArg (List.cons _) (congr (congrArg List.cons (congrArg (fun z => (((7 : Nat), Value.int z) : Nat × Value)) eq_103)) rfl)))))))
            rw [eL] at hl
            exact ih_28 (q + 1) (by omega)  _ _ _ hP hD hS hl
      have eq_108 : ((sbO (wrt nn nu) (nn * nn) k).1 : Int64) = (sbI (wrt nn nu) k (sbO (wrt nn nu) (nn * nn) k) 0).1 := rfl
      have eq_109 : (nI (sbO (wrt nn nu) (nn * nn) k).2.1 : Int32) = nI (sbI (wrt nn nu) k (sbO (wrt nn nu) (nn * nn) k) 0).2.1 := rfl
      have eq_110 : (nI (sbO (wrt nn nu) (nn * nn) k).2.2 : Int32) = nI (sbI (wrt nn nu) k (sbO (wrt nn nu) (nn * nn) k) 0).2.2 := rfl
      have eq_111 : (nI k + 1 : Int32) = nI (k + 1 + 0) := nI_1 k
      have hl := lv_sub (l' := [(0, .ref t0), (1, .int (nI (nn * nn))), (2, .long ((sbO (wrt nn nu) (nn * nn) k).1)), (4, .int (nI (sbO (wrt nn nu) (nn * nn) k).2.1)), (5, .int (nI (sbO (wrt nn nu) (nn * nn) k).2.2)), (6, .int (nI k)), (7, .int (nI k + 1))]) hl [1, 2, 3, 4, 5, 6, 0] rfl
      have eL : ([(0, .ref t0), (1, .int (nI (nn * nn))), (2, .long ((sbO (wrt nn nu) (nn * nn) k).1)), (4, .int (nI (sbO (wrt nn nu) (nn * nn) k).2.1)), (5, .int (nI (sbO (wrt nn nu) (nn * nn) k).2.2)), (6, .int (nI k)), (7, .int (nI k + 1))] : List (Nat × Value)) = [(0, .ref t0), (1, .int (nI (nn * nn))), (2, .long ((sbI (wrt nn nu) k (sbO (wrt nn nu) (nn * nn) k) 0).1)), (4, .int (nI (sbI (wrt nn nu) k (sbO (wrt nn nu) (nn * nn) k) 0).2.1)), (5, .int (nI (sbI (wrt nn nu) k (sbO (wrt nn nu) (nn * nn) k) 0).2.2)), (6, .int (nI k)), (7, .int (nI (k + 1 + 0)))] := (congrArg (List.cons _) (congrArg (List.cons _) (congr (congrArg List.cons (congrArg (fun z => (((2 : Nat), Value.long z) : Nat × Value)) eq_108)) (congr (congrArg List.cons (congrArg (fun z => (((4 : Nat), Value.int z) : Nat × Value)) eq_109)) (congr (congrArg List.cons (congrArg (fun z => (((5 : Nat), Value.int z) : Nat × Value)) eq_110)) (congrArg (List.cons _) (congr (congrArg List.cons (congrArg (fun z => (((7 : Nat), Value.int z) : Nat × Value)) eq_111)) rfl)))))))
      rw [eL] at hl
      exact L28 _ 0 (Nat.zero_add _)  _ _ _ hP hD hS hl
  have eq_116 : (0 : Int64) = (sbO (wrt nn nu) (nn * nn) 0).1 := rfl
  have eq_117 : (0 : Int32) = nI (sbO (wrt nn nu) (nn * nn) 0).2.1 := rfl
  have eq_118 : (0 : Int32) = nI (sbO (wrt nn nu) (nn * nn) 0).2.2 := rfl
  have eq_119 : (0 : Int32) = nI 0 := rfl
  have hl := lv_sub (l' := [(0, .ref t0), (1, .int (nI (nn * nn))), (2, .long 0), (4, .int 0), (5, .int 0), (6, .int 0)]) hl [5, 4, 3, 2, 1, 0] rfl
  have eL : ([(0, .ref t0), (1, .int (nI (nn * nn))), (2, .long 0), (4, .int 0), (5, .int 0), (6, .int 0)] : List (Nat × Value)) = [(0, .ref t0), (1, .int (nI (nn * nn))), (2, .long ((sbO (wrt nn nu) (nn * nn) 0).1)), (4, .int (nI (sbO (wrt nn nu) (nn * nn) 0).2.1)), (5, .int (nI (sbO (wrt nn nu) (nn * nn) 0).2.2)), (6, .int (nI 0))] := (congrArg (List.cons _) (congrArg (List.cons _) (congr (congrArg List.cons (congrArg (fun z => (((2 : Nat), Value.long z) : Nat × Value)) eq_116)) (congr (congrArg List.cons (congrArg (fun z => (((4 : Nat), Value.int z) : Nat × Value)) eq_117)) (congr (congrArg List.cons (congrArg (fun z => (((5 : Nat), Value.int z) : Nat × Value)) eq_118)) (congr (congrArg List.cons (congrArg (fun z => (((6 : Nat), Value.int z) : Nat × Value)) eq_119)) rfl))))))
  rw [eL] at hl
  exact L16 _ 0 (Nat.zero_add _)  _ _ _ hP hD hS hl

abbrev rm_X4_cost : Room := { frames := 3, cells := 0, slots := 0, locals := 60 }
theorem in_X4_cost_X4 : ∀ w ∈ u_ws RX4 TX4 5, w ∈ wsX4_cost := by decide +kernel
set_option maxHeartbeats 4000000 in
set_option maxRecDepth 100000 in
theorem ct_X4_cost (l : Launch) (D : va_G) (cyI cyZ : ClassId) (d0 s0 t0 r0 q0 t1 t2 t3 : Nat) (sz : Nat) (bk : Int32) (nn : Nat) (nu sp ne : Nat → Int32)  (hn1 : 1 ≤ nn) (hn2 : nn ≤ 8) (hsp : SPok nn sp) (hne0 : NEok nn ne) : Met l yX4_cost wsX4_cost rm_X4_cost (xk_Pc D cyI cyZ [.ref d0] [(d0, .inr (4, [.ref s0, .ref t0, .ref r0, .ref q0, .int bk])), (t0, .inr (3, [.ref t1, .ref t2, .ref t3, .int (nI nn)])), (t1, .inl (cyI, 64, .inl nu)), (t2, .inl (cyI, 64, .inl sp)), (t3, .inl (cyI, 225, .inl ne))] sz) (xk_Ql D (va_A [(d0, .inr (4, [.ref s0, .ref t0, .ref r0, .ref q0, .int bk])), (t0, .inr (3, [.ref t1, .ref t2, .ref t3, .int (nI nn)])), (t1, .inl (cyI, 64, .inl nu)), (t2, .inl (cyI, 64, .inl sp)), (t3, .inl (cyI, 225, .inl ne))] sz) (csO nn nu (nn * nn)) [(d0, .inr (4, [.ref s0, .ref t0, .ref r0, .ref q0, .int bk])), (t0, .inr (3, [.ref t1, .ref t2, .ref t3, .int (nI nn)])), (t1, .inl (cyI, 64, .inl nu)), (t2, .inl (cyI, 64, .inl sp)), (t3, .inl (cyI, 225, .inl ne))]) 0 0 (va_A [(d0, .inr (4, [.ref s0, .ref t0, .ref r0, .ref q0, .int bk])), (t0, .inr (3, [.ref t1, .ref t2, .ref t3, .int (nI nn)])), (t1, .inl (cyI, 64, .inl nu)), (t2, .inl (cyI, 64, .inl sp)), (t3, .inl (cyI, 225, .inl ne))] sz) := by
  refine xk_of (own := RX4) (cc := cX4_cost) (maxL := 1) (ret := (some .long)) (Qc := fun A => xk_Ql D A (csO nn nu (nn * nn)) [(d0, .inr (4, [.ref s0, .ref t0, .ref r0, .ref q0, .int bk])), (t0, .inr (3, [.ref t1, .ref t2, .ref t3, .int (nI nn)])), (t1, .inl (cyI, 64, .inl nu)), (t2, .inl (cyI, 64, .inl sp)), (t3, .inl (cyI, 225, .inl ne))]) (by decide) rfl rfl (Nat.le_of_ble_eq_true rfl) ?_
  intro p e s m below meth c A ls hx hb hr hml hown hlocks hin hts hA hP hK hN hD hS hl
  have hC0 := xk_fix hx hb hml hown hts
  have hl : lv_has ls 1 [(0, .ref d0)] := hl
  have hf19 := hts (.fieldLink RX4 19 "DotPress" "steps" "LDotPress$Steps;") (by decide +kernel)
  refine lv_aload_n hx hb dX4_cost_0 rfl (lv_at hl 0 rfl) ?_
  refine va_get (D := D) (ci := 4) (v := .ref t0) (C := RX4) (T := TX4) (N := 5) hx hb hts in_X4_cost_X4 hown hK hP 0 rfl rfl 1 (by decide) hf19 (fun _ h9 => h9) rfl dX4_cost_1 ?_
  have hPc := hP.sub (ws' := [(t0, .inr (3, [.ref t1, .ref t2, .ref t3, .int (nI nn)])), (t1, .inl (cyI, 64, .inl nu)), (t2, .inl (cyI, 64, .inl sp)), (t3, .inl (cyI, 225, .inl ne))]) [1, 2, 3, 4] rfl
  have hDc := hD.sub (ws' := [(t0, .inr (3, [.ref t1, .ref t2, .ref t3, .int (nI nn)])), (t1, .inl (cyI, 64, .inl nu)), (t2, .inl (cyI, 64, .inl sp)), (t3, .inl (cyI, 225, .inl ne))]) [1, 2, 3, 4] (by decide) rfl
  refine xk_calll (wr := [(d0, .inr (4, [.ref s0, .ref t0, .ref r0, .ref q0, .int bk]))]) (w2 := [(d0, .inr (4, [.ref s0, .ref t0, .ref r0, .ref q0, .int bk])), (t0, .inr (3, [.ref t1, .ref t2, .ref t3, .int (nI nn)])), (t1, .inl (cyI, 64, .inl nu)), (t2, .inl (cyI, 64, .inl sp)), (t3, .inl (cyI, 225, .inl ne))]) (va_runV (As := []) (rest := []) hC0 (ct_X3_unevenness l D cyI cyZ t0 t1 t2 t3 _ nn nu sp ne (by first | assumption | omega) (by first | assumption | omega) (by first | assumption | omega) (by first | assumption | omega)) (cwV 0 hts gX4_cost_X3_unevenness rfl rfl rfl (by decide +kernel) ⟨Nat.le_of_ble_eq_true rfl, Nat.le_of_ble_eq_true rfl⟩) ⟨xk_blind, va_recv hK hPc (ci := 3) (q0 := 0) rfl rfl, xk_pre hK hN hPc hDc⟩ rfl rfl hl.1 rfl (lv_room (Nat.le_of_ble_eq_true rfl)) dX4_cost_4 ⟨Nat.le_of_ble_eq_true rfl, Nat.le_of_ble_eq_true rfl⟩) hP hD hS hA [1, 2, 3, 4] [0] [0, 1, 2, 3, 4] rfl rfl (by decide) (by decide) rfl (by decide) (fun H locs hP hD hS => ?_)
  exact xk_lret hx hb hr hlocks hP hD hS (rfl) (rfl) dX4_cost_7

abbrev rm_X4_even_no : Room := { frames := 1, cells := 0, slots := 0, locals := 20 }
theorem in_X4_even_no_X4 : ∀ w ∈ u_ws RX4 TX4 5, w ∈ wsX4_even := by decide +kernel
set_option maxHeartbeats 4000000 in
set_option maxRecDepth 100000 in
theorem ct_X4_even_no (l : Launch) (D : va_G) (cyI cyZ : ClassId) (d0 s0 t0 r0 q0 t1 t2 t3 : Nat) (sz : Nat) (bk : Int32) (nn : Nat) (nu sp ne : Nat → Int32) (x : Int32) (hno : ¬ ((¬ x < 0 ∧ ¬ 100 < x) ∧ nn ≤ 5)) (hn2 : nn ≤ 8) : Met l yX4_even wsX4_even rm_X4_even_no (xk_Pc D cyI cyZ [.ref d0, .int x] [(d0, .inr (4, [.ref s0, .ref t0, .ref r0, .ref q0, .int bk])), (t0, .inr (3, [.ref t1, .ref t2, .ref t3, .int (nI nn)])), (t1, .inl (cyI, 64, .inl nu)), (t2, .inl (cyI, 64, .inl sp)), (t3, .inl (cyI, 225, .inl ne))] sz) (xk_Qi D (va_A [(d0, .inr (4, [.ref s0, .ref t0, .ref r0, .ref q0, .int bk])), (t0, .inr (3, [.ref t1, .ref t2, .ref t3, .int (nI nn)])), (t1, .inl (cyI, 64, .inl nu)), (t2, .inl (cyI, 64, .inl sp)), (t3, .inl (cyI, 225, .inl ne))] sz) (-1) [(d0, .inr (4, [.ref s0, .ref t0, .ref r0, .ref q0, .int bk])), (t0, .inr (3, [.ref t1, .ref t2, .ref t3, .int (nI nn)])), (t1, .inl (cyI, 64, .inl nu)), (t2, .inl (cyI, 64, .inl sp)), (t3, .inl (cyI, 225, .inl ne))]) 0 0 (va_A [(d0, .inr (4, [.ref s0, .ref t0, .ref r0, .ref q0, .int bk])), (t0, .inr (3, [.ref t1, .ref t2, .ref t3, .int (nI nn)])), (t1, .inl (cyI, 64, .inl nu)), (t2, .inl (cyI, 64, .inl sp)), (t3, .inl (cyI, 225, .inl ne))] sz) := by
  refine xk_of (own := RX4) (cc := cX4_even) (maxL := 3) (ret := (some .int)) (Qc := fun A => xk_Qi D A (-1) [(d0, .inr (4, [.ref s0, .ref t0, .ref r0, .ref q0, .int bk])), (t0, .inr (3, [.ref t1, .ref t2, .ref t3, .int (nI nn)])), (t1, .inl (cyI, 64, .inl nu)), (t2, .inl (cyI, 64, .inl sp)), (t3, .inl (cyI, 225, .inl ne))]) (by decide) rfl rfl (Nat.le_of_ble_eq_true rfl) ?_
  intro p e s m below meth c A ls hx hb hr hml hown hlocks hin hts hA hP hK hN hD hS hl
  have hC0 := xk_fix hx hb hml hown hts
  have hl : lv_has ls 3 [(0, .ref d0), (1, .int x)] := hl
  have hf19 := hts (.fieldLink RX4 19 "DotPress" "steps" "LDotPress$Steps;") (by decide +kernel)
  refine lv_iload_n hx hb dX4_even_0 rfl (lv_at hl 1 rfl) ?_
  refine lv_if_lt (tgt := 21) hx hb dX4_even_1 (by decide) (fun c_1 => ?_) (fun c_1 => ?_)
  · refine lv_iconst (v := (-1)) hx hb dX4_even_21 (by decide) ?_
    exact xk_iret hx hb hr hlocks hP hD hS (rfl) (rfl) dX4_even_22
  · refine lv_iload_n hx hb dX4_even_4 rfl (lv_at hl 1 rfl) ?_
    refine lv_bipush (v := 100) hx hb dX4_even_5 (by decide) ?_
    refine lv_icmp_gt (tgt := 21) hx hb dX4_even_7 (by decide) (fun c_7 => ?_) (fun c_7 => ?_)
    · refine lv_iconst (v := (-1)) hx hb dX4_even_21 (by decide) ?_
      exact xk_iret hx hb hr hlocks hP hD hS (rfl) (rfl) dX4_even_22
    · refine lv_aload_n hx hb dX4_even_10 rfl (lv_at hl 0 rfl) ?_
      refine va_get (D := D) (ci := 4) (v := .ref t0) (C := RX4) (T := TX4) (N := 5) hx hb hts in_X4_even_no_X4 hown hK hP 0 rfl rfl 1 (by decide) hf19 (fun _ h9 => h9) rfl dX4_even_11 ?_
      have hPc := hP.sub (ws' := [(t0, .inr (3, [.ref t1, .ref t2, .ref t3, .int (nI nn)])), (t1, .inl (cyI, 64, .inl nu)), (t2, .inl (cyI, 64, .inl sp)), (t3, .inl (cyI, 225, .inl ne))]) [1, 2, 3, 4] rfl
      have hDc := hD.sub (ws' := [(t0, .inr (3, [.ref t1, .ref t2, .ref t3, .int (nI nn)])), (t1, .inl (cyI, 64, .inl nu)), (t2, .inl (cyI, 64, .inl sp)), (t3, .inl (cyI, 225, .inl ne))]) [1, 2, 3, 4] (by decide) rfl
      refine xk_calli (wr := [(d0, .inr (4, [.ref s0, .ref t0, .ref r0, .ref q0, .int bk]))]) (w2 := [(d0, .inr (4, [.ref s0, .ref t0, .ref r0, .ref q0, .int bk])), (t0, .inr (3, [.ref t1, .ref t2, .ref t3, .int (nI nn)])), (t1, .inl (cyI, 64, .inl nu)), (t2, .inl (cyI, 64, .inl sp)), (t3, .inl (cyI, 225, .inl ne))]) (va_runV (As := []) (rest := []) hC0 (ct_X3_side l D cyI cyZ t0 t1 t2 t3 _ nn nu sp ne ) (cwV 0 hts gX4_even_X3_side rfl rfl rfl (by decide +kernel) ⟨Nat.le_of_ble_eq_true rfl, Nat.le_of_ble_eq_true rfl⟩) ⟨xk_blind, va_recv hK hPc (ci := 3) (q0 := 0) rfl rfl, xk_pre hK hN hPc hDc⟩ rfl rfl hl.1 rfl (lv_room (Nat.le_of_ble_eq_true rfl)) dX4_even_14 ⟨Nat.le_of_ble_eq_true rfl, Nat.le_of_ble_eq_true rfl⟩) hP hD hS hA [1, 2, 3, 4] [0] [0, 1, 2, 3, 4] rfl rfl (by decide) (by decide) rfl (by decide) (fun H locs hP hD hS => ?_)
      refine lv_iconst (v := 5) hx hb dX4_even_17 (by decide) ?_
      refine lv_icmp_le (tgt := 23) hx hb dX4_even_18 (by decide) (fun c_18 => ?_) (fun c_18 => ?_)
      · exact absurd ⟨⟨c_1, c_7⟩, (nI_leI (by omega) (by decide)).mp c_18⟩ hno
      · refine lv_iconst (v := (-1)) hx hb dX4_even_21 (by decide) ?_
        exact xk_iret hx hb hr hlocks hP hD hS (rfl) (rfl) dX4_even_22

abbrev rm_X4_even_ok : Room := { frames := 6, cells := 0, slots := 0, locals := 139 }
theorem in_X4_even_ok_X4 : ∀ w ∈ u_ws RX4 TX4 5, w ∈ wsX4_even := by decide +kernel
set_option maxHeartbeats 4000000 in
set_option maxRecDepth 100000 in
theorem ct_X4_even_ok (l : Launch) (D : va_G) (cyI cyZ : ClassId) (d0 s0 t0 r0 q0 t1 t2 t3 : Nat) (sz : Nat) (bk : Int32) (nn : Nat) (nu sp ne : Nat → Int32) (mo Nv : Nat) (hn1 : 1 ≤ nn) (hn2 : nn ≤ 8) (hsp : SPok nn sp) (hne0 : NEok nn ne) (hpm : PMok nn nu) (hm : mo ≤ 100) (h5 : nn ≤ 5) (hNm : Nv ≤ mo) (hgo : ∀ i, i < Nv → 0 < (bp nn (evS nn nu i)).1) (hend : Nv = mo ∨ ¬ 0 < (bp nn (evS nn nu Nv)).1) : Met l yX4_even wsX4_even rm_X4_even_ok (xk_Pc D cyI cyZ [.ref d0, .int (nI mo)] [(d0, .inr (4, [.ref s0, .ref t0, .ref r0, .ref q0, .int bk])), (t0, .inr (3, [.ref t1, .ref t2, .ref t3, .int (nI nn)])), (t1, .inl (cyI, 64, .inl nu)), (t2, .inl (cyI, 64, .inl sp)), (t3, .inl (cyI, 225, .inl ne))] sz) (xk_Qi D (va_A [(d0, .inr (4, [.ref s0, .ref t0, .ref r0, .ref q0, .int bk])), (t0, .inr (3, [.ref t1, .ref t2, .ref t3, .int (nI nn)])), (t1, .inl (cyI, 64, .inl nu)), (t2, .inl (cyI, 64, .inl sp)), (t3, .inl (cyI, 225, .inl ne))] sz) (nI Nv) [(d0, .inr (4, [.ref s0, .ref t0, .ref r0, .ref q0, .int bk])), (t0, .inr (3, [.ref t1, .ref t2, .ref t3, .int (nI nn)])), (t1, .inl (cyI, 64, .inl (evS nn nu Nv))), (t2, .inl (cyI, 64, .inl sp)), (t3, .inl (cyI, 225, .inl ne))]) 0 0 (va_A [(d0, .inr (4, [.ref s0, .ref t0, .ref r0, .ref q0, .int bk])), (t0, .inr (3, [.ref t1, .ref t2, .ref t3, .int (nI nn)])), (t1, .inl (cyI, 64, .inl nu)), (t2, .inl (cyI, 64, .inl sp)), (t3, .inl (cyI, 225, .inl ne))] sz) := by
  refine xk_of (own := RX4) (cc := cX4_even) (maxL := 3) (ret := (some .int)) (Qc := fun A => xk_Qi D A (nI Nv) [(d0, .inr (4, [.ref s0, .ref t0, .ref r0, .ref q0, .int bk])), (t0, .inr (3, [.ref t1, .ref t2, .ref t3, .int (nI nn)])), (t1, .inl (cyI, 64, .inl (evS nn nu Nv))), (t2, .inl (cyI, 64, .inl sp)), (t3, .inl (cyI, 225, .inl ne))]) (by decide) rfl rfl (Nat.le_of_ble_eq_true rfl) ?_
  intro p e s m below meth c A ls hx hb hr hml hown hlocks hin hts hA hP hK hN hD hS hl
  have hC0 := xk_fix hx hb hml hown hts
  have hl : lv_has ls 3 [(0, .ref d0), (1, .int (nI mo))] := hl
  have hf19 := hts (.fieldLink RX4 19 "DotPress" "steps" "LDotPress$Steps;") (by decide +kernel)
  have hq := nn_64 hn2
  have hq1 := nn_1 hn1
  refine lv_iload_n hx hb dX4_even_0 rfl (lv_at hl 1 rfl) ?_
  refine lv_if_lt (tgt := 21) hx hb dX4_even_1 (by decide) (fun c_1 => xk_ab c_1 (nI_pos (by omega))) (fun c_1 => ?_)
  refine lv_iload_n hx hb dX4_even_4 rfl (lv_at hl 1 rfl) ?_
  refine lv_bipush (v := 100) hx hb dX4_even_5 (by decide) ?_
  refine lv_icmp_gt (tgt := 21) hx hb dX4_even_7 (by decide) (fun c_7 => xk_ab c_7 (rg_hi (hi := 100) hm (by decide))) (fun c_7 => ?_)
  refine lv_aload_n hx hb dX4_even_10 rfl (lv_at hl 0 rfl) ?_
  refine va_get (D := D) (ci := 4) (v := .ref t0) (C := RX4) (T := TX4) (N := 5) hx hb hts in_X4_even_ok_X4 hown hK hP 0 rfl rfl 1 (by decide) hf19 (fun _ h9 => h9) rfl dX4_even_11 ?_
  have hPc := hP.sub (ws' := [(t0, .inr (3, [.ref t1, .ref t2, .ref t3, .int (nI nn)])), (t1, .inl (cyI, 64, .inl nu)), (t2, .inl (cyI, 64, .inl sp)), (t3, .inl (cyI, 225, .inl ne))]) [1, 2, 3, 4] rfl
  have hDc := hD.sub (ws' := [(t0, .inr (3, [.ref t1, .ref t2, .ref t3, .int (nI nn)])), (t1, .inl (cyI, 64, .inl nu)), (t2, .inl (cyI, 64, .inl sp)), (t3, .inl (cyI, 225, .inl ne))]) [1, 2, 3, 4] (by decide) rfl
  refine xk_calli (wr := [(d0, .inr (4, [.ref s0, .ref t0, .ref r0, .ref q0, .int bk]))]) (w2 := [(d0, .inr (4, [.ref s0, .ref t0, .ref r0, .ref q0, .int bk])), (t0, .inr (3, [.ref t1, .ref t2, .ref t3, .int (nI nn)])), (t1, .inl (cyI, 64, .inl nu)), (t2, .inl (cyI, 64, .inl sp)), (t3, .inl (cyI, 225, .inl ne))]) (va_runV (As := []) (rest := []) hC0 (ct_X3_side l D cyI cyZ t0 t1 t2 t3 _ nn nu sp ne ) (cwV 0 hts gX4_even_X3_side rfl rfl rfl (by decide +kernel) ⟨Nat.le_of_ble_eq_true rfl, Nat.le_of_ble_eq_true rfl⟩) ⟨xk_blind, va_recv hK hPc (ci := 3) (q0 := 0) rfl rfl, xk_pre hK hN hPc hDc⟩ rfl rfl hl.1 rfl (lv_room (Nat.le_of_ble_eq_true rfl)) dX4_even_14 ⟨Nat.le_of_ble_eq_true rfl, Nat.le_of_ble_eq_true rfl⟩) hP hD hS hA [1, 2, 3, 4] [0] [0, 1, 2, 3, 4] rfl rfl (by decide) (by decide) rfl (by decide) (fun H locs hP hD hS => ?_)
  refine lv_iconst (v := 5) hx hb dX4_even_17 (by decide) ?_
  refine lv_icmp_le (tgt := 23) hx hb dX4_even_18 (by decide) (fun c_18 => ?_) (fun c_18 => xk_ba c_18 (nI_le (b := 5) h5 (by decide)))
  refine lv_iconst (v := 0) hx hb dX4_even_23 (by decide) ?_
  refine lv_istore_n (lv' := [(2, .int 0), (0, .ref d0), (1, .int (nI mo))]) hx hb dX4_even_24 rfl hl (by decide) rfl (fun ls hl => ?_)
  have L25 : ∀ (n k : Nat), k + n = Nv → ∀ (H : Heap) (locs : List Loc) (ls : Array Slot), va_P D vwCl [(d0, .inr (4, [.ref s0, .ref t0, .ref r0, .ref q0, .int bk])), (t0, .inr (3, [.ref t1, .ref t2, .ref t3, .int (nI nn)])), (t1, .inl (cyI, 64, .inl (evS nn nu k))), (t2, .inl (cyI, 64, .inl sp)), (t3, .inl (cyI, 225, .inl ne))] H → va_D A [(d0, .inr (4, [.ref s0, .ref t0, .ref r0, .ref q0, .int bk])), (t0, .inr (3, [.ref t1, .ref t2, .ref t3, .int (nI nn)])), (t1, .inl (cyI, 64, .inl (evS nn nu k))), (t2, .inl (cyI, 64, .inl sp)), (t3, .inl (cyI, 225, .inl ne))] → va_S A s.heap H locs → lv_has ls 3 [(0, .ref d0), (1, .int (nI mo)), (2, .int (nI k))] → W p l e rm_X4_even_ok s m ([.ref d0, .int (nI mo)] : List Value).toArray below meth c H locs 0 0 (MQ below (xk_Qi D A (nI Nv) [(d0, .inr (4, [.ref s0, .ref t0, .ref r0, .ref q0, .int bk])), (t0, .inr (3, [.ref t1, .ref t2, .ref t3, .int (nI nn)])), (t1, .inl (cyI, 64, .inl (evS nn nu Nv))), (t2, .inl (cyI, 64, .inl sp)), (t3, .inl (cyI, 225, .inl ne))]) ([.ref d0, .int (nI mo)] : List Value).toArray s 0 0 A) (F0 m 25 ls []) := by
    intro n
    induction n with
    | zero =>
      intro k hk_25  H locs ls hP hD hS hl
      have hz_25 : Nv = k := hk_25.symm
      subst hz_25
      refine lv_iload_n hx hb dX4_even_25 rfl (lv_at hl 2 rfl) ?_
      refine lv_iload_n hx hb dX4_even_26 rfl (lv_at hl 1 rfl) ?_
      refine lv_icmp_ge (tgt := 46) hx hb dX4_even_27 (by decide) (fun c_27 => ?_) (fun c_27 => ?_)
      · refine lv_iload_n hx hb dX4_even_46 rfl (lv_at hl 2 rfl) ?_
        exact xk_iret hx hb hr hlocks hP hD hS (rfl) (rfl) dX4_even_47
      · have hz0 := hend.resolve_left (fun h => c_27 (nI_le (by omega) (by omega)))
        refine lv_aload_n hx hb dX4_even_30 rfl (lv_at hl 0 rfl) ?_
        refine va_get (D := D) (ci := 4) (v := .ref t0) (C := RX4) (T := TX4) (N := 5) hx hb hts in_X4_even_ok_X4 hown hK hP 0 rfl rfl 1 (by decide) hf19 (fun _ h9 => h9) rfl dX4_even_31 ?_
        have hPc := hP.sub (ws' := [(t0, .inr (3, [.ref t1, .ref t2, .ref t3, .int (nI nn)])), (t1, .inl (cyI, 64, .inl (evS nn nu Nv))), (t2, .inl (cyI, 64, .inl sp)), (t3, .inl (cyI, 225, .inl ne))]) [1, 2, 3, 4] rfl
        have hDc := hD.sub (ws' := [(t0, .inr (3, [.ref t1, .ref t2, .ref t3, .int (nI nn)])), (t1, .inl (cyI, 64, .inl (evS nn nu Nv))), (t2, .inl (cyI, 64, .inl sp)), (t3, .inl (cyI, 225, .inl ne))]) [1, 2, 3, 4] (by decide) rfl
        refine xk_calli (wr := [(d0, .inr (4, [.ref s0, .ref t0, .ref r0, .ref q0, .int bk]))]) (w2 := [(d0, .inr (4, [.ref s0, .ref t0, .ref r0, .ref q0, .int bk])), (t0, .inr (3, [.ref t1, .ref t2, .ref t3, .int (nI nn)])), (t1, .inl (cyI, 64, .inl (evS nn nu Nv))), (t2, .inl (cyI, 64, .inl sp)), (t3, .inl (cyI, 225, .inl ne))]) (va_runV (As := []) (rest := []) hC0 (ct_X3_swapBest_no l D cyI cyZ t0 t1 t2 t3 _ nn (evS nn nu Nv) sp ne (by first | assumption | omega) (by first | assumption | omega) (by first | assumption | omega) (by first | assumption | omega) (evS_PM hpm Nv hgo) (hz0)) (cwV 0 hts gX4_even_X3_swapBest rfl rfl rfl (by decide +kernel) ⟨Nat.le_of_ble_eq_true rfl, Nat.le_of_ble_eq_true rfl⟩) ⟨xk_blind, va_recv hK hPc (ci := 3) (q0 := 0) rfl rfl, xk_pre hK hN hPc hDc⟩ rfl rfl hl.1 rfl (lv_room (Nat.le_of_ble_eq_true rfl)) dX4_even_34 ⟨Nat.le_of_ble_eq_true rfl, Nat.le_of_ble_eq_true rfl⟩) hP hD hS hA [1, 2, 3, 4] [0] [0, 1, 2, 3, 4] rfl rfl (by decide) (by decide) rfl (by decide) (fun H locs hP hD hS => ?_)
        refine lv_if_eq (tgt := 46) hx hb dX4_even_37 (by decide) (fun c_37 => ?_) (fun c_37 => xk_ba c_37 ((rfl : (0 : Int32) = 0)))
        refine lv_iload_n hx hb dX4_even_46 rfl (lv_at hl 2 rfl) ?_
        exact xk_iret hx hb hr hlocks hP hD hS (rfl) (rfl) dX4_even_47
    | succ n ih_25 =>
      intro k hk_25  H locs ls hP hD hS hl
      refine lv_iload_n hx hb dX4_even_25 rfl (lv_at hl 2 rfl) ?_
      refine lv_iload_n hx hb dX4_even_26 rfl (lv_at hl 1 rfl) ?_
      refine lv_icmp_ge (tgt := 46) hx hb dX4_even_27 (by decide) (fun c_27 => xk_ab c_27 (nI_ge (by omega) (by omega))) (fun c_27 => ?_)
      refine lv_aload_n hx hb dX4_even_30 rfl (lv_at hl 0 rfl) ?_
      refine va_get (D := D) (ci := 4) (v := .ref t0) (C := RX4) (T := TX4) (N := 5) hx hb hts in_X4_even_ok_X4 hown hK hP 0 rfl rfl 1 (by decide) hf19 (fun _ h9 => h9) rfl dX4_even_31 ?_
      have hPc := hP.sub (ws' := [(t0, .inr (3, [.ref t1, .ref t2, .ref t3, .int (nI nn)])), (t1, .inl (cyI, 64, .inl (evS nn nu k))), (t2, .inl (cyI, 64, .inl sp)), (t3, .inl (cyI, 225, .inl ne))]) [1, 2, 3, 4] rfl
      have hDc := hD.sub (ws' := [(t0, .inr (3, [.ref t1, .ref t2, .ref t3, .int (nI nn)])), (t1, .inl (cyI, 64, .inl (evS nn nu k))), (t2, .inl (cyI, 64, .inl sp)), (t3, .inl (cyI, 225, .inl ne))]) [1, 2, 3, 4] (by decide) rfl
      refine xk_calli (wr := [(d0, .inr (4, [.ref s0, .ref t0, .ref r0, .ref q0, .int bk]))]) (w2 := [(d0, .inr (4, [.ref s0, .ref t0, .ref r0, .ref q0, .int bk])), (t0, .inr (3, [.ref t1, .ref t2, .ref t3, .int (nI nn)])), (t1, .inl (cyI, 64, .inl (sw (evS nn nu k) (bp nn (evS nn nu k)).2.1 (bp nn (evS nn nu k)).2.2))), (t2, .inl (cyI, 64, .inl sp)), (t3, .inl (cyI, 225, .inl ne))]) (va_runV (As := []) (rest := []) hC0 (ct_X3_swapBest_ok l D cyI cyZ t0 t1 t2 t3 _ nn (evS nn nu k) sp ne (by first | assumption | omega) (by first | assumption | omega) (by first | assumption | omega) (by first | assumption | omega) (evS_PM hpm k (fun i hi => hgo i (by omega))) (hgo k (by omega))) (cwV 0 hts gX4_even_X3_swapBest rfl rfl rfl (by decide +kernel) ⟨Nat.le_of_ble_eq_true rfl, Nat.le_of_ble_eq_true rfl⟩) ⟨xk_blind, va_recv hK hPc (ci := 3) (q0 := 0) rfl rfl, xk_pre hK hN hPc hDc⟩ rfl rfl hl.1 rfl (lv_room (Nat.le_of_ble_eq_true rfl)) dX4_even_34 ⟨Nat.le_of_ble_eq_true rfl, Nat.le_of_ble_eq_true rfl⟩) hP hD hS hA [1, 2, 3, 4] [0] [0, 1, 2, 3, 4] rfl rfl (by decide) (by decide) rfl (by decide) (fun H locs hP hD hS => ?_)
      refine lv_if_eq (tgt := 46) hx hb dX4_even_37 (by decide) (fun c_37 => xk_ab c_37 ((by decide : ¬ (1 : Int32) = 0))) (fun c_37 => ?_)
      refine lv_iinc (v := nI (k + 1)) (lv' := [(2, .int (nI (k + 1))), (0, .ref d0), (1, .int (nI mo))]) hx hb dX4_even_40 hl (k := 2) rfl (nI_1 _) (by decide) rfl (fun ls hl => ?_)
      refine lv_goto (tgt := 25) hx hb dX4_even_43 (by decide) ?_
      have eq_48 : (sw (evS nn nu k) (bp nn (evS nn nu k)).2.1 (bp nn (evS nn nu k)).2.2 : Nat → Int32) = evS nn nu (k + 1) := rfl
      have eW : ([(d0, .inr (4, [.ref s0, .ref t0, .ref r0, .ref q0, .int bk])), (t0, .inr (3, [.ref t1, .ref t2, .ref t3, .int (nI nn)])), (t1, .inl (cyI, 64, .inl (sw (evS nn nu k) (bp nn (evS nn nu k)).2.1 (bp nn (evS nn nu k)).2.2))), (t2, .inl (cyI, 64, .inl sp)), (t3, .inl (cyI, 225, .inl ne))] : va_W) = [(d0, .inr (4, [.ref s0, .ref t0, .ref r0, .ref q0, .int bk])), (t0, .inr (3, [.ref t1, .ref t2, .ref t3, .int (nI nn)])), (t1, .inl (cyI, 64, .inl (evS nn nu (k + 1)))), (t2, .inl (cyI, 64, .inl sp)), (t3, .inl (cyI, 225, .inl ne))] := (congrArg (List.cons _) (congrArg (List.cons _) (congr (congrArg List.cons (congrArg (fun z => ((t1, (Sum.inl (cyI, 64, Sum.inl z) : va_E)) : Nat × va_E)) eq_48)) (congrArg (List.cons _) (congrArg (List.cons _) rfl)))))
      rw [eW] at hP hD
      have hl := lv_sub (l' := [(0, .ref d0), (1, .int (nI mo)), (2, .int (nI (k + 1)))]) hl [1, 2, 0] rfl
      exact ih_25 (k + 1) (by omega)  _ _ _ hP hD hS hl
  have eq_53 : (0 : Int32) = nI 0 := rfl
  have eq_54 : (nu : Nat → Int32) = evS nn nu 0 := rfl
  have eW : ([(d0, .inr (4, [.ref s0, .ref t0, .ref r0, .ref q0, .int bk])), (t0, .inr (3, [.ref t1, .ref t2, .ref t3, .int (nI nn)])), (t1, .inl (cyI, 64, .inl nu)), (t2, .inl (cyI, 64, .inl sp)), (t3, .inl (cyI, 225, .inl ne))] : va_W) = [(d0, .inr (4, [.ref s0, .ref t0, .ref r0, .ref q0, .int bk])), (t0, .inr (3, [.ref t1, .ref t2, .ref t3, .int (nI nn)])), (t1, .inl (cyI, 64, .inl (evS nn nu 0))), (t2, .inl (cyI, 64, .inl sp)), (t3, .inl (cyI, 225, .inl ne))] := (congrArg (List.cons _) (congrArg (List.cons _) (congr (congrArg List.cons (congrArg (fun z => ((t1, (Sum.inl (cyI, 64, Sum.inl z) : va_E)) : Nat × va_E)) eq_54)) (congrArg (List.cons _) (congrArg (List.cons _) rfl)))))
  rw [eW] at hP hD
  have hl := lv_sub (l' := [(0, .ref d0), (1, .int (nI mo)), (2, .int 0)]) hl [1, 2, 0] rfl
  have eL : ([(0, .ref d0), (1, .int (nI mo)), (2, .int 0)] : List (Nat × Value)) = [(0, .ref d0), (1, .int (nI mo)), (2, .int (nI 0))] := (congrArg (List.cons _) (congrArg (List.cons _) (congr (congrArg List.cons (congrArg (fun z => (((2 : Nat), Value.int z) : Nat × Value)) eq_53)) rfl)))
  rw [eL] at hl
  exact L25 _ 0 (Nat.zero_add _)  _ _ _ hP hD hS hl
