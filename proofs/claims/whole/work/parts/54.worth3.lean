/-! the law's helper worth: done, and caught -/
theorem xt_ofL {l : Launch} {y : MethodName} {ws ws' : List Cond} {rm : Room} {cc : ByteArray} {maxL : Nat} {ret : Option FieldType} {hh : List (Nat × Nat × Nat × Nat)} {D : va_G} {cyI cyZ : ClassId} {tys : List (ClassId × FieldType)} {sa : Nat} {av : List Value} {wd : va_W} {sz mc ms : Nat} {own : String} {Qc : (Nat → Prop) → Array Value → State → Outcome → State → Prop}
    (hy : plainName y.cls = true) (hw : ws = Cond.codeWith y cc maxL ret hh :: ws') (hcls : y.cls = own) (hlen : (lg_sl av).length ≤ maxL)
    (body : ∀ (p : Program) (e : Env) (s : State) (m : MethodId) (below : List Frame) (meth : Method) (c : Code) (A : Nat → Prop) (ls : Array Slot), p.tables.exec = Jvm.exec → c.code = cc → meth.sig.returnType = ret → c.maxLocals = maxL → s.vm.findClass own = some m.cls → meth.locks = false → c.exceptionTable.toList = tableOf hh → (∀ w ∈ ws, w.before av.toArray s = true) → (∀ q : Nat, s.heap.size ≤ q → A q) →
      va_P D vwCl wd s.heap → va_K D vwCl ((cyI, .int) :: (cyZ, .boolean) :: tys) s → xk_N s → va_D A wd → va_S A s.heap s.heap [] → xt_E sa A s s.heap → lv_has ls maxL (lv_args 0 av) → W p l e rm s m av.toArray below meth c s.heap [] 0 0 (MQ below (Qc A) av.toArray s mc ms A) (F0 m 0 ls [])) :
    Met l y ws rm (xt_Pc D cyI cyZ tys sa av wd sz) (Qc (va_A wd sz)) mc ms (va_A wd sz) := by
  refine va_MetW (cc := cc) (maxL := maxL) (ret := ret) (hh := hh) hy hw ?_
  intro p e s m args below meth c s₁ B hml hv
  obtain ⟨rfl, hsz, hP, hK, hN, hD0, hE⟩ := hv
  have hts := atoms_spec (ws := ws) B.pre
  have htab := vx_table (x := y) B (hts (.codeWith y cc maxL ret hh) (by rw [hw]; exact List.mem_cons_self))
  have hown : s.vm.findClass own = some m.cls := by rw [← hcls]; exact findClass_of_methodNamed B.named
  subst hsz
  have hD := hD0.self (sz := s.heap.size)
  have hl := lv_entry av (n := maxL) hlen
  rw [lg_entry_eq]
  exact body p e s m below meth c _ _ B.exec B.bytes B.returns hml hown B.notSynchronized htab hts (fun q h => Or.inr h) hP hK hN hD va_S.rf hE hl
abbrev rm_L_worth_ok : Room := { frames := rm_X4_worth_ok.frames + 1, cells := 0, slots := 0, locals := 8 + 14 + rm_X4_worth_ok.locals }
abbrev rm_L_worth_no : Room := { frames := rm_X4_worth_no.frames + 1, cells := 1, slots := 6, locals := 8 + 14 + rm_X4_worth_no.locals }
set_option maxHeartbeats 4000000 in
set_option maxRecDepth 100000 in
theorem ct_L_worth_ok (l : Launch) (D : va_G) (cyI cyZ cyL : ClassId) (d0 s0 t0 r0 q0 t1 t2 t3 o0 : Nat) (sz sa : Nat) (bk : Int32) (nn : Nat) (nu sp ne : Nat → Int32) (f : Nat → Int64) (j1 j2 : Nat) (hn1 : 1 ≤ nn) (hn2 : nn ≤ 8) (hsp : SPok nn sp) (hne0 : NEok nn ne) (hpm : PMok nn nu) (hj1 : j1 < nn * nn) (hj2 : j2 < nn * nn) (hne : j1 ≠ j2) : Met l yL_worth wsLw rm_L_worth_ok (xt_Pc D cyI cyZ [(cyL, .long)] sa [.ref d0, .int (nI j1), .int (nI j2), .ref o0] [(d0, .inr (4, [.ref s0, .ref t0, .ref r0, .ref q0, .int bk])), (t0, .inr (3, [.ref t1, .ref t2, .ref t3, .int (nI nn)])), (t1, .inl (cyI, 64, .inl nu)), (t2, .inl (cyI, 64, .inl sp)), (t3, .inl (cyI, 225, .inl ne)), (o0, .inl (cyL, 1, .inr (.inl f)))] sz) (xk_Qi D (va_A [(d0, .inr (4, [.ref s0, .ref t0, .ref r0, .ref q0, .int bk])), (t0, .inr (3, [.ref t1, .ref t2, .ref t3, .int (nI nn)])), (t1, .inl (cyI, 64, .inl nu)), (t2, .inl (cyI, 64, .inl sp)), (t3, .inl (cyI, 225, .inl ne)), (o0, .inl (cyL, 1, .inr (.inl f)))] sz) 0 [(d0, .inr (4, [.ref s0, .ref t0, .ref r0, .ref q0, .int bk])), (t0, .inr (3, [.ref t1, .ref t2, .ref t3, .int (nI nn)])), (t1, .inl (cyI, 64, .inl nu)), (t2, .inl (cyI, 64, .inl sp)), (t3, .inl (cyI, 225, .inl ne)), (o0, .inl (cyL, 1, .inr (.inl (vp_updL f 0 (wrt nn nu j1 j2)))))]) 0 0 (va_A [(d0, .inr (4, [.ref s0, .ref t0, .ref r0, .ref q0, .int bk])), (t0, .inr (3, [.ref t1, .ref t2, .ref t3, .int (nI nn)])), (t1, .inl (cyI, 64, .inl nu)), (t2, .inl (cyI, 64, .inl sp)), (t3, .inl (cyI, 225, .inl ne)), (o0, .inl (cyL, 1, .inr (.inl f)))] sz) := by
  refine xt_ofL (own := RL) (cc := cL_worth) (maxL := 5) (ret := (some .int)) (Qc := fun A => xk_Qi D A 0 [(d0, .inr (4, [.ref s0, .ref t0, .ref r0, .ref q0, .int bk])), (t0, .inr (3, [.ref t1, .ref t2, .ref t3, .int (nI nn)])), (t1, .inl (cyI, 64, .inl nu)), (t2, .inl (cyI, 64, .inl sp)), (t3, .inl (cyI, 225, .inl ne)), (o0, .inl (cyL, 1, .inr (.inl (vp_updL f 0 (wrt nn nu j1 j2)))))]) (by decide) rfl rfl (Nat.le_of_ble_eq_true rfl) ?_
  intro p e s m below meth c A ls hx hb hr hml hown hlocks htab hts hA hP hK hN hD hS hE hl
  have hC0 := xk_fix hx hb hml hown hts
  have hK2 := hK.sub (tys' := [(cyI, .int), (cyZ, .boolean)]) [0, 1] rfl
  have hl : lv_has ls 5 [(0, .ref d0), (1, .int (nI j1)), (2, .int (nI j2)), (3, .ref o0)] := hl
  refine lv_aload_n hx hb dL_worth_0 rfl (lv_at hl 3 rfl) ?_
  refine lv_iconst (v := 0) hx hb dL_worth_1 (by decide) ?_
  refine lv_aload_n hx hb dL_worth_2 rfl (lv_at hl 0 rfl) ?_
  refine lv_iload_n hx hb dL_worth_3 rfl (lv_at hl 1 rfl) ?_
  refine lv_iload_n hx hb dL_worth_4 rfl (lv_at hl 2 rfl) ?_
  have hPc := hP.sub (ws' := [(d0, .inr (4, [.ref s0, .ref t0, .ref r0, .ref q0, .int bk])), (t0, .inr (3, [.ref t1, .ref t2, .ref t3, .int (nI nn)])), (t1, .inl (cyI, 64, .inl nu)), (t2, .inl (cyI, 64, .inl sp)), (t3, .inl (cyI, 225, .inl ne))]) [0, 1, 2, 3, 4] rfl
  have hDc := hD.sub (ws' := [(d0, .inr (4, [.ref s0, .ref t0, .ref r0, .ref q0, .int bk])), (t0, .inr (3, [.ref t1, .ref t2, .ref t3, .int (nI nn)])), (t1, .inl (cyI, 64, .inl nu)), (t2, .inl (cyI, 64, .inl sp)), (t3, .inl (cyI, 225, .inl ne))]) [0, 1, 2, 3, 4] (by decide) rfl
  refine xk_calll (wr := [(o0, .inl (cyL, 1, .inr (.inl f)))]) (w2 := [(d0, .inr (4, [.ref s0, .ref t0, .ref r0, .ref q0, .int bk])), (t0, .inr (3, [.ref t1, .ref t2, .ref t3, .int (nI nn)])), (t1, .inl (cyI, 64, .inl nu)), (t2, .inl (cyI, 64, .inl sp)), (t3, .inl (cyI, 225, .inl ne)), (o0, .inl (cyL, 1, .inr (.inl f)))]) (va_runV (As := [.int (nI j1), .int (nI j2)]) (rest := [.int 0, .ref o0]) hC0 (ct_X4_worth_ok l D cyI cyZ d0 s0 t0 r0 q0 t1 t2 t3 _ bk nn nu sp ne j1 j2 hn1 hn2 hsp hne0 hpm hj1 hj2 hne) (cwV 2 hts gLw_X4w rfl rfl rfl (by decide +kernel) ⟨Nat.le_of_ble_eq_true rfl, Nat.le_of_ble_eq_true rfl⟩) ⟨xk_blind, va_recv hK2 hPc (ci := 4) (q0 := 0) rfl rfl, xk_pre hK2 hN hPc hDc⟩ rfl rfl hl.1 rfl (lv_room (Nat.le_of_ble_eq_true rfl)) dL_worth_5 ⟨Nat.le_of_ble_eq_true rfl, Nat.le_of_ble_eq_true rfl⟩) hP hD hS hA [0, 1, 2, 3, 4] [5] [1, 2, 3, 4, 5, 0] rfl rfl (by decide) (by decide) rfl (by decide) (fun H locs hP hD hS => ?_)
  refine va_last hx hb hK hP hD hS 5 2 rfl rfl (vp_in_nI (show (0 : Nat) < 1 by decide) (by decide)) dL_worth_8 (fun H locs hP hD hS => ?_)
  refine lv_goto (tgt := 16) hx hb dL_worth_9 (by decide) ?_
  refine lv_iconst (v := 0) hx hb dL_worth_16 (by decide) ?_
  exact xk_iret hx hb hr hlocks hP hD hS rfl rfl dL_worth_17
set_option maxHeartbeats 4000000 in
set_option maxRecDepth 100000 in
theorem ct_L_worth_no (l : Launch) (hst : l.stackTraces = false) (D : va_G) (cyI cyZ cyL : ClassId) (d0 s0 t0 r0 q0 t1 t2 t3 o0 : Nat) (sz sa : Nat) (bk : Int32) (nn : Nat) (nu sp ne : Nat → Int32) (f : Nat → Int64) (x y : Int32) (hn2 : nn ≤ 8) (hno : ¬ st_pair nn x y) : Met l yL_worth wsLw rm_L_worth_no (xt_Pc D cyI cyZ [(cyL, .long)] sa [.ref d0, .int x, .int y, .ref o0] [(d0, .inr (4, [.ref s0, .ref t0, .ref r0, .ref q0, .int bk])), (t0, .inr (3, [.ref t1, .ref t2, .ref t3, .int (nI nn)])), (t1, .inl (cyI, 64, .inl nu)), (t2, .inl (cyI, 64, .inl sp)), (t3, .inl (cyI, 225, .inl ne)), (o0, .inl (cyL, 1, .inr (.inl f)))] sz) (xk_Qi D (va_A [(d0, .inr (4, [.ref s0, .ref t0, .ref r0, .ref q0, .int bk])), (t0, .inr (3, [.ref t1, .ref t2, .ref t3, .int (nI nn)])), (t1, .inl (cyI, 64, .inl nu)), (t2, .inl (cyI, 64, .inl sp)), (t3, .inl (cyI, 225, .inl ne)), (o0, .inl (cyL, 1, .inr (.inl f)))] sz) 1 [(d0, .inr (4, [.ref s0, .ref t0, .ref r0, .ref q0, .int bk])), (t0, .inr (3, [.ref t1, .ref t2, .ref t3, .int (nI nn)])), (t1, .inl (cyI, 64, .inl nu)), (t2, .inl (cyI, 64, .inl sp)), (t3, .inl (cyI, 225, .inl ne)), (o0, .inl (cyL, 1, .inr (.inl f)))]) 1 6 (va_A [(d0, .inr (4, [.ref s0, .ref t0, .ref r0, .ref q0, .int bk])), (t0, .inr (3, [.ref t1, .ref t2, .ref t3, .int (nI nn)])), (t1, .inl (cyI, 64, .inl nu)), (t2, .inl (cyI, 64, .inl sp)), (t3, .inl (cyI, 225, .inl ne)), (o0, .inl (cyL, 1, .inr (.inl f)))] sz) := by
  refine xt_ofL (own := RL) (cc := cL_worth) (maxL := 5) (ret := (some .int)) (Qc := fun A => xk_Qi D A 1 [(d0, .inr (4, [.ref s0, .ref t0, .ref r0, .ref q0, .int bk])), (t0, .inr (3, [.ref t1, .ref t2, .ref t3, .int (nI nn)])), (t1, .inl (cyI, 64, .inl nu)), (t2, .inl (cyI, 64, .inl sp)), (t3, .inl (cyI, 225, .inl ne)), (o0, .inl (cyL, 1, .inr (.inl f)))]) (by decide) rfl rfl (Nat.le_of_ble_eq_true rfl) ?_
  intro p e s m below meth c A ls hx hb hr hml hown hlocks htab hts hA hP hK hN hD hS hE hl
  have hC0 := xk_fix hx hb hml hown hts
  have hK2 := hK.sub (tys' := [(cyI, .int), (cyZ, .boolean)]) [0, 1] rfl
  have hl : lv_has ls 5 [(0, .ref d0), (1, .int x), (2, .int y), (3, .ref o0)] := hl
  refine lv_aload_n hx hb dL_worth_0 rfl (lv_at hl 3 rfl) ?_
  refine lv_iconst (v := 0) hx hb dL_worth_1 (by decide) ?_
  refine lv_aload_n hx hb dL_worth_2 rfl (lv_at hl 0 rfl) ?_
  refine lv_iload_n hx hb dL_worth_3 rfl (lv_at hl 1 rfl) ?_
  refine lv_iload_n hx hb dL_worth_4 rfl (lv_at hl 2 rfl) ?_
  have hPc := hP.sub (ws' := [(d0, .inr (4, [.ref s0, .ref t0, .ref r0, .ref q0, .int bk])), (t0, .inr (3, [.ref t1, .ref t2, .ref t3, .int (nI nn)])), (t1, .inl (cyI, 64, .inl nu)), (t2, .inl (cyI, 64, .inl sp)), (t3, .inl (cyI, 225, .inl ne))]) [0, 1, 2, 3, 4] rfl
  have hDc := hD.sub (ws' := [(d0, .inr (4, [.ref s0, .ref t0, .ref r0, .ref q0, .int bk])), (t0, .inr (3, [.ref t1, .ref t2, .ref t3, .int (nI nn)])), (t1, .inl (cyI, 64, .inl nu)), (t2, .inl (cyI, 64, .inl sp)), (t3, .inl (cyI, 225, .inl ne))]) [0, 1, 2, 3, 4] (by decide) rfl
  have hF := va_free (wc := [(d0, .inr (4, [.ref s0, .ref t0, .ref r0, .ref q0, .int bk])), (t0, .inr (3, [.ref t1, .ref t2, .ref t3, .int (nI nn)])), (t1, .inl (cyI, 64, .inl nu)), (t2, .inl (cyI, 64, .inl sp)), (t3, .inl (cyI, 225, .inl ne))]) hD hS hA [0, 1, 2, 3, 4] rfl
  refine vx_calll (vx_runV (As := [.int x, .int y]) (rest := [.int 0, .ref o0]) hC0 (ct_X4_worth_no l hst D cyI cyZ d0 s0 t0 r0 q0 t1 t2 t3 _ sa bk nn nu sp ne x y hn2 hno) (cwV 2 hts gLw_X4w rfl rfl rfl (by decide +kernel) ⟨Nat.le_of_ble_eq_true rfl, Nat.le_of_ble_eq_true rfl⟩) ⟨xt_blind, va_recv hK2 hPc (ci := 4) (q0 := 0) rfl rfl, xt_pre hK2 hN hPc hDc hS hF hE⟩ rfl rfl hl.1 rfl (lv_room (Nat.le_of_ble_eq_true rfl)) dL_worth_5 ⟨Nat.le_of_ble_eq_true rfl, Nat.le_of_ble_eq_true rfl⟩) hS (fun q _ h => hF q h) hF (fun q _ h => hF q h) ?_ (fun r u t H1 locs1 ht hvm hw hB hz1 hk1 hS1 => hw.elim)
  intro E ce q9 u t H1 locs1 ht hvm _ hB hz1 hk1 hS1 hce hcv hcl
  obtain ⟨rfl, hP1, hD1⟩ := hB
  rw [ht] at hP1
  obtain ⟨hP2, hD2⟩ := xk_world (wr := [(o0, .inl (cyL, 1, .inr (.inl f)))]) (w2 := [(d0, .inr (4, [.ref s0, .ref t0, .ref r0, .ref q0, .int bk])), (t0, .inr (3, [.ref t1, .ref t2, .ref t3, .int (nI nn)])), (t1, .inl (cyI, 64, .inl nu)), (t2, .inl (cyI, 64, .inl sp)), (t3, .inl (cyI, 225, .inl ne)), (o0, .inl (cyL, 1, .inr (.inl f)))]) hP hD hS hA [0, 1, 2, 3, 4] [5] [1, 2, 3, 4, 5, 0] rfl rfl (by decide) (by decide) rfl (by decide) hk1 hP1 hD1
  refine vx_catch (own := RL) (name := xt_NS) hown [] ⟨0, 9, 12, 13⟩ [] htab (fun z hz => by cases hz) (by decide) (by decide) (hts (.classLink RL 13 xt_NS) (by decide +kernel)) (va_Nw.use (A := _) rfl hE.2.1.2.2.2) hce hcv hcl ?_
  refine lv_astore (lv' := [(4, .ref q9), (0, .ref d0), (1, .int x), (2, .int y), (3, .ref o0)]) hx hb dL_worth_12 hl (by decide) rfl (fun ls hl => ?_)
  refine lv_iconst (v := 1) hx hb dL_worth_14 (by decide) ?_
  exact xk_iret hx hb hr hlocks hP2 hD2 hS1 rfl rfl dL_worth_15
