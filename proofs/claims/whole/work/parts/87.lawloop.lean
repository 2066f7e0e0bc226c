/-! the law: its loop -/
def R_law : String := "DotPressLaw"
def lw_P (b : Addr) (xs : List Int32) (args : Array Value) (s : State) : Prop := args = #[.ref b] ∧ s.IntsAt b xs ∧ xs.length ≤ 3584 ∧ (Jvm.Cond.and given_1 narrow_1).before args s = true
def lw_Q (_ : Array Value) (s : State) (o : Outcome) (t : State) : Prop := o = .returned (some (.int 1)) ∧ Framed s o t [] 1048 45633
def lw_Z (below : List Frame) (a : Array Value) (s : State) : State → Prop := fun t => ∃ o, t.status = .running ∧ Ended t below o ∧ lw_Q a s o t
/-- the law's own end, with 1 on the stack, nothing written that was there before, its room as the claim has it -/
theorem lw_ret {p : Program} {l : Launch} {e : Env} {s : State} {m : MethodId} {below : List Frame} {meth : Method} {c : Code} {b : Nat} (hx : p.tables.exec = Jvm.exec) (hb : c.code = code) (hr : meth.sig.returnType = ret) (hlocks : meth.locks = false) {pc : Nat} {H : Heap} {ls : Array Slot} (hdg : decode code pc = .ok (.ireturn, 1)) : W p l e room_1 s m #[Value.ref b] below meth c H [] 1048 45633 (lw_Z below #[Value.ref b] s) (F0 m pc ls [.int 1]) := by
  intro T hT X
  obtain ⟨fs, hret, hrun, hended, hW, hframe⟩ := X.leave (v := some (.int 1)) (hlocks := hlocks) (fun h => by rw [hr] at h; cases h)
  have hmeth' : T.vm.method? m = some meth := X.method'
  refine ⟨T.setFrames fs, ?_, .returned (some (.int 1)), hrun, hended, rfl, ⟨_, rfl⟩, hW, hframe⟩
  jvm_step X.here [X.here.top, hx, hb, hdg, hmeth', hr, ret, narrow_b1]
  (try refine ⟨rfl, ?_⟩); (try refine ⟨rfl, ?_⟩)
  first | (intro acts; rw [hret _ acts rfl rfl rfl]) | rw [hret _ _ rfl rfl rfl]
  exact Steps.refl _
/-- what holds at the law's entry: the machine, the code, the tables' words (any of lw_tbl by 'hts w (by decide +kernel)'), the script of L ints xs at the cell b, what the Statement gives of the start (any of its parts by flat_of_before) -/
def lw_At (p : Program) (s : State) (m : MethodId) (meth : Method) (c : Code) (b L : Nat) (xs : Nat → Int32) : Prop :=
  p.tables.exec = Jvm.exec ∧ c.code = code ∧ meth.sig.returnType = ret ∧ c.maxLocals = 8 ∧ s.vm.findClass R_law = some m.cls ∧ (∀ w ∈ lw_tbl, w.before #[Value.ref b] s = true) ∧ va_X b L xs s s.heap ∧ b < s.heap.size ∧ meth.locks = false ∧ (Jvm.Cond.and given_1 narrow_1).before #[Value.ref b] s = true
set_option maxHeartbeats 4000000 in
set_option maxRecDepth 100000 in
theorem law_loop {p : Program} {l : Launch} {e : Env} {s : State} {m : MethodId} {below : List Frame} {meth : Method} {c : Code} {b L sa : Nat} {xs : Nat → Int32} {D : va_G} {cyI cyZ cyL : ClassId} {d0 s0 s1 s2 t0 t1 t2 t3 r0 r1 r2 r3 q0 q1 a0 a1 a2 a3 a4 a5 a6 a7 o0 : Nat} (hr : meth.sig.returnType = ret) (hlocks : meth.locks = false)
    (CX : lwCx p l s m c 0 0 b L xs D cyI cyZ cyL (fun q : Nat => s.heap.size ≤ q) sa) :
    ∀ (n k : Nat), k + n = 513 → k ≤ 512 → ∀ (Wd Hh nn mm cn : Nat) (na nb bk th rk pr lo gn : Int32) (bt bb : Int64) (g ln nu sp ne he be ik ky ca dt tr rn : Nat → Int32) (fo : Nat → Int64) (H : Heap) (locs : List Loc) (ls : Array Slot), lwI Wd Hh nn mm cn na nb rk pr g ln nu sp ne ky tr rn → va_P D vwCl [(d0, .inr (4, [.ref s0, .ref t0, .ref r0, .ref q0, .int bk])), (s0, .inr (2, [.ref s1, .ref s2, .int (nI Wd), .int (nI Hh)])), (s1, .inl (cyI, 576, .inl g)), (s2, .inl (cyZ, 576, .inl ln)), (t0, .inr (3, [.ref t1, .ref t2, .ref t3, .int (nI nn)])), (t1, .inl (cyI, 64, .inl nu)), (t2, .inl (cyI, 64, .inl sp)), (t3, .inl (cyI, 225, .inl ne)), (r0, .inr (0, [.ref r1, .ref r2, .ref r3, .int gn])), (r1, .inl (cyI, 24, .inl he)), (r2, .inl (cyI, 24, .inl be)), (r3, .inl (cyZ, 576, .inl ik)), (q0, .inr (1, [.ref q1, .int na, .int nb, .int (nI mm), .int (nI cn)])), (q1, .inl (cyI, 128, .inl ky)), (a0, .inr (5, [.int th, .int (nI Wd), .int (nI Hh), .int (nI nn), .int na, .int nb, .int rk, .int pr, .int bk, .ref a1, .ref a2, .ref a3, .ref a4, .ref a5, .ref a6, .ref a7, .int lo, .long bt, .long bb])), (a1, .inl (cyI, 576, .inl g)), (a2, .inl (cyI, 64, .inl nu)), (a3, .inl (cyI, 576, .inl ca)), (a4, .inl (cyZ, 576, .inl ln)), (a5, .inl (cyZ, 576, .inl dt)), (a6, .inl (cyZ, 16384, .inl tr)), (a7, .inl (cyI, 16384, .inl rn)), (o0, .inl (cyL, 1, .inr (.inl fo)))] H → va_D (fun q : Nat => s.heap.size ≤ q) [(d0, .inr (4, [.ref s0, .ref t0, .ref r0, .ref q0, .int bk])), (s0, .inr (2, [.ref s1, .ref s2, .int (nI Wd), .int (nI Hh)])), (s1, .inl (cyI, 576, .inl g)), (s2, .inl (cyZ, 576, .inl ln)), (t0, .inr (3, [.ref t1, .ref t2, .ref t3, .int (nI nn)])), (t1, .inl (cyI, 64, .inl nu)), (t2, .inl (cyI, 64, .inl sp)), (t3, .inl (cyI, 225, .inl ne)), (r0, .inr (0, [.ref r1, .ref r2, .ref r3, .int gn])), (r1, .inl (cyI, 24, .inl he)), (r2, .inl (cyI, 24, .inl be)), (r3, .inl (cyZ, 576, .inl ik)), (q0, .inr (1, [.ref q1, .int na, .int nb, .int (nI mm), .int (nI cn)])), (q1, .inl (cyI, 128, .inl ky)), (a0, .inr (5, [.int th, .int (nI Wd), .int (nI Hh), .int (nI nn), .int na, .int nb, .int rk, .int pr, .int bk, .ref a1, .ref a2, .ref a3, .ref a4, .ref a5, .ref a6, .ref a7, .int lo, .long bt, .long bb])), (a1, .inl (cyI, 576, .inl g)), (a2, .inl (cyI, 64, .inl nu)), (a3, .inl (cyI, 576, .inl ca)), (a4, .inl (cyZ, 576, .inl ln)), (a5, .inl (cyZ, 576, .inl dt)), (a6, .inl (cyZ, 16384, .inl tr)), (a7, .inl (cyI, 16384, .inl rn)), (o0, .inl (cyL, 1, .inr (.inl fo)))] → va_S (fun q : Nat => s.heap.size ≤ q) s.heap H locs → lv_has ls 8 [(0, .ref b), (1, .ref d0), (2, .ref a0), (3, .ref o0), (4, .int (nI (7 * k)))] → W p l e room_1 s m #[Value.ref b] below meth c H locs (23 + 2 * k) (37435 + 16 * k) (lw_Z below #[Value.ref b] s) (F0 m 23 ls []) := by
  obtain ⟨⟨hx, hb, hml, hown⟩, hts, hX, hA, hK3, hN, hE, hst, hF⟩ := CX
  have hL := hX.2.2.2
  intro n
  induction n with
  | zero =>
    intro k h1 h2
    exact absurd h2 (by omega)
  | succ n ih =>
    intro k h1 h2 Wd Hh nn mm cn na nb bk th rk pr lo gn bt bb g ln nu sp ne he be ik ky ca dt tr rn fo H locs ls hI hP hD hS hl
    refine lv_iload hx hb dL_law_23 (lv_at hl 4 rfl) ?_
    refine lv_aload_n hx hb dL_law_25 rfl (lv_at hl 0 rfl) ?_
    refine va_slen hx hb hX.1 hX.2.1 hX.2.2.1 hS dL_law_26 ?_
    refine lv_bipush (v := 7) hx hb dL_law_27 (by decide) ?_
    refine lv_isub hx hb dL_law_29 ?_
    refine lv_icmp_gt (tgt := 1025) hx hb dL_law_30 (by decide) (fun c0 => ?_) (fun c0 => ?_)
    · refine lv_iconst (v := 1) hx hb dL_law_1025 (by decide) ?_
      refine va_forget (fun q hq => hS.2.2 q hq) ?_
      refine W.widen (k := 1048) (n := 45633) (by omega) (by omega) ?_
      exact lw_ret hx hb hr hlocks dL_law_1026
    · have ht : 7 * k + 7 ≤ L := by
        have q1 : (nI L - nI 7).toInt = (L : Int) - (7 : Nat) := pk_sub_toInt (by omega) (by decide)
        have q2 : ¬ (nI L - nI 7).toInt < (nI (7 * k)).toInt := fun z => c0 (i32lt.mpr z)
        rw [q1, nI_toInt (by omega)] at q2
        omega
      have KK : lwK p l e s m below meth c (lw_Z below #[Value.ref b] s) (23 + 2 * k) (37435 + 16 * k) b (7 * k) D cyI cyZ cyL (fun q : Nat => s.heap.size ≤ q) d0 s0 s1 s2 t0 t1 t2 t3 r0 r1 r2 r3 q0 q1 a0 a1 a2 a3 a4 a5 a6 a7 o0 := by
        intro Wd Hh nn mm cn na nb bk th rk pr lo gn bt bb g ln nu sp ne he be ik ky ca dt tr rn fo H locs ls hI hP hD hS hl
        refine lv_iinc (v := nI (7 * (k + 1))) (lv' := [(4, .int (nI (7 * (k + 1)))), (0, .ref b), (1, .ref d0), (2, .ref a0), (3, .ref o0)]) hx hb dL_law_1019 hl (k := 4) rfl ((nI_add (7 * k) 7).trans (congrArg nI (by omega))) (by decide) rfl (fun ls hl => ?_)
        refine lv_goto (tgt := 23) hx hb dL_law_1022 (by decide) ?_
        refine W.widen (k := 23 + 2 * (k + 1)) (n := 37435 + 16 * (k + 1)) (by omega) (by omega) ?_
        exact ih (k + 1) (by omega) (by omega) Wd Hh nn mm cn na nb bk th rk pr lo gn bt bb g ln nu sp ne he be ik ky ca dt tr rn fo H locs ls hI hP hD hS (lv_sub (l' := [(0, .ref b), (1, .ref d0), (2, .ref a0), (3, .ref o0), (4, .int (nI (7 * (k + 1))))]) hl [1, 2, 3, 4, 0] rfl)
      exact lw_step ⟨⟨hx, hb, hml, hown⟩, hts, hX, hA, hK3, hN, hE, hst, show 23 + 2 * k + 2 ≤ 1048 by omega, show 37435 + 16 * k + 16 ≤ 45633 by omega⟩ ht KK H locs ls hI hP hD hS hl
