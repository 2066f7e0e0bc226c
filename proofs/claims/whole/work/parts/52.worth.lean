/-! the class's worth and the law's helper: words, what a throw needs of the start -/
def wsX4w : List Cond := .code yX4_worth cX4_worth 3 (some .long) :: ((wsX4_worth_r1 ++ wsX4_worth_r2) ++ wsX40 ++ wsX30 ++ xt_at.filter goodWord)
def wsLw : List Cond := .codeWith yL_worth cL_worth 5 (some .int) [(0, 9, 12, 13)] :: ((wsL_worth_r1 ++ wsL_worth_r2) ++ wsX40 ++ wsX30 ++ xt_at.filter goodWord)
set_option maxRecDepth 20000 in
theorem ggX4w_X3_hasPair : GoodIn wsX4w wsX3_hasPair := goodIn_r _ [8, 9, 10, 11, 7, 12, 13, 14, 15, 16, 17, 18, 19, 20, 21, 22, 23, 42, 43, 44, 45] (by decide +kernel) (by decide +kernel)
set_option maxRecDepth 20000 in
theorem gX4w_X3_hasPair : GoodIn wsX4w (wsV RX4 87 RX3 yX3_hasPair wsX3_hasPair) := goodIn_app (goodIn_of _ (by decide +kernel)) ggX4w_X3_hasPair
set_option maxRecDepth 20000 in
theorem ggX4w_X3_gain : GoodIn wsX4w wsX3_gain := goodIn_r _ [27, 18, 20, 21, 22, 23, 28, 29, 30, 19, 31, 5, 6, 7, 8, 9, 10, 11, 12, 13, 14, 15, 16, 17, 32, 33, 34, 35, 36, 42, 43, 44, 45] (by decide +kernel) (by decide +kernel)
set_option maxRecDepth 20000 in
theorem gX4w_X3_gain : GoodIn wsX4w (wsV RX4 110 RX3 yX3_gain wsX3_gain) := goodIn_app (goodIn_of _ (by decide +kernel)) ggX4w_X3_gain
set_option maxRecDepth 20000 in
theorem ggLw_X4w : GoodIn wsLw wsX4w := goodIn_ca (goodIn_r _ [6, 7, 8, 9, 10, 11, 12, 13, 14, 15, 16, 17, 18, 19, 20, 21, 22, 23, 24, 25, 26, 27, 28, 29, 30, 31, 32, 33, 34, 35, 36, 37, 38, 39, 40, 41, 42, 43, 44, 45, 46, 47, 48, 49, 50, 51] (by decide +kernel) (by decide +kernel)) (goodIn_sub (fun _ h => List.mem_cons_of_mem _ (List.mem_append_right _ h)) (by decide +kernel))
set_option maxRecDepth 20000 in
theorem gLw_X4w : GoodIn wsLw (wsV RL 7 RX4 yX4_worth wsX4w) := goodIn_app (goodIn_of _ (by decide +kernel)) ggLw_X4w
def xt_I (C : String) : MethodName := ⟨C, "<init>", "(Ljava/lang/String;)V"⟩
def xt_B : List Cond := [.declares (xt_I "java/lang/RuntimeException"), .declares (xt_I "java/lang/Exception"), .declares (xt_I "java/lang/Throwable"), .castable xt_NS xt_NS]
theorem xt_rest : ∀ w ∈ xt_at.filter (fun w => !goodWord w), w ∈ xt_B := by decide +kernel
theorem xt_good : ∀ w ∈ Cond.classLink RX4 103 xt_NS :: Cond.initialized xt_NS :: xt_at, vx_ot w = true := by decide +kernel
def xt_tx : String := "no such two places of the table"
def xt_N (U : State) : Prop := va_Nw (.declares (xt_I "java/lang/RuntimeException")) U ∧ va_Nw (.declares (xt_I "java/lang/Exception")) U ∧ va_Nw (.declares (xt_I "java/lang/Throwable")) U ∧ va_Nw (.castable xt_NS xt_NS) U
theorem xt_N_same {u U : State} (h : u.vm = U.vm) (q : xt_N u) : xt_N U := ⟨va_Nw.same rfl h q.1, va_Nw.same rfl h q.2.1, va_Nw.same rfl h q.2.2.1, va_Nw.same rfl h q.2.2.2⟩
theorem xt_N_warm {s U : State} (hW : s.WarmedH U.vm) (q : xt_N s) : xt_N U := ⟨va_Nw.warmD hW q.1, va_Nw.warmD hW q.2.1, va_Nw.warmD hW q.2.2.1, va_Nw.warmC hW q.2.2.2⟩
theorem xt_N_B {args : Array Value} {s : State} (q : xt_N s) : ∀ w ∈ xt_B, w.before args s = true :=
  vx_c (va_Nw.use (A := args) rfl q.1) (vx_c (va_Nw.use (A := args) rfl q.2.1) (vx_c (va_Nw.use (A := args) rfl q.2.2.1) (vx_c (va_Nw.use (A := args) rfl q.2.2.2) vx_n)))
/-- what a throw needs of the start: the text, the words, Throwable's two statics -/
def xt_E (sa : Nat) (A : Nat → Prop) (U : State) (H : Heap) : Prop := vk_R RX4 105 xt_tx sa U ∧ xt_N U ∧ vx_Zq Jvm.Bundle.tN "UNASSIGNED_STACK" Jvm.Bundle.steD A U H ∧ vx_Zq Jvm.Bundle.tN "SUPPRESSED_SENTINEL" Jvm.Bundle.listD A U H
theorem xt_E_same {sa : Nat} {A : Nat → Prop} {u U : State} {H : Heap} (h : u.vm = U.vm) (q : xt_E sa A u H) : xt_E sa A U H :=
  ⟨vk_R.same h.symm q.1, xt_N_same h q.2.1, vx_Zq.moved (by rw [h]; exact Vm.Alike.refl _) q.2.2.1, vx_Zq.moved (by rw [h]; exact Vm.Alike.refl _) q.2.2.2⟩
theorem xt_E_warm {sa : Nat} {A B : Nat → Prop} {s U : State} {H H1 : Heap} (hW : s.WarmedH U.vm) (hq : ∀ a : Nat, a < H.size → ¬ A a → H1[a]? = H[a]?) (hB : ∀ q, B q → A q) (q : xt_E sa A s H) : xt_E sa B U H1 :=
  ⟨vk_R.warm hW q.1, xt_N_warm hW q.2.1, ((vx_Zq.moved hW.alike q.2.2.1).kept hq).narrow hB, ((vx_Zq.moved hW.alike q.2.2.2).kept hq).narrow hB⟩
abbrev xt_Pc (D : va_G) (cyI cyZ : ClassId) (tys : List (ClassId × FieldType)) (sa : Nat) (av : List Value) (ws : va_W) (sz : Nat) : Array Value → State → Prop := va_Pc av (fun U => U.heap.size = sz ∧ va_P D vwCl ws U.heap ∧ va_K D vwCl ((cyI, .int) :: (cyZ, .boolean) :: tys) U ∧ xk_N U ∧ va_D (fun _ => True) ws ∧ xt_E sa (va_A ws sz) U U.heap)
theorem xt_blind {D : va_G} {cyI cyZ : ClassId} {tys : List (ClassId × FieldType)} {sa : Nat} {av : List Value} {ws : va_W} {sz : Nat} : FrameBlind (xt_Pc D cyI cyZ tys sa av ws sz) := fun a U g mk q => by
  obtain ⟨q0, q1, qP, qK, qN, qD, qE⟩ := q
  exact ⟨q0, q1, qP, va_K.moved (u := U) (U := U.calling g mk a) (Vm.Alike.refl U.vm) qK, xk_N_same (u := U) (U := U.calling g mk a) rfl qN, qD, xt_E_same (u := U) (U := U.calling g mk a) rfl qE⟩
theorem xt_pre {D : va_G} {cyI cyZ : ClassId} {tys : List (ClassId × FieldType)} {sa : Nat} {av : List Value} {ws : va_W} {s : State} {H : Heap} {A : Nat → Prop} {locs : List Loc} (hK : va_K D vwCl ((cyI, .int) :: (cyZ, .boolean) :: tys) s) (hN : xk_N s) (hP : va_P D vwCl ws H) (hD : va_D A ws) (hS : va_S A s.heap H locs) (hF : ∀ q, va_A ws H.size q → A q) (hE : xt_E sa A s s.heap) : ∀ U : State, U.heap = H → s.WarmedH U.vm → xt_Pc D cyI cyZ tys sa av ws H.size av.toArray U := fun U hU hW =>
  ⟨rfl, by rw [hU], by rw [hU]; exact hP, va_K.moved hW.alike hK, xk_N_warm hW hN, hD.weaken (fun _ _ _ _ => trivial), by rw [hU]; exact xt_E_warm hW hS.2.1 hF hE⟩
abbrev xt_Q0 (A : Nat → Prop) : Array Value → State → Outcome → State → Prop := va_Ql (fun (_ : Int64) (_ : Unit) => False) (fun (_ : Unit) (_ : State) => True) A
abbrev xt_X (D : va_G) (wd : va_W) (A : Nat → Prop) : String → State → State → Prop := vx_X (fun (_ : Unit) => True) (fun E (_ : Unit) (t : State) => E = xt_NS ∧ va_P D vwCl wd t.heap ∧ va_D A wd) A
/-- a contract of a method that throws, out of the walk of its body -/
theorem xt_of {l : Launch} {y : MethodName} {ws ws' : List Cond} {rm : Room} {cc : ByteArray} {maxL : Nat} {ret : Option FieldType} {D : va_G} {cyI cyZ : ClassId} {sa : Nat} {av : List Value} {wd : va_W} {sz mc ms : Nat} {own : String}
    (hy : plainName y.cls = true) (hw : ws = Cond.code y cc maxL ret :: ws') (hcls : y.cls = own) (hlen : (lg_sl av).length ≤ maxL)
    (body : ∀ (p : Program) (e : Env) (s : State) (m : MethodId) (below : List Frame) (meth : Method) (c : Code) (A : Nat → Prop) (ls : Array Slot), p.tables.exec = Jvm.exec → c.code = cc → meth.sig.returnType = ret → c.maxLocals = maxL → s.vm.findClass own = some m.cls → meth.locks = false → (∀ x ∈ c.exceptionTable.toList, False) → (∀ w ∈ ws, w.before av.toArray s = true) → (∀ q : Nat, s.heap.size ≤ q → A q) →
      va_P D vwCl wd s.heap → va_K D vwCl [(cyI, .int), (cyZ, .boolean)] s → xk_N s → va_D A wd → va_S A s.heap s.heap [] → xt_E sa A s s.heap → lv_has ls maxL (lv_args 0 av) → W p l e rm s m av.toArray below meth c s.heap [] 0 0 (vx_MQ below (xt_Q0 A) (xt_X D wd A) av.toArray s mc ms A) (F0 m 0 ls [])) :
    vx_Met l y ws rm (xt_Pc D cyI cyZ [] sa av wd sz) (xt_Q0 (va_A wd sz)) (xt_X D wd (va_A wd sz)) mc ms (va_A wd sz) := by
  refine vx_ofW (cc := cc) (maxL := maxL) (ret := ret) hy hw ?_
  intro p e s m args below meth c s₁ B hml htab hv
  obtain ⟨rfl, hsz, hP, hK, hN, hD0, hE⟩ := hv
  have hts := atoms_spec (ws := ws) B.pre
  have hown : s.vm.findClass own = some m.cls := by rw [← hcls]; exact findClass_of_methodNamed B.named
  subst hsz
  have hD := hD0.self (sz := s.heap.size)
  have hl := lv_entry av (n := maxL) hlen
  rw [lg_entry_eq]
  exact body p e s m below meth c _ _ B.exec B.bytes B.returns hml hown B.notSynchronized htab hts (fun q h => Or.inr h) hP hK hN hD va_S.rf hE hl
