/-! the throw of a class whose constructor's link isn't the seventh entry -/
def xt_rx : ByteArray := ⟨#[42, 43, 183, 0, 13, 177]⟩
theorem xt_0 : decode xt_rx 0 = .ok (.aload_n 0, 1) := by decide +kernel
theorem xt_1 : decode xt_rx 1 = .ok (.aload_n 1, 1) := by decide +kernel
theorem xt_2 : decode xt_rx 2 = .ok (.invokespecial 13, 3) := by decide +kernel
theorem xt_5 : decode xt_rx 5 = .ok (.return_, 1) := by decide +kernel
def xt_NS : String := "java/util/NoSuchElementException"
def xt_up : List String := ["java/lang/RuntimeException", "java/lang/Exception"]
def xt_at : List Cond := (Jvm.Bundle.ownAtomsX RX4 107 xt_NS 13 xt_rx xt_up).filter vx_no
section XT
variable {p : Program} {l : Launch} {e : Env} {R : Room} {s : State} {m₀ : MethodId} {args : Array Value} {below : List Frame} {meth : Method} {c : Code} {V : State} {locs : List Loc} {cells slots : Nat}
set_option maxHeartbeats 2000000 in
/-- from the constructor's call on the new cell to the throw's end, with no traces kept -/
theorem xt_ctor (X : Stand p l e R s m₀ args below meth c V locs cells slots) (hexec : p.tables.exec = Jvm.exec) (htr : e.platform.stackTraces = false) {own cls : String} {names : List String} {ic ix : Nat} {rx : ByteArray}
    (x0 : decode rx 0 = .ok (.aload_n 0, 1)) (x1 : decode rx 1 = .ok (.aload_n 1, 1)) (x2 : decode rx 2 = .ok (.invokespecial ix, 3)) (x5 : decode rx 5 = .ok (.return_, 1))
    (hown : s.vm.findClass own = some m₀.cls) (hcls : Jvm.Bundle.fit cls = true) (hnames : ∀ n ∈ names, Jvm.Bundle.fit n = true) (h : ∀ a ∈ Jvm.Bundle.ownAtomsX own ic cls ix rx names, a.before args s = true)
    (hlocs : ∀ x ∈ locs, ∀ cell, s.heap[x.base]? = some cell → cell.vm.isStatics = false)
    {a : Addr} {cX : ClassId} {kX : Class} (hfoundX : s.vm.findClass cls = some cX) (hkX : s.vm.classes[cX]? = some kX) (hcell : V.heap[a]? = some (freshCell cX kX)) (hnew : s.heap.size ≤ a) {msg : Value} (hmsg : msg.isRef = true)
    {g : JFrame} (hg : g.method = m₀) (hsize : g.locals.size = c.maxLocals) (hlocked : g.locked = none) (hentered : g.entered = []) {rest : List Value} (hstack : g.stack = msg :: .ref a :: .ref a :: rest)
    (hd6 : decode c.code g.pc = .ok (.invokespecial ic, 3)) (hd9 : decode c.code (g.pc + 3) = .ok (.athrow, 1)) (hout : ∀ x ∈ c.exceptionTable.toList, covers x (g.pc + 3) = false)
    (hRframes : names.length + 3 < R.frames) (hRlocals : 2 * g.monitorRoom + ((Value.ref a :: rest).map fun v => v.category).sum + (13 * (names.length + 1) + 42) ≤ R.locals) (hlocks : meth.locks = false) :
    ∃ U : State, Steps p.tables e below (V.setTop g) U ∧ U.status = .running ∧ Ended U below (.threw a) ∧ s.WarmedH U.vm ∧ s.sameButNew ({ U with vm := s.vm } : State) locs cells slots ∧ ∃ ce, U.heap[a]? = some ce ∧ ce.cls = cX ∧ ce.vm = .none := by
  have pf := X.admits.platform
  have hpl : e.platform.magicAccessors = ({} : Platform).magicAccessors := by rw [pf]
  have inA : ∀ x, x ∈ Jvm.Bundle.ownAtomsX own ic cls ix rx names → x.holds args s none s [] = true := fun x hx => h x hx
  obtain ⟨T, _, L, -, Y⟩ := ThrowableC.of_atoms (args := args) (show e.platform.frameOwnsMonitors = true by rw [pf]) (show e.platform.finalization = false by rw [pf]) hpl (fun x hx => h x (by simp [Jvm.Bundle.ownAtomsX, hx]))
  obtain ⟨Z, M, LZ, LM, hnZ⟩ := Init0T.ofS_atoms (args := args) hpl L Y (fun x hx => h x (by simp [Jvm.Bundle.ownAtomsX, hx]))
  obtain ⟨P1, Ps, hlen, L1, hL, hP1m, hlink1, hlink⟩ := Jvm.Bundle.chainSX (args := args) hpl hnZ x0 x1 x2 x5 names cls hcls hnames (fun x hx => h x (by simp [Jvm.Bundle.ownAtomsX, hx]))
  have hfound : s.vm.findClass cls = some P1.m.cls := findClass_of_methodNamed hP1m
  have eX : cX = P1.m.cls := Option.some.inj (hfoundX.symm.trans hfound)
  subst eX
  obtain ⟨_, _, w1, hk, hord, -, -, -⟩ := Cond.instantiable_spec (inA (.instantiable cls 6) (by simp [Jvm.Bundle.ownAtomsX]))
  cases Option.some.inj (w1.symm.trans hfound)
  cases Option.some.inj (hkX.symm.trans hk)
  have pick : ∀ (t : MethodName) (mt : MethodId), s.methodNamed? t = some mt → (t.cls ≠ "java/lang/invoke/MethodHandle" ∧ t.cls ≠ "java/lang/invoke/VarHandle") → (Cond.selects cls t t).holds args s none s [] = true → selectMethod e.platform s.vm P1.m.cls mt = .method mt := by
    intro t mt hn hp hsel
    obtain ⟨_, _, _, q1, q2, q3, q4, -⟩ := Cond.selects_spec hsel
    cases Option.some.inj (q1.symm.trans hfound)
    cases Option.some.inj (q2.symm.trans (State.methodFound?_of_named hn hp))
    cases Option.some.inj (q3.symm.trans hn)
    rw [Launch.admits_selectMethod X.admits]; exact q4
  have hsel0 := pick Jvm.Bundle.tFill0 T.fill0 Y.fill0 (by decide) (inA _ (by simp [Jvm.Bundle.ownAtomsX]))
  have hselF := pick Jvm.Bundle.tFill T.fill Y.fill (by decide) (inA _ (by simp [Jvm.Bundle.ownAtomsX]))
  obtain ⟨cS0, hcS0, hiss⟩ := Y.statics
  obtain ⟨u0, hu0⟩ := Cond.staticRefV Y.unassigned L.unassignedStatic L.statics hcS0 hiss (inA (.isRef (.static Jvm.Bundle.tN "UNASSIGNED_STACK" Jvm.Bundle.steD)) (by simp [Jvm.Bundle.ownAtomsX]))
  obtain ⟨sen, hsen⟩ := Cond.staticRefV Y.sentinel L.sentinelStatic L.statics hcS0 hiss (inA (.isRef (.static Jvm.Bundle.tN "SUPPRESSED_SENTINEL" Jvm.Bundle.listD)) (by simp [Jvm.Bundle.ownAtomsX]))
  obtain ⟨ciB, iB, fB, hkB, hgB, haB, hsB, -, hnB, htB, hffB⟩ := Cond.ownField (t := .object "java/lang/Object") Y.found L.cls (by decide +kernel) (inA (.fieldLink Jvm.Bundle.tN 198 Jvm.Bundle.tN "backtrace" "Ljava/lang/Object;") (by simp [Jvm.Bundle.ownAtomsX])) (inA (.lays Jvm.Bundle.tN Jvm.Bundle.tN "backtrace" "Ljava/lang/Object;") (by simp [Jvm.Bundle.ownAtomsX])) e.platform hpl
  obtain ⟨cS, hcS, heS, -, hkeep⟩ := X.same.2.2.2.2.2 T.aS cS0 hcS0
  have hcS : V.heap[T.aS]? = some cS := hcS
  have hnot : ∀ i, (⟨T.aS, i⟩ : Loc) ∉ locs := fun i hmem => by
    have q := hlocs _ hmem cS0 hcS0
    rw [hiss] at q; cases q
  have hkn : cS.vm ≠ .unknown := by
    rw [heS]; intro hu
    rw [show cS0.vm = .unknown from hu] at hiss
    cases hiss
  have hne : T.aS ≠ a := Nat.ne_of_lt (Nat.lt_of_lt_of_le (Array.getElem?_eq_some_iff.mp hcS0).1 hnew)
  obtain ⟨_, hffM⟩ := Y.msg
  obtain ⟨tyC, dC, hdC, hdnC⟩ := Cond.laysAt hfound hk Y.cause (inA (.lays cls Jvm.Bundle.tN "cause" "Ljava/lang/Throwable;") (by simp [Jvm.Bundle.ownAtomsX]))
  obtain ⟨tyS, dS, hdS, hdnS⟩ := Cond.laysAt hfound hk Y.stack (inA (.lays cls Jvm.Bundle.tN "stackTrace" Jvm.Bundle.steD) (by simp [Jvm.Bundle.ownAtomsX]))
  obtain ⟨tyP, dP, hdP, hdnP⟩ := Cond.laysAt hfound hk Y.supp (inA (.lays cls Jvm.Bundle.tN "suppressedExceptions" Jvm.Bundle.listD) (by simp [Jvm.Bundle.ownAtomsX]))
  obtain ⟨tyM, dM, hdM, hdnM⟩ := Cond.laysAt hfound hk hffM (inA (.lays cls Jvm.Bundle.tN "detailMessage" "Ljava/lang/String;") (by simp [Jvm.Bundle.ownAtomsX]))
  obtain ⟨tyB, dB, hdB, hdnB⟩ := Cond.laysAt hfound hk hffB (inA (.lays cls Jvm.Bundle.tN "backtrace" "Ljava/lang/Object;") (by simp [Jvm.Bundle.ownAtomsX]))
  have bC := Cond.laysApart hdB hdC hdnB hdnC (by rw [hnB, Y.causeName]; decide)
  have bS := Cond.laysApart hdB hdS hdnB hdnS (by rw [hnB, Y.stackName]; decide)
  have bP := Cond.laysApart hdB hdP hdnB hdnP (by rw [hnB, Y.suppName]; decide)
  have hskip : SkipFacts T e.platform s (fun u => u) u0 ((preparedCellV T.toThrowableT (freshCell P1.m.cls kX) a u0 sen).withEntry V.cur) :=
    ⟨{ ci198 := ciB, i198 := iB, fBack := fB }, ⟨hkB, hgB, haB, hsB⟩, by
      have q := fresh_default (c := P1.m.cls) tyB
      rw [htB] at q
      simpa [preparedCellV, Cell.setSlot, Cell.withEntry, Array.getElem?_setIfInBounds, bC, bS, bP, bC.symm, bS.symm, bP.symm, defaultValue] using q, fun _ _ => rfl⟩
  obtain ⟨_, _, _, _, vm₁, hnC, -, -, -, -, -, -, -, hW₁, st1⟩ := Steps.initColdS (tb := p.tables) (e := e) (below := below) (s := s) (U := V) X.here hexec X.warmed hpl hown (t := Jvm.Bundle.initS cls) rfl rfl (Jvm.Bundle.fit_spec hcls).2
    (inA (.methodLink own ic (Jvm.Bundle.initS cls)) (by simp [Jvm.Bundle.ownAtomsX])) (h (.instanceMethod (Jvm.Bundle.initS cls)) (by cases names <;> simp [Jvm.Bundle.ownAtomsX, Jvm.Bundle.chainSAtomsX, Jvm.Bundle.passSAtoms])) (bytes := rx) (maxL := 2) (h (.code (Jvm.Bundle.initS cls) rx 2 none) (by cases names <;> simp [Jvm.Bundle.ownAtomsX, Jvm.Bundle.chainSAtomsX, Jvm.Bundle.passSAtoms]))
    (f := g) hg (a := a) (msg := msg) (rest := .ref a :: rest) hstack hd6
  cases Option.some.inj (hnC.symm.trans hP1m)
  have X₁ := X.noted hW₁
  obtain ⟨vm₂, X₂, st2⟩ := X₁.ctorMessageOffV hexec (g := { g with stack := .ref a :: rest }) hg hsize T L Z LZ M LM (P1 :: Ps)
    (fun P hP => (List.mem_cons.mp hP).elim (fun q => by rw [q]; exact L1) (hL P)) ⟨hlink1, hlink⟩ (u0 := u0) (sen := sen) (self := a) hmsg (cell := freshCell P1.m.cls kX) (cellS := cS)
    hcell (fun _ => by simp) (by simp) rfl rfl hsel0 hselF hcS hne hkn (by rw [hkeep _ (hnot _)]; exact hu0) (by rw [hkeep _ (hnot _)]; exact hsen)
    (Takes.of_laid hk hord tyC (by rw [Y.causeType]; rfl)) (Takes.of_laid hk hord tyS (by rw [Y.stackType]; exact fits_refV_array _ u0)) (Takes.of_laid hk hord tyP (by rw [Y.suppType]; exact fits_refV_object _ sen))
    (Takes.of_laid hk hord tyM (by rw [Y.msgType]; exact fits_refV_object _ ⟨msg, hmsg⟩)) Y.objLocals hskip htr [] hd6
    (by simp only [List.length_cons, hlen]; omega) (by simp only [List.length_cons, hlen]; exact hRlocals)
  obtain ⟨hwalk, hrun, hended, hWU, hsame⟩ := X₂.athrowLeaves hexec (g := { g with stack := .ref a :: rest, pc := g.pc + 3 }) hg hlocked hentered hout (a := a) (rest := rest) rfl hd9
  have hlt : a < ((V.setVm vm₁).setVm vm₂).heap.size := (Array.getElem?_eq_some_iff.mp hcell).1
  have hU := heapAt_setCell_self (s := (V.setVm vm₁).setVm vm₂) (plainBareV T.toThrowableT (freshCell P1.m.cls kX) a u0 sen msg) hlt
  refine ⟨_, st1 _ (fun acts => ?_), hrun, hended, hWU, hsame.weaken (fun y hy hlt' => ?_) (Nat.le_refl _) (Nat.le_refl _), _, hU, rfl, rfl⟩
  · rw [doInvoke_state]
    exact st2 _ hwalk
  · refine (List.mem_append.mp hy).elim id (fun h1 => ?_)
    have hb : y.base = a := by
      simp only [List.mem_cons, List.not_mem_nil, or_false] at h1
      rcases h1 with rfl | rfl | rfl | rfl | rfl <;> rfl
    rw [hb] at hlt'
    exact absurd hlt' (Nat.not_lt.mpr hnew)
end XT
