/-! base rows: booleans as ints, contracts in one form, calls and array accesses in one row each -/
noncomputable def bI (P : Prop) : Int32 := @ite Int32 P (Classical.propDecidable P) 1 0
theorem bI_t {P : Prop} (h : P) : bI P = 1 := by unfold bI; exact if_pos h
theorem bI_f {P : Prop} (h : ¬ P) : bI P = 0 := by unfold bI; exact if_neg h
theorem bI_z {P : Prop} : bI P = 0 ↔ ¬ P := by
  by_cases h : P
  · rw [bI_t h]; exact ⟨fun q => absurd q (by decide), fun q => absurd h q⟩
  · rw [bI_f h]; exact ⟨fun _ => h, fun _ => rfl⟩
theorem bI_nz {P : Prop} : ¬ bI P = 0 ↔ P := by rw [bI_z]; exact Classical.not_not
theorem bI_1 {P : Prop} (h : P) : (1 : Int32) = bI P := (bI_t h).symm
theorem bI_0 {P : Prop} (h : ¬ P) : (0 : Int32) = bI P := (bI_f h).symm
theorem bI_nar (P : Prop) : narrow .boolean (.int (bI P)) = .int (bI P) := by
  by_cases h : P
  · rw [bI_t h]; rfl
  · rw [bI_f h]; rfl
theorem bI_vnar (P : Prop) : vp_nar .boolean (bI P) = bI P := by
  by_cases h : P
  · rw [bI_t h]; rfl
  · rw [bI_f h]; rfl
theorem bI_iff {P Q : Prop} (h : P ↔ Q) : bI P = bI Q := by rw [propext h]
theorem bI_eq {P Q : Prop} : bI P = bI Q ↔ (P ↔ Q) := by
  refine ⟨fun h => ?_, bI_iff⟩
  by_cases hp : P
  · rw [bI_t hp] at h
    exact ⟨fun _ => bI_nz.mp (by rw [← h]; decide), fun _ => hp⟩
  · rw [bI_f hp] at h
    exact ⟨fun q => absurd q hp, fun q => absurd q (bI_z.mp h.symm)⟩
theorem xk_ab {a b : Prop} (h : a) (n : ¬ a) : b := absurd h n
theorem xk_ba {a b : Prop} (n : ¬ a) (h : a) : b := absurd h n
/-- the private members of a nest mate that are linked -/
def xk_N (U : State) : Prop := va_Nw (.methodLinkNest RX1 38 yX4_commonDivisor RX4) U ∧ va_Nw (.methodLinkNest RX1 49 yX4_within RX4) U ∧ va_Nw (.methodLinkNest RX3 55 yX4_within RX4) U
theorem xk_N_same {u U : State} (h : u.vm = U.vm) (q : xk_N u) : xk_N U := ⟨va_Nw.same rfl h q.1, va_Nw.same rfl h q.2.1, va_Nw.same rfl h q.2.2⟩
theorem xk_N_warm {s U : State} (hW : s.WarmedH U.vm) (q : xk_N s) : xk_N U := ⟨va_Nw.warmM hW q.1, va_Nw.warmM hW q.2.1, va_Nw.warmM hW q.2.2⟩
abbrev xk_Pc (D : va_G) (cyI cyZ : ClassId) (av : List Value) (ws : va_W) (sz : Nat) : Array Value → State → Prop := va_Pc av (fun U => U.heap.size = sz ∧ va_P D vwCl ws U.heap ∧ va_K D vwCl [(cyI, .int), (cyZ, .boolean)] U ∧ xk_N U ∧ va_D (fun _ => True) ws)
abbrev xk_Qi (D : va_G) (A : Nat → Prop) (r : Int32) (ws' : va_W) : Array Value → State → Outcome → State → Prop := va_Qi (fun (r' : Int32) (_ : Unit) => r' = r) (fun (_ : Unit) (t : State) => va_P D vwCl ws' t.heap ∧ va_D A ws') A
abbrev xk_Ql (D : va_G) (A : Nat → Prop) (r : Int64) (ws' : va_W) : Array Value → State → Outcome → State → Prop := va_Ql (fun (r' : Int64) (_ : Unit) => r' = r) (fun (_ : Unit) (t : State) => va_P D vwCl ws' t.heap ∧ va_D A ws') A
abbrev xk_Qv (D : va_G) (A : Nat → Prop) (ws' : va_W) : Array Value → State → Outcome → State → Prop := va_Qv (fun (_ : Unit) => True) (fun (_ : Unit) (t : State) => va_P D vwCl ws' t.heap ∧ va_D A ws') A
theorem xk_blind {D : va_G} {cyI cyZ : ClassId} {av : List Value} {ws : va_W} {sz : Nat} : FrameBlind (xk_Pc D cyI cyZ av ws sz) := fun a U g mk q => by
  obtain ⟨q0, q1, qP, qK, qN, qD⟩ := q
  exact ⟨q0, q1, qP, va_K.moved (u := U) (U := U.calling g mk a) (Vm.Alike.refl U.vm) qK, xk_N_same (u := U) (U := U.calling g mk a) rfl qN, qD⟩
theorem xk_pre {D : va_G} {cyI cyZ : ClassId} {av : List Value} {ws : va_W} {s : State} {H : Heap} {A : Nat → Prop} (hK : va_K D vwCl [(cyI, .int), (cyZ, .boolean)] s) (hN : xk_N s) (hP : va_P D vwCl ws H) (hD : va_D A ws) : ∀ U : State, U.heap = H → s.WarmedH U.vm → xk_Pc D cyI cyZ av ws H.size av.toArray U := fun U hU hW =>
  ⟨rfl, by rw [hU], by rw [hU]; exact hP, va_K.moved hW.alike hK, xk_N_warm hW hN, hD.weaken (fun _ _ _ _ => trivial)⟩
theorem xk_fix {p : Program} {m : MethodId} {c : Code} {cc : ByteArray} {nL : Nat} {s : State} {args : Array Value} {Ts : List Cond} {own : String} (hx : p.tables.exec = Jvm.exec) (hb : c.code = cc) (hml : c.maxLocals = nL) (hown : s.vm.findClass own = some m.cls) (hts : ∀ w ∈ Ts, w.before args s = true) : CallFix p m c cc nL s args Ts own := ⟨hx, hb, hml, hown, hts⟩
/-- a contract out of the walk of its body -/
theorem xk_of {l : Launch} {y : MethodName} {ws ws' : List Cond} {rm : Room} {cc : ByteArray} {maxL : Nat} {ret : Option FieldType} {D : va_G} {cyI cyZ : ClassId} {av : List Value} {wd : va_W} {sz mc ms : Nat} {own : String} {Qc : (Nat → Prop) → Array Value → State → Outcome → State → Prop}
    (hy : plainName y.cls = true) (hw : ws = Cond.code y cc maxL ret :: ws') (hcls : y.cls = own) (hlen : (lg_sl av).length ≤ maxL)
    (body : ∀ (p : Program) (e : Env) (s : State) (m : MethodId) (below : List Frame) (meth : Method) (c : Code) (A : Nat → Prop) (ls : Array Slot), p.tables.exec = Jvm.exec → c.code = cc → meth.sig.returnType = ret → c.maxLocals = maxL → s.vm.findClass own = some m.cls → meth.locks = false → meth.name = y.name → (∀ w ∈ ws, w.before av.toArray s = true) → (∀ q : Nat, s.heap.size ≤ q → A q) →
      va_P D vwCl wd s.heap → va_K D vwCl [(cyI, .int), (cyZ, .boolean)] s → xk_N s → va_D A wd → va_S A s.heap s.heap [] → lv_has ls maxL (lv_args 0 av) → W p l e rm s m av.toArray below meth c s.heap [] 0 0 (MQ below (Qc A) av.toArray s mc ms A) (F0 m 0 ls [])) :
    Met l y ws rm (xk_Pc D cyI cyZ av wd sz) (Qc (va_A wd sz)) mc ms (va_A wd sz) := by
  refine Met.ofW (cc := cc) (maxL := maxL) (ret := ret) hy hw ?_
  intro p e s m args below meth c s₁ B hml hv
  obtain ⟨rfl, hsz, hP, hK, hN, hD0⟩ := hv
  have hts := atoms_spec (ws := ws) B.pre
  have hown : s.vm.findClass own = some m.cls := by rw [← hcls]; exact findClass_of_methodNamed B.named
  have hin : meth.name = y.name := (name_of_methodNamed B.named B.method).1
  subst hsz
  have hD := hD0.self (sz := s.heap.size)
  have hl := lv_entry av (n := maxL) hlen
  rw [lg_entry_eq]
  exact body p e s m below meth c _ _ B.exec B.bytes B.returns hml hown B.notSynchronized hin hts (fun q h => Or.inr h) hP hK hN hD va_S.rf hl
section XKB
variable {p : Program} {l : Launch} {e : Env} {R : Room} {s : State} {m : MethodId} {args : Array Value} {below : List Frame} {meth : Method} {c : Code} {H : Heap} {locs : List Loc} {cells slots : Nat} {Q : State → Prop}
variable {cc : ByteArray} {pc : Nat} {ls : Array Slot} {rest st0 : List Value} {D : va_G} {A : Nat → Prop} {a : Nat} {cyI cyZ : ClassId} {ws : va_W}
theorem xk_topi {x y : Int32} (h : x = y) (k : W p l e R s m args below meth c H locs cells slots Q (F0 m pc ls (.int y :: rest))) : W p l e R s m args below meth c H locs cells slots Q (F0 m pc ls (.int x :: rest)) := by rw [h]; exact k
theorem xk_topl {x y : Int64} (h : x = y) (k : W p l e R s m args below meth c H locs cells slots Q (F0 m pc ls (.long y :: rest))) : W p l e R s m args below meth c H locs cells slots Q (F0 m pc ls (.long x :: rest)) := by rw [h]; exact k
theorem xk_iald (hx : p.tables.exec = Jvm.exec) (hb : c.code = cc) (hK : va_K D vwCl [(cyI, .int), (cyZ, .boolean)] s) (hP : va_P D vwCl ws H) (q0 : Nat) {n : Nat} {f : Nat → Int32} (ha : ws[q0]? = some (a, .inl (cyI, n, .inl f))) {i : Int32} (j : Nat) (hi : i = nI j) (hj : j < n) (hn : n < 2 ^ 31) (hdg : decode cc pc = .ok (.iaload, 1))
    (kk : W p l e R s m args below meth c H locs cells slots Q (F0 m (pc + 1) ls (.int (f j) :: rest))) : W p l e R s m args below meth c H locs cells slots Q (F0 m pc ls (.int i :: .ref a :: rest)) := by
  subst hi
  refine va_iald hx hb hK hP q0 0 ha rfl (vp_in_nI hj hn) hdg ?_
  rw [nI_clamp (Nat.lt_trans hj hn)]; exact kk
theorem xk_zald (hx : p.tables.exec = Jvm.exec) (hb : c.code = cc) (hK : va_K D vwCl [(cyI, .int), (cyZ, .boolean)] s) (hP : va_P D vwCl ws H) (q0 : Nat) {n : Nat} {f : Nat → Int32} (ha : ws[q0]? = some (a, .inl (cyZ, n, .inl f))) {i : Int32} (j : Nat) (hi : i = nI j) (hj : j < n) (hn : n < 2 ^ 31) (hdg : decode cc pc = .ok (.baload, 1))
    (kk : W p l e R s m args below meth c H locs cells slots Q (F0 m (pc + 1) ls (.int (f j) :: rest))) : W p l e R s m args below meth c H locs cells slots Q (F0 m pc ls (.int i :: .ref a :: rest)) := by
  subst hi
  refine va_zald hx hb hK hP q0 1 ha rfl (vp_in_nI hj hn) hdg ?_
  rw [nI_clamp (Nat.lt_trans hj hn)]; exact kk
theorem xk_iast {w2 : va_W} (hx : p.tables.exec = Jvm.exec) (hb : c.code = cc) (hK : va_K D vwCl [(cyI, .int), (cyZ, .boolean)] s) (hP : va_P D vwCl ws H) (hD : va_D A ws) (hS : va_S A s.heap H locs) (q0 : Nat) {n : Nat} {f : Nat → Int32} (ha : ws[q0]? = some (a, .inl (cyI, n, .inl f))) {i x : Int32} (j : Nat) (hi : i = nI j) (hj : j < n) (hn : n < 2 ^ 31)
    (hw : ws.set q0 (a, .inl (cyI, n, .inl (upd f j x))) = w2) (hdg : decode cc pc = .ok (.iastore, 1))
    (kk : ∀ (H1 : Heap) (locs1 : List Loc), va_P D vwCl w2 H1 → va_D A w2 → va_S A s.heap H1 locs1 → W p l e R s m args below meth c H1 locs1 cells slots Q (F0 m (pc + 1) ls rest)) : W p l e R s m args below meth c H locs cells slots Q (F0 m pc ls (.int x :: .int i :: .ref a :: rest)) := by
  subst hi; subst hw
  refine va_iast hx hb hK hP hD hS q0 0 ha rfl (vp_in_nI hj hn) hdg ?_
  rw [nI_clamp (Nat.lt_trans hj hn)]; exact kk
theorem xk_zast {w2 : va_W} (hx : p.tables.exec = Jvm.exec) (hb : c.code = cc) (hK : va_K D vwCl [(cyI, .int), (cyZ, .boolean)] s) (hP : va_P D vwCl ws H) (hD : va_D A ws) (hS : va_S A s.heap H locs) (q0 : Nat) {n : Nat} {f : Nat → Int32} (ha : ws[q0]? = some (a, .inl (cyZ, n, .inl f))) {i x : Int32} (j : Nat) (hi : i = nI j) (hj : j < n) (hn : n < 2 ^ 31) (hv : vp_nar .boolean x = x)
    (hw : ws.set q0 (a, .inl (cyZ, n, .inl (upd f j x))) = w2) (hdg : decode cc pc = .ok (.bastore, 1))
    (kk : ∀ (H1 : Heap) (locs1 : List Loc), va_P D vwCl w2 H1 → va_D A w2 → va_S A s.heap H1 locs1 → W p l e R s m args below meth c H1 locs1 cells slots Q (F0 m (pc + 1) ls rest)) : W p l e R s m args below meth c H locs cells slots Q (F0 m pc ls (.int x :: .int i :: .ref a :: rest)) := by
  subst hi; subst hw
  refine va_zast hx hb hK hP hD hS q0 1 ha rfl (vp_in_nI hj hn) hdg ?_
  rw [nI_clamp (Nat.lt_trans hj hn), hv]; exact kk
theorem xk_world {wd wc wr wc' w2 : va_W} {H1 : Heap} (hP : va_P D vwCl wd H) (hD : va_D A wd) (hS : va_S A s.heap H locs) (hA : ∀ q : Nat, s.heap.size ≤ q → A q) (isC isR ord : List Nat) (hC : isC.map (fun i => wd[i]?) = wc.map some) (hR : isR.map (fun i => wd[i]?) = wr.map some) (hn : va_nd isR = true) (hdis : ∀ i ∈ isR, i ∉ isC)
    (hO : ord.map (fun i => (wr ++ wc')[i]?) = w2.map some) (hnO : va_nd ord = true) (hk : ∀ q : Nat, q < H.size → ¬ va_A wc H.size q → H1[q]? = H[q]?) (hP1 : va_P D vwCl wc' H1) (hD1 : va_D (va_A wc H.size) wc') : va_P D vwCl w2 H1 ∧ va_D A w2 := by
  obtain ⟨hP2, hD2⟩ := va_join hP hD isC isR hC hR hn hdis hk (va_free hD hS hA isC hC) hP1 hD1
  have hf : ord.filterMap (fun i => (wr ++ wc')[i]?) = w2 := by
    have h1 := congrArg (List.filterMap id) hO
    rw [List.filterMap_map, List.filterMap_map] at h1
    have h2 : (List.filterMap (id ∘ some) w2) = w2 := by simp
    rw [h2] at h1
    exact h1
  exact ⟨hP2.sub ord hf, hD2.sub ord hnO hO⟩
theorem xk_calli {wd wc wr wc' w2 : va_W} {r : Int32} {mc ms : Nat} {av : Array Value}
    (hr : va_Run p l e R s m args below meth c H locs cells slots mc ms (F0 m pc ls st0) rest (xk_Qi D (va_A wc H.size) r wc' av) (va_A wc H.size))
    (hP : va_P D vwCl wd H) (hD : va_D A wd) (hS : va_S A s.heap H locs) (hA : ∀ q : Nat, s.heap.size ≤ q → A q) (isC isR ord : List Nat) (hC : isC.map (fun i => wd[i]?) = wc.map some) (hR : isR.map (fun i => wd[i]?) = wr.map some) (hn : va_nd isR = true) (hdis : ∀ i ∈ isR, i ∉ isC)
    (hO : ord.map (fun i => (wr ++ wc')[i]?) = w2.map some) (hnO : va_nd ord = true)
    (kk : ∀ (H1 : Heap) (locs1 : List Loc), va_P D vwCl w2 H1 → va_D A w2 → va_S A s.heap H1 locs1 → W p l e R s m args below meth c H1 locs1 (cells + mc) (slots + ms) Q (F0 m (pc + 3) ls (.int r :: rest))) : W p l e R s m args below meth c H locs cells slots Q (F0 m pc ls st0) := by
  have hF := va_free hD hS hA isC hC
  refine va_calli hr hS (fun q _ h => hF q h) hF (fun r' u t H1 locs1 ht hvm hw hB hz1 hk1 hS1 => ?_)
  subst hw
  obtain ⟨hP1, hD1⟩ := hB
  rw [ht] at hP1
  obtain ⟨hP2, hD2⟩ := xk_world hP hD hS hA isC isR ord hC hR hn hdis hO hnO hk1 hP1 hD1
  exact kk H1 locs1 hP2 hD2 hS1
theorem xk_calll {wd wc wr wc' w2 : va_W} {r : Int64} {mc ms : Nat} {av : Array Value}
    (hr : va_Run p l e R s m args below meth c H locs cells slots mc ms (F0 m pc ls st0) rest (xk_Ql D (va_A wc H.size) r wc' av) (va_A wc H.size))
    (hP : va_P D vwCl wd H) (hD : va_D A wd) (hS : va_S A s.heap H locs) (hA : ∀ q : Nat, s.heap.size ≤ q → A q) (isC isR ord : List Nat) (hC : isC.map (fun i => wd[i]?) = wc.map some) (hR : isR.map (fun i => wd[i]?) = wr.map some) (hn : va_nd isR = true) (hdis : ∀ i ∈ isR, i ∉ isC)
    (hO : ord.map (fun i => (wr ++ wc')[i]?) = w2.map some) (hnO : va_nd ord = true)
    (kk : ∀ (H1 : Heap) (locs1 : List Loc), va_P D vwCl w2 H1 → va_D A w2 → va_S A s.heap H1 locs1 → W p l e R s m args below meth c H1 locs1 (cells + mc) (slots + ms) Q (F0 m (pc + 3) ls (.long r :: rest))) : W p l e R s m args below meth c H locs cells slots Q (F0 m pc ls st0) := by
  have hF := va_free hD hS hA isC hC
  refine va_calll hr hS (fun q _ h => hF q h) hF (fun r' u t H1 locs1 ht hvm hw hB hz1 hk1 hS1 => ?_)
  subst hw
  obtain ⟨hP1, hD1⟩ := hB
  rw [ht] at hP1
  obtain ⟨hP2, hD2⟩ := xk_world hP hD hS hA isC isR ord hC hR hn hdis hO hnO hk1 hP1 hD1
  exact kk H1 locs1 hP2 hD2 hS1
theorem xk_callv {wd wc wr wc' w2 : va_W} {mc ms : Nat} {av : Array Value}
    (hr : va_Run p l e R s m args below meth c H locs cells slots mc ms (F0 m pc ls st0) rest (xk_Qv D (va_A wc H.size) wc' av) (va_A wc H.size))
    (hP : va_P D vwCl wd H) (hD : va_D A wd) (hS : va_S A s.heap H locs) (hA : ∀ q : Nat, s.heap.size ≤ q → A q) (isC isR ord : List Nat) (hC : isC.map (fun i => wd[i]?) = wc.map some) (hR : isR.map (fun i => wd[i]?) = wr.map some) (hn : va_nd isR = true) (hdis : ∀ i ∈ isR, i ∉ isC)
    (hO : ord.map (fun i => (wr ++ wc')[i]?) = w2.map some) (hnO : va_nd ord = true)
    (kk : ∀ (H1 : Heap) (locs1 : List Loc), va_P D vwCl w2 H1 → va_D A w2 → va_S A s.heap H1 locs1 → W p l e R s m args below meth c H1 locs1 (cells + mc) (slots + ms) Q (F0 m (pc + 3) ls rest)) : W p l e R s m args below meth c H locs cells slots Q (F0 m pc ls st0) := by
  have hF := va_free hD hS hA isC hC
  refine va_callv hr hS (fun q _ h => hF q h) hF (fun u t H1 locs1 ht hvm hw hB hz1 hk1 hS1 => ?_)
  obtain ⟨hP1, hD1⟩ := hB
  rw [ht] at hP1
  obtain ⟨hP2, hD2⟩ := xk_world hP hD hS hA isC isR ord hC hR hn hdis hO hnO hk1 hP1 hD1
  exact kk H1 locs1 hP2 hD2 hS1
theorem xk_iret {v r : Int32} {w2 wq : va_W} (hx : p.tables.exec = Jvm.exec) (hb : c.code = cc) (hr : meth.sig.returnType = some .int) (hlocks : meth.locks = false) (hP : va_P D vwCl w2 H) (hD : va_D A w2) (hS : va_S A s.heap H locs) (hv : v = r) (hw : w2 = wq) (hdg : decode cc pc = .ok (.ireturn, 1)) :
    W p l e R s m args below meth c H locs cells slots (MQ below (xk_Qi D A r wq) args s cells slots A) (F0 m pc ls [.int v]) := by
  subst hv; subst hw
  exact W.iret hx hb hr (fun t ht hW => ⟨⟨v, (), rfl, rfl, by rw [ht]; exact hP, hD⟩, hS.F ht⟩) hS.2.2 hdg
theorem xk_zret {v r : Int32} {w2 wq : va_W} (hx : p.tables.exec = Jvm.exec) (hb : c.code = cc) (hr : meth.sig.returnType = some .boolean) (hlocks : meth.locks = false) (hP : va_P D vwCl w2 H) (hD : va_D A w2) (hS : va_S A s.heap H locs) (hv : v = r) (hw : w2 = wq) (hn : narrow .boolean (.int r) = .int r) (hdg : decode cc pc = .ok (.ireturn, 1)) :
    W p l e R s m args below meth c H locs cells slots (MQ below (xk_Qi D A r wq) args s cells slots A) (F0 m pc ls [.int v]) := by
  subst hv; subst hw
  exact W.zret hx hb hr hn (fun t ht hW => ⟨⟨v, (), rfl, rfl, by rw [ht]; exact hP, hD⟩, hS.F ht⟩) hS.2.2 hdg
theorem xk_lret {v r : Int64} {w2 wq : va_W} (hx : p.tables.exec = Jvm.exec) (hb : c.code = cc) (hr : meth.sig.returnType = some .long) (hlocks : meth.locks = false) (hP : va_P D vwCl w2 H) (hD : va_D A w2) (hS : va_S A s.heap H locs) (hv : v = r) (hw : w2 = wq) (hdg : decode cc pc = .ok (.lreturn, 1)) :
    W p l e R s m args below meth c H locs cells slots (MQ below (xk_Ql D A r wq) args s cells slots A) (F0 m pc ls [.long v]) := by
  subst hv; subst hw
  exact W.lret hx hb hr (fun t ht hW => ⟨⟨v, (), rfl, rfl, by rw [ht]; exact hP, hD⟩, hS.F ht⟩) hS.2.2 hdg
theorem xk_vret {w2 wq : va_W} (hx : p.tables.exec = Jvm.exec) (hb : c.code = cc) (hr : meth.sig.returnType = none) (hlocks : meth.locks = false) (hP : va_P D vwCl w2 H) (hD : va_D A w2) (hS : va_S A s.heap H locs) (hw : w2 = wq) (hdg : decode cc pc = .ok (.return_, 1)) :
    W p l e R s m args below meth c H locs cells slots (MQ below (xk_Qv D A wq) args s cells slots A) (F0 m pc ls []) := by
  subst hw
  exact W.vret hx hb hr (fun t ht hW => ⟨⟨(), rfl, trivial, by rw [ht]; exact hP, hD⟩, hS.F ht⟩) hS.2.2 hdg
end XKB
