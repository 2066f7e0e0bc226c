/-! the law: from its entry -/
theorem lw_arr {args : Array Value} {s : State} {ty : FieldType} (h : (Cond.arrayClass ty).before args s = true) : ∃ cA : ClassId, ArrOfT s cA ty ∧ s.vm.findClass ("[" ++ ty.toString) = some cA := by
  obtain ⟨cA, kA, comp, h1, h2, h3⟩ := Cond.arrayClass_spec h
  exact ⟨cA, fun n z => ⟨fun k h => (by cases h), kA, h2, comp, h3⟩, h1⟩
set_option maxRecDepth 20000 in
theorem lwu_X0 : ∀ w ∈ u_ws RX0 TX0 4, w ∈ lw_tbl := by decide +kernel
set_option maxRecDepth 20000 in
theorem lwu_X1 : ∀ w ∈ u_ws RX1 TX1 5, w ∈ lw_tbl := by decide +kernel
set_option maxRecDepth 20000 in
theorem lwu_X2 : ∀ w ∈ u_ws RX2 TX2 4, w ∈ lw_tbl := by decide +kernel
set_option maxRecDepth 20000 in
theorem lwu_X3 : ∀ w ∈ u_ws RX3 TX3 4, w ∈ lw_tbl := by decide +kernel
set_option maxRecDepth 20000 in
theorem lwu_X4 : ∀ w ∈ u_ws RX4 TX4 5, w ∈ lw_tbl := by decide +kernel
set_option maxRecDepth 20000 in
theorem lwu_X5 : ∀ w ∈ u_ws RX5 TX5 19, w ∈ lw_tbl := by decide +kernel
set_option maxRecDepth 20000 in
theorem lw_know {args : Array Value} {s : State} (hts : ∀ w ∈ lw_tbl, w.before args s = true) : ∃ (D : va_G) (cyI cyZ cyL : ClassId), va_K D vwCl [(cyI, .int), (cyZ, .boolean), (cyL, .long)] s := by
  obtain ⟨c0, iS0, hKn0⟩ := u_known (C := RX0) (T := TX0) (N := 4) (n := 4) hts lwu_X0 (hts (.instantiable RX0 4) (by decide +kernel))
  obtain ⟨c1, iS1, hKn1⟩ := u_known (C := RX1) (T := TX1) (N := 5) (n := 5) hts lwu_X1 (hts (.instantiable RX1 5) (by decide +kernel))
  obtain ⟨c2, iS2, hKn2⟩ := u_known (C := RX2) (T := TX2) (N := 4) (n := 4) hts lwu_X2 (hts (.instantiable RX2 4) (by decide +kernel))
  obtain ⟨c3, iS3, hKn3⟩ := u_known (C := RX3) (T := TX3) (N := 4) (n := 4) hts lwu_X3 (hts (.instantiable RX3 4) (by decide +kernel))
  obtain ⟨c4, iS4, hKn4⟩ := u_known (C := RX4) (T := TX4) (N := 5) (n := 5) hts lwu_X4 (hts (.instantiable RX4 5) (by decide +kernel))
  obtain ⟨c5, iS5, hKn5⟩ := u_known (C := RX5) (T := TX5) (N := 19) (n := 19) hts lwu_X5 (hts (.instantiable RX5 19) (by decide +kernel))
  obtain ⟨cyI, i1, i2⟩ := lw_arr (hts (.arrayClass .int) (by decide +kernel))
  obtain ⟨cyZ, z1, z2⟩ := lw_arr (hts (.arrayClass .boolean) (by decide +kernel))
  obtain ⟨cyL, l1, l2⟩ := lw_arr (hts (.arrayClass .long) (by decide +kernel))
  refine ⟨(fun k => if k = 0 then c0 else if k = 1 then c1 else if k = 2 then c2 else if k = 3 then c3 else if k = 4 then c4 else c5, fun k => if k = 0 then iS0 else if k = 1 then iS1 else if k = 2 then iS2 else if k = 3 then iS3 else if k = 4 then iS4 else iS5), cyI, cyZ, cyL, ?_, ?_⟩
  · intro k q hq
    match k, hq with
    | 0, hq => cases hq; exact hKn0
    | 1, hq => cases hq; exact hKn1
    | 2, hq => cases hq; exact hKn2
    | 3, hq => cases hq; exact hKn3
    | 4, hq => cases hq; exact hKn4
    | 5, hq => cases hq; exact hKn5
    | k + 6, hq => simp [vwCl] at hq
  · intro k q hq
    match k, hq with
    | 0, hq => cases hq; exact ⟨i1, i2⟩
    | 1, hq => cases hq; exact ⟨z1, z2⟩
    | 2, hq => cases hq; exact ⟨l1, l2⟩
    | k + 3, hq => simp at hq
set_option maxRecDepth 20000 in
theorem lw_nest {args : Array Value} {s : State} (hts : ∀ w ∈ lw_tbl, w.before args s = true) : xk_N s :=
  ⟨va_tabs rfl rfl (hts (.methodLinkNest RX1 38 yX4_commonDivisor RX4) (by decide +kernel)), va_tabs rfl rfl (hts (.methodLinkNest RX1 49 yX4_within RX4) (by decide +kernel)), va_tabs rfl rfl (hts (.methodLinkNest RX3 55 yX4_within RX4) (by decide +kernel))⟩
set_option maxRecDepth 20000 in
theorem lw_throw {args : Array Value} {s : State} (hts : ∀ w ∈ lw_tbl, w.before args s = true) (hgv : (Jvm.Cond.and given_1 narrow_1).before args s = true) : ∃ sa : Nat, xt_E sa (fun q : Nat => s.heap.size ≤ q) s s.heap := by
  have hs := flat_of_before _ hgv
  have hA : ∀ a : Nat, a < s.heap.size → ¬ s.heap.size ≤ a := fun a h => Nat.not_le.mpr h
  have hx1 : (Cond.exactly (.string RX4 105) "java/lang/String").before args s = true := hs _ (by decide +kernel)
  obtain ⟨sa, _, _, _, q1, _⟩ := Cond.exactly_spec (args := args) (first := s) (o := none) (s := s) (idx := []) (t := .string RX4 105) (cls := "java/lang/String") hx1
  refine ⟨sa, vk_R.of (A := args) (hts (.stringRef RX4 105 xt_tx) (by decide +kernel)) q1, ⟨va_tabs rfl rfl (hts (.declares (xt_I "java/lang/RuntimeException")) (by decide +kernel)), va_tabs rfl rfl (hts (.declares (xt_I "java/lang/Exception")) (by decide +kernel)), va_tabs rfl rfl (hts (.declares (xt_I "java/lang/Throwable")) (by decide +kernel)), va_tabs rfl rfl (hts (.castable xt_NS xt_NS) (by decide +kernel))⟩, ?_, ?_⟩
  · exact vx_Zqof (hts (.laysStatic Jvm.Bundle.tN "UNASSIGNED_STACK" Jvm.Bundle.steD) (by decide +kernel)) (hts (.initialized Jvm.Bundle.tN) (by decide +kernel)) (hs (.isRef (.static Jvm.Bundle.tN "UNASSIGNED_STACK" Jvm.Bundle.steD)) (by decide +kernel)) hA
  · exact vx_Zqof (hts (.laysStatic Jvm.Bundle.tN "SUPPRESSED_SENTINEL" Jvm.Bundle.listD) (by decide +kernel)) (hts (.initialized Jvm.Bundle.tN) (by decide +kernel)) (hs (.isRef (.static Jvm.Bundle.tN "SUPPRESSED_SENTINEL" Jvm.Bundle.listD)) (by decide +kernel)) hA
section LWN
variable {p : Program} {l : Launch} {e : Env} {R : Room} {s : State} {m : MethodId} {args : Array Value} {below : List Frame} {meth : Method} {c : Code} {H : Heap} {locs : List Loc} {cells slots : Nat} {Q : State → Prop} {cc : ByteArray} {pc : Nat} {ls : Array Slot} {rest : List Value} {D : va_G} {A : Nat → Prop} {cyI cyZ cyL : ClassId} {ws : va_W}
theorem xk_newl (hx : p.tables.exec = Jvm.exec) (hb : c.code = cc) (harr : (Cond.arrayClass .long).before args s = true) (hK : va_K D vwCl [(cyI, .int), (cyZ, .boolean), (cyL, .long)] s) (hP : va_P D vwCl ws H) (hD : va_D A ws) (hS : va_S A s.heap H locs) (hA : ∀ q : Nat, s.heap.size ≤ q → A q) (hcells : cells + 1 ≤ R.cells) (hslots : slots + 1 ≤ R.slots) (hdg : decode cc pc = .ok (.newarray .long, 2))
    (kk : ∀ (q : Nat) (H1 : Heap), va_P D vwCl (ws ++ [(q, .inl (cyL, 1, .inr (.inl (fun _ => 0))))]) H1 → va_D A (ws ++ [(q, .inl (cyL, 1, .inr (.inl (fun _ => 0))))]) → va_S A s.heap H1 locs → W p l e R s m args below meth c H1 locs (cells + 1) (slots + 1) Q (F0 m (pc + 2) ls (.ref q :: rest))) : W p l e R s m args below meth c H locs cells slots Q (F0 m pc ls (.int 1 :: rest)) := by
  refine va_newa (atype := .long) (ty := .long) (a0 := (1, .inr (.inl (fun _ => 0)))) hx hb harr rfl hK hP hD hS hA (fun cA => rfl) (by decide) (by decide) (by decide) hcells hslots hdg ?_
  intro q cA H1 hK2 hP2 hD2 hS2
  have h1 : s.vm.findClass ("[" ++ FieldType.long.toString) = some cA := (hK2.2 3 _ rfl).2
  have h2 : s.vm.findClass ("[" ++ FieldType.long.toString) = some cyL := (hK.2 2 _ rfl).2
  have h3 : cA = cyL := Option.some.inj (h1.symm.trans h2)
  subst h3
  exact kk q H1 hP2 hD2 hS2
end LWN
theorem idt_1 : idt (1 * 1) (fun _ => 0) = fun _ => (0 : Int32) := by
  funext j
  unfold idt
  split
  · rename_i h
    rw [show j = 0 by omega]; rfl
  · rfl
theorem latK_0 (f : Nat → Int32) : kpo (kyF 2 1 5) (5 / Nat.gcd 2 1) (f, 0) (Nat.gcd 2 1) = latK 2 1 5 f := by
  unfold latK
  rw [show (2 : Int32).toInt.natAbs = 2 by decide, show (1 : Int32).toInt.natAbs = 1 by decide]
theorem lwI_new : lwI 8 8 1 5 (kpo (kyF 2 1 5) (5 / Nat.gcd 2 1) ((fun _ => 0), 0) (Nat.gcd 2 1)).2 2 1 (-1) 0 (fun _ => 0) (fun _ => 0) (fun _ => 0) (spF 1 (1 * 1) (fun _ => 0)) (neo 1 (fun _ => 0) (2 * 1 - 1)) (kpo (kyF 2 1 5) (5 / Nat.gcd 2 1) ((fun _ => 0), 0) (Nat.gcd 2 1)).1 (fun _ => 0) (fun _ => 0) := by
  have hn : nt_ok 2 1 := by decide
  have hM : ((5 : Nat) : Int) = (2 : Int32).toInt * (2 : Int32).toInt + (1 : Int32).toInt * (1 : Int32).toInt := by decide
  rw [latK_0]
  refine ⟨⟨⟨by decide, by decide⟩, ⟨by decide, by decide⟩, by decide, by decide⟩, ⟨fun _ _ _ _ _ => rfl, fun _ _ _ _ _ => rfl, fun _ => Or.inl rfl⟩, ⟨SPok_new _ _, NEok_new (by decide) (by decide) _, ?_⟩, ⟨hn, by decide, hM, by decide, by decide⟩, ⟨(lat_set _ (fun _ => 0) hn hM (by decide) (by decide)).2.1, _, rfl, rfl⟩, fun h => absurd h (by decide)⟩
  have q := PMok_new (n := 1) (by decide) (fun _ => 0)
  rw [idt_1] at q
  exact q
set_option maxRecDepth 20000 in
theorem in_L_law_X4 : ∀ w ∈ u_ws RX4 TX4 5, w ∈ wsLaw := by decide +kernel
set_option maxRecDepth 20000 in
theorem in_L_law_X5 : ∀ w ∈ u_ws RX5 TX5 19, w ∈ wsLaw := by decide +kernel
