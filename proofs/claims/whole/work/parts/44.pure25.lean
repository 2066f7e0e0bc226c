/-! the ranks of the class's keys are the reference's: pure -/
theorem mul_8k {a c : Int} (ha : -8 ≤ a ∧ a ≤ 8) (hc : 0 ≤ c ∧ c ≤ 1000) : -8000 ≤ a * c ∧ a * c ≤ 8000 := by
  have h1 : (a * c).natAbs = a.natAbs * c.natAbs := Int.natAbs_mul a c
  have h2 : a.natAbs * c.natAbs ≤ 8 * 1000 := Nat.mul_le_mul (by omega) (by omega)
  omega
theorem mul_127 {d : Int} (hd : -127 ≤ d ∧ d ≤ 127) : 0 ≤ d * d ∧ d * d ≤ 16129 := by
  have h1 : (d * d).natAbs = d.natAbs * d.natAbs := Int.natAbs_mul d d
  have h2 : d.natAbs * d.natAbs ≤ 127 * 127 := Nat.mul_le_mul (by omega) (by omega)
  have q2 : 0 ≤ d * d := by
    rcases Int.le_total 0 d with k | k
    · exact Int.mul_nonneg k k
    · exact Int.mul_nonneg_of_nonpos_of_nonpos k k
  omega
section LT
variable {na nb : Int32} {mm : Nat}
theorem lin_int {x y : Int32} (ha : -8 ≤ na.toInt ∧ na.toInt ≤ 8) (hb : -8 ≤ nb.toInt ∧ nb.toInt ≤ 8) (hx : 0 ≤ x.toInt ∧ x.toInt ≤ 1000) (hy : 0 ≤ y.toInt ∧ y.toInt ≤ 1000) : (na * x + nb * y).toInt = na.toInt * x.toInt + nb.toInt * y.toInt ∧ (na * y - nb * x).toInt = na.toInt * y.toInt - nb.toInt * x.toInt := by
  have p1 := mul_8k ha hx
  have p2 := mul_8k ha hy
  have p3 := mul_8k hb hx
  have p4 := mul_8k hb hy
  have e1 : (na * x).toInt = _ := i32m (by omega) (by omega)
  have e2 : (na * y).toInt = _ := i32m (by omega) (by omega)
  have e3 : (nb * x).toInt = _ := i32m (by omega) (by omega)
  have e4 : (nb * y).toInt = _ := i32m (by omega) (by omega)
  constructor
  · rw [i32a (by omega) (by omega), e1, e4]
  · rw [i32s (by omega) (by omega), e2, e3]
theorem dd_int {u : Nat} (h : u < mm) (hm : mm ≤ 128) : (2 * nI u + 1 - nI mm).toInt = 2 * (u : Int) + 1 - mm := by
  have e0 : (2 : Int32).toInt = 2 := by decide
  have e1 : (1 : Int32).toInt = 1 := by decide
  have eu : (nI u).toInt = (u : Int) := nI_toInt (by omega)
  have em : (nI mm).toInt = (mm : Int) := nI_toInt (by omega)
  have q1 : (2 * nI u).toInt = 2 * (u : Int) := by rw [i32m (by rw [e0, eu]; omega) (by rw [e0, eu]; omega), e0, eu]
  have q2 : (2 * nI u + 1).toInt = 2 * (u : Int) + 1 := by rw [i32a (by rw [q1, e1]; omega) (by rw [q1, e1]; omega), q1, e1]
  rw [i32s (by rw [q2, em]; omega) (by rw [q2, em]; omega), q2, em]
def ddI (mm u : Nat) : Int := 2 * (u : Int) + 1 - mm
theorem fr_int {u v : Nat} (hu : u < mm) (hv : v < mm) (hm : mm ≤ 128) : ((2 * nI u + 1 - nI mm) * (2 * nI u + 1 - nI mm) + (2 * nI v + 1 - nI mm) * (2 * nI v + 1 - nI mm)).toInt = ddI mm u * ddI mm u + ddI mm v * ddI mm v ∧ 0 ≤ ddI mm u * ddI mm u + ddI mm v * ddI mm v ∧ ddI mm u * ddI mm u + ddI mm v * ddI mm v ≤ 32258 := by
  have a1 := dd_int hu hm
  have a2 := dd_int hv hm
  have b1 := mul_127 (d := ddI mm u) (by unfold ddI; omega)
  have b2 := mul_127 (d := ddI mm v) (by unfold ddI; omega)
  have c1 : ((2 * nI u + 1 - nI mm) * (2 * nI u + 1 - nI mm)).toInt = ddI mm u * ddI mm u := by
    rw [i32m (by rw [a1]; show _ ≤ ddI mm u * ddI mm u; omega) (by rw [a1]; show ddI mm u * ddI mm u < _; omega), a1]; rfl
  have c2 : ((2 * nI v + 1 - nI mm) * (2 * nI v + 1 - nI mm)).toInt = ddI mm v * ddI mm v := by
    rw [i32m (by rw [a2]; show _ ≤ ddI mm v * ddI mm v; omega) (by rw [a2]; show ddI mm v * ddI mm v < _; omega), a2]; rfl
  refine ⟨?_, by omega, by omega⟩
  rw [i32a (by rw [c1, c2]; omega) (by rw [c1, c2]; omega), c1, c2]
theorem kyB_int {u v : Nat} (hu : u < mm) (hv : v < mm) (hm : mm ≤ 128) : (kyB mm (nI u) (nI v)).toInt = ((ddI mm u * ddI mm u + ddI mm v * ddI mm v) * 128 + u) * 128 + v := by
  obtain ⟨f1, f2, f3⟩ := fr_int hu hv hm
  unfold kyB
  generalize (2 * nI u + 1 - nI mm) * (2 * nI u + 1 - nI mm) + (2 * nI v + 1 - nI mm) * (2 * nI v + 1 - nI mm) = F at *
  generalize ddI mm u * ddI mm u + ddI mm v * ddI mm v = G at *
  have e0 : (128 : Int32).toInt = 128 := by decide
  have eu : (nI u).toInt = (u : Int) := nI_toInt (by omega)
  have ev : (nI v).toInt = (v : Int) := nI_toInt (by omega)
  have q1 : (F * 128).toInt = G * 128 := by rw [i32m (by rw [f1, e0]; omega) (by rw [f1, e0]; omega), f1, e0]
  have q2 : (F * 128 + nI u).toInt = G * 128 + u := by rw [i32a (by rw [q1, eu]; omega) (by rw [q1, eu]; omega), q1, eu]
  have q3 : ((F * 128 + nI u) * 128).toInt = (G * 128 + u) * 128 := by rw [i32m (by rw [q2, e0]; omega) (by rw [q2, e0]; omega), q2, e0]
  rw [i32a (by rw [q3, ev]; omega) (by rw [q3, ev]; omega), q3, ev]
theorem lexN {u1 v1 u2 v2 : Nat} (h1 : v1 < mm) (h2 : v2 < mm) (hm : mm ≤ 128) : mm * u1 + v1 < mm * u2 + v2 ↔ u1 * 128 + v1 < u2 * 128 + v2 := by
  rcases Nat.lt_trichotomy u1 u2 with q | q | q
  · have := Nat.mul_le_mul_left mm (show u1 + 1 ≤ u2 from q)
    rw [Nat.mul_succ] at this
    constructor <;> intro _ <;> omega
  · subst q; omega
  · have := Nat.mul_le_mul_left mm (show u2 + 1 ≤ u1 from q)
    rw [Nat.mul_succ] at this
    constructor <;> intro _ <;> omega
/-- the key of the pair number k -/
def kk (mm k : Nat) : Int32 := kyB mm (nI (k / mm)) (nI (k % mm))
theorem div_lt_mm {k : Nat} (h : k < mm * mm) : k / mm < mm := Nat.div_lt_of_lt_mul h
theorem mod_lt_mm {k : Nat} (h : k < mm * mm) : k % mm < mm := Nat.mod_lt _ (by
  rcases Nat.eq_zero_or_pos mm with e | e
  · subst e; omega
  · exact e)
theorem kk_lt {k1 k2 : Nat} (hm : mm ≤ 128) (h1 : k1 < mm * mm) (h2 : k2 < mm * mm) : (kk mm k1).toInt < (kk mm k2).toInt ↔ frI mm k1 < frI mm k2 ∨ (frI mm k1 = frI mm k2 ∧ k1 < k2) := by
  have a1 := div_lt_mm h1
  have a2 := div_lt_mm h2
  have b1 := mod_lt_mm h1
  have b2 := mod_lt_mm h2
  have c1 := Nat.div_add_mod k1 mm
  have c2 := Nat.div_add_mod k2 mm
  have lx := lexN (u1 := k1 / mm) (u2 := k2 / mm) b1 b2 hm
  rw [c1, c2] at lx
  have d1 : (frI mm k1).toInt = _ := (fr_int a1 b1 hm).1
  have d2 : (frI mm k2).toInt = _ := (fr_int a2 b2 hm).1
  unfold kk
  rw [kyB_int a1 b1 hm, kyB_int a2 b2 hm, ← d1, ← d2, i32lt, ← Int32.toInt_inj]
  generalize (frI mm k1).toInt = F1
  generalize (frI mm k2).toInt = F2
  generalize k1 / mm = u1 at *
  generalize k2 / mm = u2 at *
  generalize k1 % mm = v1 at *
  generalize k2 % mm = v2 at *
  omega
theorem kk_inj {k1 k2 : Nat} (hm : mm ≤ 128) (h1 : k1 < mm * mm) (h2 : k2 < mm * mm) (h : kk mm k1 = kk mm k2) : k1 = k2 := by
  have q1 := kk_lt hm h1 h2
  have q2 := kk_lt hm h2 h1
  rw [h] at q1 q2
  have n1 : ¬ (frI mm k1 < frI mm k2 ∨ (frI mm k1 = frI mm k2 ∧ k1 < k2)) := fun r => absurd (q1.mpr r) (by omega)
  have n2 : ¬ (frI mm k2 < frI mm k1 ∨ (frI mm k2 = frI mm k1 ∧ k2 < k1)) := fun r => absurd (q2.mpr r) (by omega)
  rw [i32lt, ← Int32.toInt_inj] at n1 n2
  omega
theorem pN_div {x y : Int32} (h1 : 1 ≤ mm) : pN na nb mm x y / mm = kUn na nb mm x y ∧ pN na nb mm x y % mm = kVn na nb mm x y := by
  have a := kVn_lt (na := na) (nb := nb) (x := x) (y := y) h1
  unfold pN
  constructor
  · rw [Nat.mul_add_div (by omega), Nat.div_eq_of_lt a, Nat.add_zero]
  · rw [Nat.mul_add_mod, Nat.mod_eq_of_lt a]
theorem kyA_kk {x y : Int32} (h1 : 1 ≤ mm) (h2 : mm ≤ 128) : kyA na nb mm x y = kk mm (pN na nb mm x y) := by
  unfold kyA kk
  rw [kU_N h1 h2, kV_N h1 h2, (pN_div h1).1, (pN_div h1).2]
theorem nI_rng {i : Nat} (h : i ≤ 1000) : 0 ≤ (nI i).toInt ∧ (nI i).toInt ≤ 1000 := by
  rw [nI_toInt (by omega)]; omega
theorem same_box {x y : Int32} (hn : nt_ok na nb) (hM : (mm : Int) = na.toInt * na.toInt + nb.toInt * nb.toInt) (h1 : 1 ≤ mm) (h2 : mm ≤ 128) (hx : 0 ≤ x.toInt ∧ x.toInt ≤ 1000) (hy : 0 ≤ y.toInt ∧ y.toInt ≤ 1000) : ∃ i j : Nat, i < Nat.gcd na.toInt.natAbs nb.toInt.natAbs ∧ j < mm / Nat.gcd na.toInt.natAbs nb.toInt.natAbs ∧ i < mm ∧ j < mm ∧ pN na nb mm (nI i) (nI j) = pN na nb mm x y := by
  obtain ⟨ha, hb, _⟩ := nt_small hn
  obtain ⟨i, j, hi, hj, e1, e2⟩ := box hM h1 x.toInt y.toInt
  obtain ⟨g0, g1, g2⟩ := box_g hM h1
  have hi2 : i < mm := by omega
  have hj2 : j < mm := Nat.lt_of_lt_of_le hj (Nat.div_le_self _ _)
  refine ⟨i, j, hi, hj, hi2, hj2, ?_⟩
  have l1 := lin_int ha hb hx hy
  have l2 := lin_int ha hb (nI_rng (show i ≤ 1000 by omega)) (nI_rng (show j ≤ 1000 by omega))
  unfold pN kUn kVn
  rw [l1.1, l1.2, l2.1, l2.2, nI_toInt (by omega), nI_toInt (by omega), e1, e2]
theorem tsI_nz {i : Nat} {f : Nat → Int32} (k : Nat) : ∀ j, ¬ tsI na nb mm i f j k = 0 ↔ ¬ f k = 0 ∨ ∃ j', j' < j ∧ k = pN na nb mm (nI i) (nI j')
  | 0 => ⟨Or.inl, fun q => q.elim id (fun ⟨j, hj, _⟩ => absurd hj (by omega))⟩
  | j + 1 => by
    rw [tsI]
    by_cases e : k = pN na nb mm (nI i) (nI j)
    · rw [e, pk_us]
      exact ⟨fun _ => Or.inr ⟨j, by omega, rfl⟩, fun _ => by decide⟩
    · rw [pk_un e, tsI_nz k j]
      constructor
      · rintro (q | ⟨j', hj, e2⟩)
        · exact Or.inl q
        · exact Or.inr ⟨j', by omega, e2⟩
      · rintro (q | ⟨j', hj, e2⟩)
        · exact Or.inl q
        · by_cases q : j' = j
          · subst q; exact absurd e2 e
          · exact Or.inr ⟨j', by omega, e2⟩
theorem tsO_nz {f : Nat → Int32} (k : Nat) : ∀ i, ¬ tsO na nb mm f i k = 0 ↔ ¬ f k = 0 ∨ ∃ i' j', i' < i ∧ j' < mm ∧ k = pN na nb mm (nI i') (nI j')
  | 0 => ⟨Or.inl, fun q => q.elim id (fun ⟨i, j, hi, _⟩ => absurd hi (by omega))⟩
  | i + 1 => by
    rw [tsO, tsI_nz, tsO_nz k i]
    constructor
    · rintro ((q | ⟨i', j', hi, hj, e⟩) | ⟨j', hj, e⟩)
      · exact Or.inl q
      · exact Or.inr ⟨i', j', by omega, hj, e⟩
      · exact Or.inr ⟨i, j', by omega, hj, e⟩
    · rintro (q | ⟨i', j', hi, hj, e⟩)
      · exact Or.inl (Or.inl q)
      · by_cases q : i' = i
        · subst q; exact Or.inr ⟨j', hj, e⟩
        · exact Or.inl (Or.inr ⟨i', j', by omega, hj, e⟩)
theorem thF_nz {f : Nat → Int32} {k : Nat} (h : k < mm * mm) : ¬ thF na nb mm f k = 0 ↔ ∃ i j, i < mm ∧ j < mm ∧ k = pN na nb mm (nI i) (nI j) := by
  rw [thF, tsO_nz]
  have : zr (mm * mm) f k = 0 := by unfold zr; exact if_pos h
  exact ⟨fun q => q.elim (fun r => absurd this r) id, Or.inr⟩
theorem cL_nc (f : Nat → Int32) : ∀ n, cL f n = nI (nc (fun k => ¬ f k = 0) n)
  | 0 => rfl
  | n + 1 => by
    by_cases h : f n = 0
    · rw [← cL_a h, nc_f (P := fun k => ¬ f k = 0) (fun q => q h), cL_nc f n, Int32.add_zero]
    · rw [← cL_b h, nc_t (P := fun k => ¬ f k = 0) h, cL_nc f n, ← nI_add]; rfl
theorem ahI_nc {t : Nat → Int32} {k : Nat} : ∀ n, ahI mm t k n = nI (nc (ahd mm t k) n)
  | 0 => rfl
  | n + 1 => by
    by_cases h : ahd mm t k n
    · rw [← ahI_t h, nc_t h, ahI_nc n, ← nI_add]; rfl
    · rw [← ahI_f h, nc_f h, ahI_nc n]
theorem rnO_at {t f : Nat → Int32} {k : Nat} (hk : ¬ t k = 0) : ∀ n, k < n → rnO mm t f n k = ahI mm t k (mm * mm)
  | 0, h => absurd h (by omega)
  | n + 1, h => by
    by_cases e : k = n
    · subst e
      rw [← rnO_b hk, pk_us]
    · have ih := rnO_at (f := f) hk n (by omega)
      by_cases q : t n = 0
      · rw [← rnO_a q, ih]
      · rw [← rnO_b q, pk_un e, ih]
noncomputable abbrev latK (na nb : Int32) (mm : Nat) (ky0 : Nat → Int32) : (Nat → Int32) × Nat := kpo (kyF na nb mm) (mm / Nat.gcd na.toInt.natAbs nb.toInt.natAbs) (ky0, 0) (Nat.gcd na.toInt.natAbs nb.toInt.natAbs)
theorem lat_set (ky0 tr : Nat → Int32) (hn : nt_ok na nb) (hM : (mm : Int) = na.toInt * na.toInt + nb.toInt * nb.toInt) (h1 : 1 ≤ mm) (h2 : mm ≤ 128) : SK (latK na nb mm ky0) ∧ (latK na nb mm ky0).2 ≤ 128 ∧ ∀ z, MK (latK na nb mm ky0) z ↔ ∃ k, k < mm * mm ∧ ¬ thF na nb mm tr k = 0 ∧ kk mm k = z := by
  obtain ⟨g0, g1, g2⟩ := box_g hM h1
  obtain ⟨a1, a2, a3⟩ := kpo_new (K := kyF na nb mm) (per := mm / Nat.gcd na.toInt.natAbs nb.toInt.natAbs) (g := Nat.gcd na.toInt.natAbs nb.toInt.natAbs) (ky := ky0) (by omega)
  refine ⟨a1, a3, fun z => (a2 z).trans ⟨?_, ?_⟩⟩
  · rintro ⟨i, j, hi, hj, e⟩
    have hj2 : j < mm := Nat.lt_of_lt_of_le hj (Nat.div_le_self _ _)
    refine ⟨pN na nb mm (nI i) (nI j), pN_lt h1, (thF_nz (pN_lt h1)).mpr ⟨i, j, by omega, hj2, rfl⟩, ?_⟩
    rw [e]
    exact (kyA_kk h1 h2).symm
  · rintro ⟨k, hk, ht, e⟩
    obtain ⟨i, j, hi, hj, ek⟩ := (thF_nz hk).mp ht
    obtain ⟨i', j', b1, b2, b3, b4, b5⟩ := same_box (x := nI i) (y := nI j) hn hM h1 h2 (nI_rng (by omega)) (nI_rng (by omega))
    refine ⟨i', j', b1, b2, ?_⟩
    rw [← e, ek, ← b5]
    exact (kyA_kk h1 h2).symm
theorem lat_count (ky0 tr : Nat → Int32) (hn : nt_ok na nb) (hM : (mm : Int) = na.toInt * na.toInt + nb.toInt * nb.toInt) (h1 : 1 ≤ mm) (h2 : mm ≤ 128) : nI (latK na nb mm ky0).2 = cL (thF na nb mm tr) (mm * mm) := by
  obtain ⟨a1, a2, a3⟩ := lat_set ky0 tr hn hM h1 h2
  rw [cL_nc]
  congr 1
  generalize latK na nb mm ky0 = K at *
  have e : nc (fun _ => True) K.2 = K.2 := nc_cut K.2 (Nat.le_refl _) (fun i hi => ⟨fun _ => hi, fun _ => trivial⟩)
  rw [← e]
  refine nc_bij (f := K.1) (g := kk mm) K.2 _ _ ?_ (fun i j hi hj _ _ q => kk_inj h2 hi hj q) (fun i hi _ => ?_) (fun j hj q => ?_)
  · intro i j hi hj _ _ q
    rcases Nat.lt_trichotomy i j with w | w | w
    · have := i32lt.mp (a1 i j w hj); rw [q] at this; omega
    · exact w
    · have := i32lt.mp (a1 j i w hi); rw [q] at this; omega
  · obtain ⟨k, b1, b2, b3⟩ := (a3 (K.1 i)).mp ⟨i, hi, rfl⟩
    exact ⟨k, b1, b2, b3⟩
  · obtain ⟨i, hi, e⟩ := (a3 (kk mm j)).mpr ⟨j, hj, q, rfl⟩
    exact ⟨i, hi, trivial, e.symm⟩
theorem lat_rank (ky0 tr rn : Nat → Int32) {x y : Int32} (hn : nt_ok na nb) (hM : (mm : Int) = na.toInt * na.toInt + nb.toInt * nb.toInt) (h1 : 1 ≤ mm) (h2 : mm ≤ 128) (hx : 0 ≤ x.toInt ∧ x.toInt ≤ 1000) (hy : 0 ≤ y.toInt ∧ y.toInt ≤ 1000) : nI (ub (latK na nb mm ky0).1 (latK na nb mm ky0).2 (kyA na nb mm x y) 8) - 1 = rnO mm (thF na nb mm tr) rn (mm * mm) (pN na nb mm x y) := by
  obtain ⟨a1, a2, a3⟩ := lat_set ky0 tr hn hM h1 h2
  generalize latK na nb mm ky0 = K at *
  have hp := pN_lt (na := na) (nb := nb) (x := x) (y := y) h1
  have ht : ¬ thF na nb mm tr (pN na nb mm x y) = 0 := by
    obtain ⟨i', j', b1, b2, b3, b4, b5⟩ := same_box (x := x) (y := y) hn hM h1 h2 hx hy
    exact (thF_nz hp).mpr ⟨i', j', b3, b4, b5.symm⟩
  rw [rnO_at ht (mm * mm) hp, ahI_nc, kyA_kk h1 h2]
  generalize pN na nb mm x y = k0 at *
  obtain ⟨ky, cn⟩ := K
  show nI (ub ky cn (kk mm k0) 8) - 1 = _
  rw [← ub_nc a1 a2]
  have e1 : nc (fun i => (ky i).toInt ≤ (kk mm k0).toInt) cn = nc (fun k => ¬ thF na nb mm tr k = 0 ∧ (kk mm k).toInt ≤ (kk mm k0).toInt) (mm * mm) := by
    refine nc_bij (f := ky) (g := kk mm) cn _ _ ?_ (fun i j hi hj _ _ q => kk_inj h2 hi hj q) (fun i hi w => ?_) (fun j hj q => ?_)
    · intro i j hi hj _ _ q
      rcases Nat.lt_trichotomy i j with w | w | w
      · have := i32lt.mp (a1 i j w hj)
        have q : (ky i) = ky j := q
        have this : (ky i).toInt < (ky j).toInt := this
        rw [q] at this; omega
      · exact w
      · have := i32lt.mp (a1 j i w hi)
        have q : (ky i) = ky j := q
        have this : (ky j).toInt < (ky i).toInt := this
        rw [q] at this; omega
    · obtain ⟨k, b1, b2, b3⟩ := (a3 (ky i)).mp ⟨i, hi, rfl⟩
      exact ⟨k, b1, ⟨b2, by rw [b3]; exact w⟩, b3⟩
    · obtain ⟨i, hi, e⟩ := (a3 (kk mm j)).mpr ⟨j, hj, q.1, rfl⟩
      have e : ky i = kk mm j := e
      exact ⟨i, hi, by rw [e]; exact q.2, e.symm⟩
  rw [e1, nc_rm (j := k0) ⟨ht, Int.le_refl _⟩ (mm * mm) hp]
  have e2 : nc (fun i => (¬ thF na nb mm tr i = 0 ∧ (kk mm i).toInt ≤ (kk mm k0).toInt) ∧ i ≠ k0) (mm * mm) = nc (ahd mm (thF na nb mm tr) k0) (mm * mm) := by
    refine nc_congr _ (fun k hk => ?_)
    have q := kk_lt h2 hk hp
    unfold ahd
    rw [← q]
    constructor
    · rintro ⟨⟨w1, w2⟩, w3⟩
      refine ⟨w1, ?_⟩
      have : (kk mm k).toInt ≠ (kk mm k0).toInt := fun e => w3 (kk_inj h2 hk hp (Int32.toInt_inj.mp e))
      omega
    · rintro ⟨w1, w2⟩
      refine ⟨⟨w1, by omega⟩, fun e => ?_⟩
      subst e; omega
  rw [e2, nI_pred]
end LT
