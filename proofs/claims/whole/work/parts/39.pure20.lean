/-! BEATS: the key row -/
theorem t64 (x : Int32) : x.toInt64 = Int64.ofInt x.toInt := by
  rw [← Int32.toInt_toInt64, Int64.ofInt_toInt]
theorem lN_of (k : Nat) : lN k = Int64.ofInt (k : Int) := by
  unfold lN
  exact (Int64.ofInt_eq_ofNat (n := k)).symm
theorem bsq_of {a b p q M K : Int} (hM : M = a * a + b * b) (hK : K = p * p + q * q) : (Int64.ofInt a * Int64.ofInt K - Int64.ofInt p * Int64.ofInt M) * (Int64.ofInt a * Int64.ofInt K - Int64.ofInt p * Int64.ofInt M) + (Int64.ofInt b * Int64.ofInt K - Int64.ofInt q * Int64.ofInt M) * (Int64.ofInt b * Int64.ofInt K - Int64.ofInt q * Int64.ofInt M) = Int64.ofInt (M * K * (K + M - 2 * (a * p + b * q))) := by
  simp only [← Int64.ofInt_mul, ← Int64.ofInt_sub, ← Int64.ofInt_add]
  congr 1
  subst hM hK
  grind
theorem sq_nn (z : Int) : 0 ≤ z * z := by
  rcases Int.le_total 0 z with k | k
  · exact Int.mul_nonneg k k
  · exact Int.mul_nonneg_of_nonpos_of_nonpos k k
theorem e_nn (a b p q : Int) : 0 ≤ (p * p + q * q) + (a * a + b * b) - 2 * (a * p + b * q) := by
  have h1 := sq_nn (a - p)
  have h2 := sq_nn (b - q)
  have h3 : (p * p + q * q) + (a * a + b * b) - 2 * (a * p + b * q) = (a - p) * (a - p) + (b - q) * (b - q) := by grind
  omega
theorem lN_min {P e f : Nat} (h : P ≤ 16384) (h1 : 1 ≤ P) (he : e ≤ 1024) (hf : f ≤ 1024) : (if lN (P * e) ≤ lN (P * f) then lN (P * e) else lN (P * f)) = lN (P * min e f) := by
  have b1 : P * e ≤ 16384 * 1024 := Nat.mul_le_mul h he
  have b2 : P * f ≤ 16384 * 1024 := Nat.mul_le_mul h hf
  by_cases q : e ≤ f
  · rw [if_pos ((pk_lLE (by omega) (by omega)).mpr (Nat.mul_le_mul_left _ q)), Nat.min_eq_left q]
  · rw [if_neg (fun k => q (Nat.le_of_mul_le_mul_left ((pk_lLE (by omega) (by omega)).mp k) h1)), Nat.min_eq_right (by omega)]
theorem q_of {mm kk e : Nat} {z : Int} (he : (e : Int) = z) : Int64.ofInt ((mm : Int) * kk * z) = lN (mm * kk * e) := by
  rw [lN_of, Int.natCast_mul, Int.natCast_mul, he]
theorem bTp_s (na nb x y : Int32) (mm kk : Nat) (b0 : Int64) {k : Nat} (hk : k ≠ 0) : bTp na nb x y mm kk b0 (k + 1) = if bTp na nb x y mm kk b0 k ≤ bsq na nb x y mm kk k then bTp na nb x y mm kk b0 k else bsq na nb x y mm kk k := by rw [bTp, if_neg hk]
theorem beat_key {na nb x y : Int32} {mm kk : Nat} (h1 : nt_ok na nb) (h2 : nt_ok x y) (hmq : na * na + nb * nb = nI mm) (hkq : x * x + y * y = nI kk) (hM : (mm : Int) = na.toInt * na.toInt + nb.toInt * nb.toInt) (hK : (kk : Int) = x.toInt * x.toInt + y.toInt * y.toInt) (hm1 : 1 ≤ mm) (hm2 : mm ≤ 128) (hk1 : 1 ≤ kk) (hk2 : kk ≤ 128) :
    ∃ ab : Nat, btA na nb mm x y = nI ab ∧ btB mm x y = nI (mm * kk) ∧ ab ≤ 512 ∧ ∀ b0, bTp na nb x y mm kk b0 4 = lN (mm * kk * ab) := by
  obtain ⟨ha, hb, -⟩ := nt_small h1
  obtain ⟨hc, hd, -⟩ := nt_small h2
  have p1 := mul_small ha hc
  have p2 := mul_small hb hd
  have p3 := mul_small ha hd
  have p4 := mul_small hb hc
  have s0 : (na * x + nb * y).toInt = na.toInt * x.toInt + nb.toInt * y.toInt := by
    have e1 := i32m (x := na) (y := x) (by omega) (by omega)
    have e2 := i32m (x := nb) (y := y) (by omega) (by omega)
    rw [i32a (by omega) (by omega), e1, e2]
  have s1 : (na * y - nb * x).toInt = na.toInt * y.toInt - nb.toInt * x.toInt := by
    have e1 := i32m (x := na) (y := y) (by omega) (by omega)
    have e2 := i32m (x := nb) (y := x) (by omega) (by omega)
    rw [i32s (by omega) (by omega), e1, e2]
  have n0 := e_nn na.toInt nb.toInt x.toInt y.toInt
  have n1 := e_nn na.toInt nb.toInt (-y.toInt) x.toInt
  have n2 := e_nn na.toInt nb.toInt (-x.toInt) (-y.toInt)
  have n3 := e_nn na.toInt nb.toInt (-(-y.toInt)) (-x.toInt)
  have b0 : ∀ k, bsq na nb x y mm kk k = (Int64.ofInt na.toInt * Int64.ofInt kk - (bpq (Int64.ofInt x.toInt) (Int64.ofInt y.toInt) k).1 * Int64.ofInt mm) * (Int64.ofInt na.toInt * Int64.ofInt kk - (bpq (Int64.ofInt x.toInt) (Int64.ofInt y.toInt) k).1 * Int64.ofInt mm) + (Int64.ofInt nb.toInt * Int64.ofInt kk - (bpq (Int64.ofInt x.toInt) (Int64.ofInt y.toInt) k).2 * Int64.ofInt mm) * (Int64.ofInt nb.toInt * Int64.ofInt kk - (bpq (Int64.ofInt x.toInt) (Int64.ofInt y.toInt) k).2 * Int64.ofInt mm) := by
    intro k
    unfold bsq
    rw [t64 na, t64 nb, t64 x, t64 y, lN_of, lN_of]
  have hP : mm * kk ≤ 16384 := Nat.mul_le_mul hm2 hk2
  have hP1 : 1 ≤ mm * kk := Nat.mul_le_mul hm1 hk1
  have m1 : na.toInt * (-y.toInt) = -(na.toInt * y.toInt) := Int.mul_neg _ _
  have m2 : na.toInt * (-x.toInt) = -(na.toInt * x.toInt) := Int.mul_neg _ _
  have m3 : nb.toInt * (-y.toInt) = -(nb.toInt * y.toInt) := Int.mul_neg _ _
  have m4 : nb.toInt * (-x.toInt) = -(nb.toInt * x.toInt) := Int.mul_neg _ _
  have m5 : (-y.toInt) * (-y.toInt) = y.toInt * y.toInt := Int.neg_mul_neg _ _
  have m6 : (-x.toInt) * (-x.toInt) = x.toInt * x.toInt := Int.neg_mul_neg _ _
  have m7 : -(-y.toInt) = y.toInt := Int.neg_neg _
  have r0 := bsq_of (a := na.toInt) (b := nb.toInt) (p := x.toInt) (q := y.toInt) hM hK
  have r1 := bsq_of (a := na.toInt) (b := nb.toInt) (p := -y.toInt) (q := x.toInt) (K := (kk : Int)) hM (by rw [hK, m5, Int.add_comm])
  have r2 := bsq_of (a := na.toInt) (b := nb.toInt) (p := -x.toInt) (q := -y.toInt) (K := (kk : Int)) hM (by rw [hK, m5, m6])
  have r3 := bsq_of (a := na.toInt) (b := nb.toInt) (p := -(-y.toInt)) (q := -x.toInt) (K := (kk : Int)) hM (by rw [hK, m7, m6, Int.add_comm])
  simp only [Int64.ofInt_neg] at r1 r2 r3
  rw [m7] at n3 r3
  rw [m1] at n1 r1
  rw [m2, m3] at n2 r2
  rw [m4] at n3 r3
  rw [m5] at n1
  rw [m5, m6] at n2
  rw [m6] at n3
  have g0 : bsq na nb x y mm kk 0 = lN (mm * kk * ((kk : Int) + mm - 2 * (na.toInt * x.toInt + nb.toInt * y.toInt)).toNat) := by
    rw [b0 0]; exact r0.trans (q_of (by omega))
  have g1 : bsq na nb x y mm kk 1 = lN (mm * kk * ((kk : Int) + mm - 2 * (-(na.toInt * y.toInt) + nb.toInt * x.toInt)).toNat) := by
    rw [b0 1]; exact r1.trans (q_of (by omega))
  have g2 : bsq na nb x y mm kk 2 = lN (mm * kk * ((kk : Int) + mm - 2 * (-(na.toInt * x.toInt) + -(nb.toInt * y.toInt))).toNat) := by
    rw [b0 2]; exact r2.trans (q_of (by omega))
  have g3 : bsq na nb x y mm kk 3 = lN (mm * kk * ((kk : Int) + mm - 2 * (na.toInt * y.toInt + -(nb.toInt * x.toInt))).toNat) := by
    rw [b0 3]; exact r3.trans (q_of (by omega))
  generalize na.toInt * x.toInt = ac at *
  generalize nb.toInt * y.toInt = bd at *
  generalize na.toInt * y.toInt = ad at *
  generalize nb.toInt * x.toInt = bc at *
  refine ⟨mm + kk - 2 * max (ac + bd).natAbs (ad - bc).natAbs, ?_, ?_, by omega, fun z => ?_⟩
  · unfold btA
    rw [abI_N (by rw [s0]; omega), abI_N (by rw [s1]; omega), s0, s1, mxI_N (by omega) (by omega), Int32.add_assoc, hkq, nI_add, show (2 : Int32) = nI 2 from rfl, pk_mul, pk_sub (by omega)]
  · unfold btB
    rw [hkq, pk_mul]
  · rw [bTp_s na nb x y mm kk z (k := 3) (by decide), bTp_s na nb x y mm kk z (k := 2) (by decide), bTp_s na nb x y mm kk z (k := 1) (by decide), bTp_free, g0, g1, g2, g3]
    rw [lN_min hP hP1 (by omega) (by omega), lN_min hP hP1 (by omega) (by omega), lN_min hP hP1 (by omega) (by omega)]
    congr 2
    omega
