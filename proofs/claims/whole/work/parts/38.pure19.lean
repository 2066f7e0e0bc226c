/-! BEATS: the reference's least square against the class's numerator -/
theorem mul_small {a c : Int} (ha : -8 ≤ a ∧ a ≤ 8) (hc : -8 ≤ c ∧ c ≤ 8) : -64 ≤ a * c ∧ a * c ≤ 64 := by
  have h1 : (a * c).natAbs = a.natAbs * c.natAbs := Int.natAbs_mul a c
  have h2 : a.natAbs * c.natAbs ≤ 8 * 8 := Nat.mul_le_mul (by omega) (by omega)
  omega
theorem i32m {x y : Int32} (h1 : -2147483648 ≤ x.toInt * y.toInt) (h2 : x.toInt * y.toInt < 2147483648) : (x * y).toInt = x.toInt * y.toInt := by
  rw [Int32.toInt_mul, Int.bmod_eq_of_le (by omega) (by omega)]
theorem i32a {x y : Int32} (h1 : -2147483648 ≤ x.toInt + y.toInt) (h2 : x.toInt + y.toInt < 2147483648) : (x + y).toInt = x.toInt + y.toInt := by
  rw [Int32.toInt_add, Int.bmod_eq_of_le (by omega) (by omega)]
theorem i32s {x y : Int32} (h1 : -2147483648 ≤ x.toInt - y.toInt) (h2 : x.toInt - y.toInt < 2147483648) : (x - y).toInt = x.toInt - y.toInt := by
  rw [Int32.toInt_sub, Int.bmod_eq_of_le (by omega) (by omega)]
theorem nt_small {x y : Int32} (h : nt_ok x y) : (-8 ≤ x.toInt ∧ x.toInt ≤ 8) ∧ (-8 ≤ y.toInt ∧ y.toInt ≤ 8) ∧ ¬ (x.toInt = 0 ∧ y.toInt = 0) := by
  obtain ⟨⟨h1, h2⟩, ⟨h3, h4⟩, h5⟩ := h
  rw [Int32.lt_iff_toInt_lt] at h1 h2 h3 h4
  have e1 : ((-8 : Int32)).toInt = -8 := by decide
  have e2 : ((8 : Int32)).toInt = 8 := by decide
  rw [e1] at h1 h3
  rw [e2] at h2 h4
  refine ⟨by omega, by omega, fun q => h5 ⟨i32_eq (by rw [q.1]; rfl), i32_eq (by rw [q.2]; rfl)⟩⟩
theorem abI_N {z : Int32} (h : -2147483648 < z.toInt) : abI z = nI z.toInt.natAbs := by
  have hb := Int32.toInt_lt z
  unfold abI
  by_cases q : 0 ≤ z.toInt
  · rw [if_pos (Jvm.Kit.i32_nonneg.mpr q)]
    apply i32_eq
    rw [nI_toInt (by omega)]; omega
  · rw [if_neg (fun k => q (Jvm.Kit.i32_nonneg.mp k))]
    apply i32_eq
    rw [i32s (by show -2147483648 ≤ (0 : Int32).toInt - z.toInt; rw [Int32.toInt_zero]; omega) (by show (0 : Int32).toInt - z.toInt < 2147483648; rw [Int32.toInt_zero]; omega), nI_toInt (by omega), Int32.toInt_zero]
    omega
theorem sq_int {x : Int32} (h : -8 ≤ x.toInt ∧ x.toInt ≤ 8) : (x * x).toInt = x.toInt * x.toInt ∧ 0 ≤ x.toInt * x.toInt ∧ x.toInt * x.toInt ≤ 64 := by
  have q := mul_small h h
  have q2 : 0 ≤ x.toInt * x.toInt := by
    rcases Int.le_total 0 x.toInt with k | k
    · exact Int.mul_nonneg k k
    · exact Int.mul_nonneg_of_nonpos_of_nonpos k k
  exact ⟨i32m (by omega) (by omega), q2, q.2⟩
theorem net_mm {x y : Int32} (h : nt_ok x y) : ∃ mm : Nat, x * x + y * y = nI mm ∧ (mm : Int) = x.toInt * x.toInt + y.toInt * y.toInt ∧ 1 ≤ mm ∧ mm ≤ 128 := by
  obtain ⟨hx, hy, hz⟩ := nt_small h
  obtain ⟨a1, a2, a3⟩ := sq_int hx
  obtain ⟨b1, b2, b3⟩ := sq_int hy
  refine ⟨(x.toInt * x.toInt + y.toInt * y.toInt).toNat, ?_, by omega, ?_, by omega⟩
  · apply i32_eq
    rw [i32a (by omega) (by omega), nI_toInt (by omega), a1, b1]
    omega
  · have h1 : x.toInt * x.toInt + y.toInt * y.toInt ≠ 0 := by
      intro q
      have q1 : x.toInt * x.toInt = 0 := by omega
      have q2 : y.toInt * y.toInt = 0 := by omega
      exact hz ⟨(Int.mul_eq_zero.mp q1).elim id id, (Int.mul_eq_zero.mp q2).elim id id⟩
    omega
