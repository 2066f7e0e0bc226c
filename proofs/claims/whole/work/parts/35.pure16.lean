/-! BEATS: the reference's least square is bl times the class's numerator -/
theorem bTp_free (na nb x y : Int32) (mm kk : Nat) (b0 : Int64) : bTp na nb x y mm kk b0 1 = bsq na nb x y mm kk 0 := by rw [bTp, if_pos rfl]
theorem mul4 (a b : Nat) : lN a * lN b * lN a * lN b = lN (a * b * (a * b)) := by
  rw [lN_mul, lN_mul, lN_mul, Nat.mul_assoc (a * b) a b]
theorem gcd_scale {ab bl : Nat} (h : 1 ≤ bl) : bl * ab / Nat.gcd (bl * ab) (bl * bl) = ab / Nat.gcd ab bl ∧ bl * bl / Nat.gcd (bl * ab) (bl * bl) = bl / Nat.gcd ab bl := by
  rw [Nat.gcd_mul_left]
  exact ⟨Nat.mul_div_mul_left _ _ h, Nat.mul_div_mul_left _ _ h⟩
