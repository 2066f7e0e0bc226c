/-! the net's pairs: the box of one period has them all: pure -/
theorem bez : ∀ (a b : Nat), ∃ p q : Int, p * a + q * b = (Nat.gcd a b : Int) := by
  intro a b
  induction a, b using Nat.gcd.induction with
  | H0 n => exact ⟨0, 1, by rw [Nat.gcd_zero_left]; omega⟩
  | H1 m n hm ih =>
    obtain ⟨p, q, h⟩ := ih
    refine ⟨q - p * ((n / m : Nat) : Int), p, ?_⟩
    rw [Nat.gcd_rec m n]
    rw [← h]
    have e : ((n % m : Nat) : Int) = (n : Int) - (m : Int) * ((n / m : Nat) : Int) := by
      have := Nat.div_add_mod n m
      have h2 : ((m * (n / m) + n % m : Nat) : Int) = (n : Int) := by rw [this]
      rw [Int.natCast_add, Int.natCast_mul] at h2
      omega
    rw [e]
    grind
theorem bezI (a b : Int) : ∃ p q : Int, p * a - q * b = (Nat.gcd a.natAbs b.natAbs : Int) := by
  obtain ⟨p, q, h⟩ := bez a.natAbs b.natAbs
  have ha : (a.natAbs : Int) = a ∨ (a.natAbs : Int) = -a := by omega
  have hb : (b.natAbs : Int) = b ∨ (b.natAbs : Int) = -b := by omega
  rw [← h]
  rcases ha with e1 | e1 <;> rcases hb with e2 | e2 <;> rw [e1, e2]
  · exact ⟨p, -q, by grind⟩
  · exact ⟨p, q, by grind⟩
  · exact ⟨-p, -q, by grind⟩
  · exact ⟨-p, q, by grind⟩
theorem emod_add_mul {x m k : Int} : (x + k * m) % m = x % m := by
  rw [Int.add_mul_emod_self_right]
/-- every pair of the net is one of the box's -/
theorem box {a b : Int} {m : Nat} (hm : (m : Int) = a * a + b * b) (hm1 : 1 ≤ m) (x y : Int) : ∃ i j : Nat, i < Nat.gcd a.natAbs b.natAbs ∧ j < m / Nat.gcd a.natAbs b.natAbs ∧ (a * i + b * j) % (m : Int) = (a * x + b * y) % (m : Int) ∧ (a * j - b * i) % (m : Int) = (a * y - b * x) % (m : Int) := by
  obtain ⟨p, q, hpq⟩ := bezI a b
  have hga : (Nat.gcd a.natAbs b.natAbs : Int) ∣ a := Int.ofNat_dvd_left.mpr (Nat.gcd_dvd_left _ _)
  have hgb : (Nat.gcd a.natAbs b.natAbs : Int) ∣ b := Int.ofNat_dvd_left.mpr (Nat.gcd_dvd_right _ _)
  generalize hg : Nat.gcd a.natAbs b.natAbs = g at *
  obtain ⟨a', ha'⟩ := hga
  obtain ⟨b', hb'⟩ := hgb
  have hg0 : 0 < g := by
    rcases Nat.eq_zero_or_pos g with e | e
    · exfalso
      subst e
      have e1 : a = 0 := by rw [ha']; exact Int.zero_mul _
      have e2 : b = 0 := by rw [hb']; exact Int.zero_mul _
      rw [e1, e2] at hm
      omega
    · exact e
  have hgm : g ∣ m := by
    have h1 : (g : Int) ∣ (m : Int) := by
      rw [hm]
      exact Int.dvd_add (Int.dvd_mul_of_dvd_left ⟨a', ha'⟩) (Int.dvd_mul_of_dvd_left ⟨b', hb'⟩)
    exact Int.natCast_dvd_natCast.mp h1
  obtain ⟨h, hh⟩ := hgm
  have hdiv : m / g = h := by rw [hh]; exact Nat.mul_div_cancel_left h hg0
  rw [hdiv]
  have hh0 : 0 < h := by
    rcases Nat.eq_zero_or_pos h with e | e
    · subst e; rw [Nat.mul_zero] at hh; omega
    · exact e
  have hhI : (m : Int) = (g : Int) * (h : Int) := by rw [hh, Int.natCast_mul]
  have gz : (g : Int) ≠ 0 := by omega
  have hz : (h : Int) ≠ 0 := by omega
  have ex := Int.emod_add_mul_ediv x g
  have i0 := Int.emod_nonneg x gz
  have i1 := Int.emod_lt_of_pos x (show (0 : Int) < g by omega)
  generalize hi : x % (g : Int) = i at *
  generalize hk : x / (g : Int) = k at *
  have ey := Int.emod_add_mul_ediv (y - k * (p * b + q * a)) h
  have j0 := Int.emod_nonneg (y - k * (p * b + q * a)) hz
  have j1 := Int.emod_lt_of_pos (y - k * (p * b + q * a)) (show (0 : Int) < h by omega)
  generalize hj : (y - k * (p * b + q * a)) % (h : Int) = j at *
  generalize hn : (y - k * (p * b + q * a)) / (h : Int) = n at *
  refine ⟨i.toNat, j.toNat, by omega, by omega, ?_, ?_⟩
  · rw [show ((i.toNat : Nat) : Int) = i by omega, show ((j.toNat : Nat) : Int) = j by omega]
    have e : a * x + b * y = (a * i + b * j) + (k * p + n * b') * (m : Int) := by
      have e1 : b * (h * n) = n * b' * (m : Int) := by rw [hhI, hb']; grind
      have e2 : a * ((g : Int) * k) + b * (k * (p * b + q * a)) = k * p * (m : Int) := by rw [← hpq, hm]; grind
      have e3 : x = i + g * k := ex.symm
      have e4 : y = j + h * n + k * (p * b + q * a) := by omega
      calc a * x + b * y = a * (i + g * k) + b * (j + h * n + k * (p * b + q * a)) := by rw [← e3, ← e4]
        _ = (a * i + b * j) + b * (h * n) + (a * ((g : Int) * k) + b * (k * (p * b + q * a))) := by grind
        _ = (a * i + b * j) + (k * p + n * b') * (m : Int) := by rw [e1, e2]; grind
    rw [e, emod_add_mul]
  · rw [show ((i.toNat : Nat) : Int) = i by omega, show ((j.toNat : Nat) : Int) = j by omega]
    have e : a * y - b * x = (a * j - b * i) + (k * q + n * a') * (m : Int) := by
      have e1 : a * (h * n) = n * a' * (m : Int) := by rw [hhI, ha']; grind
      have e2 : a * (k * (p * b + q * a)) - b * ((g : Int) * k) = k * q * (m : Int) := by rw [← hpq, hm]; grind
      have e3 : x = i + g * k := ex.symm
      have e4 : y = j + h * n + k * (p * b + q * a) := by omega
      calc a * y - b * x = a * (j + h * n + k * (p * b + q * a)) - b * (i + g * k) := by rw [← e3, ← e4]
        _ = (a * j - b * i) + a * (h * n) + (a * (k * (p * b + q * a)) - b * ((g : Int) * k)) := by grind
        _ = (a * j - b * i) + (k * q + n * a') * (m : Int) := by rw [e1, e2]; grind
    rw [e, emod_add_mul]
theorem box_g {a b : Int} {m : Nat} (hm : (m : Int) = a * a + b * b) (hm1 : 1 ≤ m) : 0 < Nat.gcd a.natAbs b.natAbs ∧ Nat.gcd a.natAbs b.natAbs ≤ m ∧ Nat.gcd a.natAbs b.natAbs * (m / Nat.gcd a.natAbs b.natAbs) ≤ m := by
  have hga : (Nat.gcd a.natAbs b.natAbs : Int) ∣ a := Int.ofNat_dvd_left.mpr (Nat.gcd_dvd_left _ _)
  have hgb : (Nat.gcd a.natAbs b.natAbs : Int) ∣ b := Int.ofNat_dvd_left.mpr (Nat.gcd_dvd_right _ _)
  generalize Nat.gcd a.natAbs b.natAbs = g at *
  have hgm : g ∣ m := by
    have h1 : (g : Int) ∣ (m : Int) := by
      rw [hm]
      exact Int.dvd_add (Int.dvd_mul_of_dvd_left hga) (Int.dvd_mul_of_dvd_left hgb)
    exact Int.natCast_dvd_natCast.mp h1
  exact ⟨Nat.pos_of_dvd_of_pos hgm hm1, Nat.le_of_dvd hm1 hgm, Nat.mul_div_le _ _⟩
