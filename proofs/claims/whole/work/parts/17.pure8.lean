/-! gcd, keys, the search among rising keys: pure -/
def eu (x y : Nat) : Nat → Nat × Nat
  | 0 => (x, y)
  | k + 1 => ((eu x y k).2, (eu x y k).1 % (eu x y k).2)
theorem eu_gcd (x y : Nat) : ∀ k, Nat.gcd (eu x y k).1 (eu x y k).2 = Nat.gcd x y
  | 0 => rfl
  | k + 1 => by
    rw [← eu_gcd x y k]
    show Nat.gcd (eu x y k).2 ((eu x y k).1 % (eu x y k).2) = _
    rw [Nat.gcd_comm, ← Nat.gcd_rec, Nat.gcd_comm]
theorem eu_lt {x y B : Nat} (hx : x < B) (hy : y < B) : ∀ k, (eu x y k).1 < B ∧ (eu x y k).2 < B
  | 0 => ⟨hx, hy⟩
  | k + 1 => by
    have ih := eu_lt hx hy k
    exact ⟨ih.2, Nat.lt_of_le_of_lt (Nat.mod_le _ _) ih.1⟩
theorem eu_half {x y k : Nat} (h0 : 0 < (eu x y k).2) (h1 : 0 < (eu x y (k + 1)).2) : 2 * (eu x y (k + 2)).2 < (eu x y k).2 := by
  show 2 * ((eu x y k).2 % (eu x y (k + 1)).2) < (eu x y k).2
  have h2 : (eu x y (k + 1)).2 < (eu x y k).2 := Nat.mod_lt _ h0
  generalize (eu x y (k + 1)).2 = b at *
  generalize (eu x y k).2 = a at *
  have h3 := Nat.mod_lt a h1
  have h4 : a % b ≤ a - b := by
    rw [Nat.mod_eq_sub_mod (Nat.le_of_lt h2)]; exact Nat.mod_le _ _
  omega
theorem eu_stop {x y : Nat} (hy : y < 2 ^ 15) : ∃ N, N ≤ 64 ∧ (∀ k, k < N → 0 < (eu x y k).2) ∧ (eu x y N).2 = 0 := by
  have h1 : ∃ k, k ≤ 30 ∧ (eu x y k).2 = 0 := by
    refine Classical.byContradiction (fun hn => ?_)
    have hp : ∀ k, k ≤ 30 → 0 < (eu x y k).2 := fun k hk => Nat.pos_of_ne_zero (fun q => hn ⟨k, hk, q⟩)
    have hj : ∀ j, j ≤ 15 → (eu x y (2 * j)).2 * 2 ^ j ≤ y := by
      intro j
      induction j with
      | zero => intro _; show y * 1 ≤ y; omega
      | succ j ih =>
        intro hj
        have q1 := ih (by omega)
        have q2 := eu_half (hp (2 * j) (by omega)) (hp (2 * j + 1) (by omega))
        rw [show 2 * (j + 1) = 2 * j + 2 by omega, Nat.pow_succ]
        have q3 : (eu x y (2 * j + 2)).2 * (2 ^ j * 2) ≤ (eu x y (2 * j)).2 * 2 ^ j := by
          rw [Nat.mul_comm (2 ^ j) 2, ← Nat.mul_assoc]
          exact Nat.mul_le_mul_right _ (by omega)
        omega
    have q := hj 15 (by omega)
    have q2 := hp 30 (by omega)
    have q3 : (eu x y (2 * 15)).2 = (eu x y 30).2 := rfl
    rw [q3] at q
    generalize (eu x y 30).2 = v at *
    omega
  obtain ⟨w, hw, hw0⟩ := h1
  obtain ⟨k, hk, hmin⟩ := pk_least (fun k => (eu x y k).2 = 0) ⟨w, hw0⟩
  refine ⟨k, ?_, fun j hj => Nat.pos_of_ne_zero (hmin j hj), hk⟩
  rcases Nat.lt_or_ge w k with q | q
  · exact absurd hw0 (hmin w q)
  · omega
def kU (na nb : Int32) (mm : Nat) (x y : Int32) : Int32 := fmI (na * x + nb * y) (nI mm)
def kV (na nb : Int32) (mm : Nat) (x y : Int32) : Int32 := fmI (na * y - nb * x) (nI mm)
def kyB (mm : Nat) (u v : Int32) : Int32 := (((2 * u + 1 - nI mm) * (2 * u + 1 - nI mm) + (2 * v + 1 - nI mm) * (2 * v + 1 - nI mm)) * 128 + u) * 128 + v
def kyA (na nb : Int32) (mm : Nat) (x y : Int32) : Int32 := kyB mm (kU na nb mm x y) (kV na nb mm x y)
def kyF (na nb : Int32) (mm : Nat) (i j : Nat) : Int32 := kyA na nb mm (nI i) (nI j)
def lp (k : Nat) : Nat := 128 / 2 ^ k
theorem lp_le (k : Nat) : lp k ≤ 128 := Nat.div_le_self _ _
theorem lp_pos : ∀ k, k < 8 → 1 ≤ lp k := by decide
theorem lp_8 : lp 8 = 0 := by decide
theorem lp_s (k : Nat) : nI (lp k) / 2 = nI (lp (k + 1)) := by
  have h := lp_le k
  rw [show (2 : Int32) = nI 2 from rfl, pk_div (by omega) (by decide) (by decide)]
  unfold lp
  rw [Nat.div_div_eq_div_mul, Nat.pow_succ]
def ub (ky : Nat → Int32) (cn : Nat) (key : Int32) : Nat → Nat
  | 0 => 0
  | k + 1 => if ub ky cn key k + lp k ≤ cn ∧ ¬ key < ky (ub ky cn key k + lp k - 1) then ub ky cn key k + lp k else ub ky cn key k
theorem ub_le (ky : Nat → Int32) (cn : Nat) (key : Int32) : ∀ k, ub ky cn key k ≤ cn
  | 0 => Nat.zero_le _
  | k + 1 => by
    rw [ub]
    split
    · rename_i h; exact h.1
    · exact ub_le ky cn key k
theorem ub_a {ky : Nat → Int32} {cn : Nat} {key : Int32} {k : Nat} (h : cn < ub ky cn key k + lp k) : ub ky cn key (k + 1) = ub ky cn key k := by
  rw [ub, if_neg (fun q => absurd q.1 (by omega))]
theorem ub_b {ky : Nat → Int32} {cn : Nat} {key : Int32} {k : Nat} (h : key < ky (ub ky cn key k + lp k - 1)) : ub ky cn key (k + 1) = ub ky cn key k := by
  rw [ub, if_neg (fun q => absurd h q.2)]
theorem ub_c {ky : Nat → Int32} {cn : Nat} {key : Int32} {k : Nat} (h : ub ky cn key k + lp k ≤ cn) (h2 : ¬ key < ky (ub ky cn key k + lp k - 1)) : ub ky cn key (k + 1) = ub ky cn key k + lp k := by
  rw [ub, if_pos ⟨h, h2⟩]
theorem nI_m1 {j : Nat} (h : 1 ≤ j) : nI j - 1 = nI (j - 1) := by
  obtain ⟨t, rfl⟩ : ∃ t, j = t + 1 := ⟨j - 1, by omega⟩
  rw [nI_pred, Nat.add_sub_cancel]
theorem ub_nx {t L : Nat} (h : 1 ≤ L) : nI t - 1 + nI L = nI (t + L - 1) := by
  rw [← nI_m1 (by omega : 1 ≤ t + L), ← nI_add]; grind
theorem ub_p1 (t : Nat) : nI t - 1 + 1 = nI t := by grind
/-- keys moved up by one, from the end on: k of them so far -/
def shf (ky : Nat → Int32) (cn k : Nat) : Nat → Int32 := fun j => if cn - k < j ∧ j ≤ cn then ky (j - 1) else ky j
theorem shf_0 (ky : Nat → Int32) (cn : Nat) : shf ky cn 0 = ky := by
  funext j
  unfold shf
  rw [if_neg (by omega)]
theorem shf_s {ky : Nat → Int32} {cn k : Nat} (h : k < cn) : upd (shf ky cn k) (cn - k) (shf ky cn k (cn - k - 1)) = shf ky cn (k + 1) := by
  funext j
  by_cases e : j = cn - k
  · subst e
    rw [pk_us]
    unfold shf
    rw [if_neg (by omega), if_pos (by omega)]
  · rw [pk_un e]
    unfold shf
    by_cases q : cn - k < j ∧ j ≤ cn
    · rw [if_pos q, if_pos (by omega)]
    · rw [if_neg q, if_neg (by omega)]
def insK (ky : Nat → Int32) (t cn : Nat) (key : Int32) : Nat → Int32 := upd (shf ky cn (cn - t)) t key
def kwn (ky : Nat → Int32) (cn : Nat) (key : Int32) : Prop := 1 ≤ ub ky cn key 8 ∧ ky (ub ky cn key 8 - 1) = key
noncomputable def kp (key : Int32) (s : (Nat → Int32) × Nat) : (Nat → Int32) × Nat := @ite _ (kwn s.1 s.2 key) (Classical.propDecidable _) s (insK s.1 (ub s.1 s.2 key 8) s.2 key, s.2 + 1)
theorem kp_t {key : Int32} {s : (Nat → Int32) × Nat} (h : kwn s.1 s.2 key) : kp key s = s := by unfold kp; exact if_pos h
theorem kp_f {key : Int32} {s : (Nat → Int32) × Nat} (h : ¬ kwn s.1 s.2 key) : kp key s = (insK s.1 (ub s.1 s.2 key 8) s.2 key, s.2 + 1) := by unfold kp; exact if_neg h
theorem kp_le (key : Int32) (s : (Nat → Int32) × Nat) : (kp key s).2 ≤ s.2 + 1 := by
  by_cases h : kwn s.1 s.2 key
  · rw [kp_t h]; omega
  · rw [kp_f h]; exact Nat.le_refl _
noncomputable def kpi (K : Nat → Nat → Int32) (x : Nat) (s : (Nat → Int32) × Nat) : Nat → (Nat → Int32) × Nat
  | 0 => s
  | y + 1 => kp (K x y) (kpi K x s y)
noncomputable def kpo (K : Nat → Nat → Int32) (per : Nat) (s : (Nat → Int32) × Nat) : Nat → (Nat → Int32) × Nat
  | 0 => s
  | x + 1 => kpi K x (kpo K per s x) per
theorem kpi_le (K : Nat → Nat → Int32) (x : Nat) (s : (Nat → Int32) × Nat) : ∀ y, (kpi K x s y).2 ≤ s.2 + y
  | 0 => Nat.le_refl _
  | y + 1 => by
    have h1 := kp_le (K x y) (kpi K x s y)
    have h2 := kpi_le K x s y
    rw [kpi]; omega
theorem kpo_le (K : Nat → Nat → Int32) (per : Nat) (s : (Nat → Int32) × Nat) : ∀ x, (kpo K per s x).2 ≤ s.2 + x * per
  | 0 => by rw [Nat.zero_mul]; exact Nat.le_refl _
  | x + 1 => by
    have h1 := kpi_le K x (kpo K per s x) per
    have h2 := kpo_le K per s x
    rw [kpo, Nat.succ_mul]; omega
def btA (na nb : Int32) (mm : Nat) (x y : Int32) : Int32 := nI mm + x * x + y * y - 2 * mxI (abI (na * x + nb * y)) (abI (na * y - nb * x))
def btB (mm : Nat) (x y : Int32) : Int32 := nI mm * (x * x + y * y)
def bsW (na nb : Int32) (mm ci di : Nat) (s : Nat × Nat) : Prop := (btA na nb mm (nI ci) (nI di)).toInt64 * (btB mm (nI s.1) (nI s.2)).toInt64 ≤ (btA na nb mm (nI s.1) (nI s.2)).toInt64 * (btB mm (nI ci) (nI di)).toInt64
noncomputable def bsI (na nb : Int32) (mm ci : Nat) (s : Nat × Nat) : Nat → Nat × Nat
  | 0 => s
  | di + 1 => @ite _ (bsW na nb mm ci di (bsI na nb mm ci s di)) (Classical.propDecidable _) (bsI na nb mm ci s di) (ci, di)
noncomputable def bsO (na nb : Int32) (mm : Nat) : Nat → Nat × Nat
  | 0 => (1, 0)
  | ci + 1 => bsI na nb mm (ci + 1) (bsO na nb mm ci) 9
theorem bsI_t {na nb : Int32} {mm ci di : Nat} {s : Nat × Nat} (h : bsW na nb mm ci di (bsI na nb mm ci s di)) : bsI na nb mm ci s (di + 1) = bsI na nb mm ci s di := by rw [bsI]; exact if_pos h
theorem bsI_f {na nb : Int32} {mm ci di : Nat} {s : Nat × Nat} (h : ¬ bsW na nb mm ci di (bsI na nb mm ci s di)) : bsI na nb mm ci s (di + 1) = (ci, di) := by rw [bsI]; exact if_neg h
theorem kp_bound {i j g m : Nat} (hi : i < g) (hj : j < m / g) : i * (m / g) + j < m := by
  have h1 : (i + 1) * (m / g) ≤ g * (m / g) := Nat.mul_le_mul_right _ hi
  have h2 := Nat.mul_div_le m g
  rw [Nat.succ_mul] at h1
  omega
