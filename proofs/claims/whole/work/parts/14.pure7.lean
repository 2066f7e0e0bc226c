/-! EVENING: the search for the best exchange, pure -/
theorem sw_sw (f : Nat → Int32) {a b : Nat} (h : a ≠ b) : sw (sw f a b) a b = f := by
  funext t
  by_cases h1 : t = a
  · subst h1; rw [sw_a _ h, sw_b]
  · by_cases h2 : t = b
    · subst h2; rw [sw_b, sw_a _ h]
    · rw [sw_n _ h1 h2, sw_n _ h1 h2]
theorem PMok_sw {nn : Nat} {nu : Nat → Int32} {a b : Nat} (hP : PMok nn nu) (ha : a < nn * nn) (hb : b < nn * nn) (hab : a ≠ b) : PMok nn (sw nu a b) := by
  have key : ∀ i, i < nn * nn → ∃ j, j < nn * nn ∧ sw nu a b i = nu j ∧ (i = a → j = b) ∧ (i = b → j = a) ∧ (i ≠ a → i ≠ b → j = i) := by
    intro i hi
    by_cases h1 : i = a
    · subst h1; exact ⟨b, hb, sw_a _ hab, fun _ => rfl, fun q => absurd q hab, fun q => absurd rfl q⟩
    · by_cases h2 : i = b
      · subst h2; exact ⟨a, ha, sw_b _ _ _, fun q => absurd q h1, fun _ => rfl, fun _ q => absurd rfl q⟩
      · exact ⟨i, hi, sw_n _ h1 h2, fun q => absurd q h1, fun q => absurd q h2, fun _ _ => rfl⟩
  refine ⟨fun i hi => ?_, fun i j hi hj he => ?_⟩
  · obtain ⟨k, hk, e, -⟩ := key i hi
    rw [e]; exact hP.1 k hk
  · obtain ⟨k, hk, e, k1, k2, k3⟩ := key i hi
    obtain ⟨k', hk', e', k1', k2', k3'⟩ := key j hj
    have hkk : k = k' := hP.2 k k' hk hk' (by rw [← e, ← e']; exact he)
    subst hkk
    by_cases i1 : i = a
    · have := k1 i1
      by_cases j1 : j = a
      · rw [i1, j1]
      · by_cases j2 : j = b
        · have := k2' j2; omega
        · have := k3' j1 j2; omega
    · by_cases i2 : i = b
      · have := k2 i2
        by_cases j1 : j = a
        · have := k1' j1; omega
        · by_cases j2 : j = b
          · rw [i2, j2]
          · have := k3' j1 j2; omega
      · have := k3 i1 i2
        by_cases j1 : j = a
        · have := k1' j1; omega
        · by_cases j2 : j = b
          · have := k2' j2; omega
          · have := k3' j1 j2; omega
def sbI (w : Nat → Nat → Int64) (p : Nat) (s0 : Int64 × Nat × Nat) : Nat → Int64 × Nat × Nat
  | 0 => s0
  | k + 1 => if (sbI w p s0 k).1 < w p (p + 1 + k) then (w p (p + 1 + k), p, p + 1 + k) else sbI w p s0 k
def sbO (w : Nat → Nat → Int64) (N : Nat) : Nat → Int64 × Nat × Nat
  | 0 => (0, 0, 0)
  | p + 1 => sbI w p (sbO w N p) (N - (p + 1))
theorem sbI_no {w : Nat → Nat → Int64} {p k : Nat} {s0 : Int64 × Nat × Nat} (h : w p (p + 1 + k) ≤ (sbI w p s0 k).1) : sbI w p s0 (k + 1) = sbI w p s0 k := by
  rw [sbI, if_neg (Int64.not_lt.mpr h)]
theorem sbI_yes {w : Nat → Nat → Int64} {p k : Nat} {s0 : Int64 × Nat × Nat} (h : ¬ w p (p + 1 + k) ≤ (sbI w p s0 k).1) : sbI w p s0 (k + 1) = (w p (p + 1 + k), p, p + 1 + k) := by
  rw [sbI, if_pos (Int64.not_le.mp h)]
def sbG (N : Nat) (s : Int64 × Nat × Nat) : Prop := s = (0, 0, 0) ∨ (0 < s.1 ∧ s.2.1 < s.2.2 ∧ s.2.2 < N)
theorem sbG_ge {N : Nat} {s : Int64 × Nat × Nat} (h : sbG N s) : 0 ≤ s.1 := by
  rcases h with h | h
  · rw [h]; exact Int64.le_refl _
  · exact Int64.le_of_lt h.1
theorem sbI_G {w : Nat → Nat → Int64} {N p : Nat} {s0 : Int64 × Nat × Nat} (h : sbG N s0) : ∀ k, p + 1 + k ≤ N → sbG N (sbI w p s0 k)
  | 0, _ => h
  | k + 1, hk => by
    have ih := sbI_G (w := w) (p := p) h k (by omega)
    by_cases c : w p (p + 1 + k) ≤ (sbI w p s0 k).1
    · rw [sbI_no c]; exact ih
    · rw [sbI_yes c]
      refine Or.inr ⟨?_, ?_, ?_⟩
      · have h1 := sbG_ge ih
        have h2 := Int64.not_le.mp c
        rw [Int64.le_iff_toInt_le] at h1
        rw [Int64.lt_iff_toInt_lt] at h2 ⊢
        show _ < (w p (p + 1 + k)).toInt
        omega
      · show p < p + 1 + k; omega
      · show p + 1 + k < N; omega
theorem sbO_G (w : Nat → Nat → Int64) (N : Nat) : ∀ p, p ≤ N → sbG N (sbO w N p)
  | 0, _ => Or.inl rfl
  | p + 1, hp => by
    rw [sbO]
    exact sbI_G (sbO_G w N p (by omega)) _ (by omega)
theorem sbO_z {w : Nat → Nat → Int64} {N : Nat} (h : ¬ 0 < (sbO w N N).1) : sbO w N N = (0, 0, 0) := by
  rcases sbO_G w N N (Nat.le_refl _) with q | q
  · exact q
  · exact absurd q.1 h
theorem sbO_in {w : Nat → Nat → Int64} {N : Nat} (h : 0 < (sbO w N N).1) : (sbO w N N).2.1 < (sbO w N N).2.2 ∧ (sbO w N N).2.2 < N := by
  rcases sbO_G w N N (Nat.le_refl _) with q | q
  · rw [q] at h; exact absurd h (by decide)
  · exact q.2
abbrev bp (nn : Nat) (nu : Nat → Int32) : Int64 × Nat × Nat := sbO (wrt nn nu) (nn * nn) (nn * nn)
def evS (nn : Nat) (nu : Nat → Int32) : Nat → Nat → Int32
  | 0 => nu
  | k + 1 => sw (evS nn nu k) (bp nn (evS nn nu k)).2.1 (bp nn (evS nn nu k)).2.2
theorem evS_PM {nn : Nat} {nu : Nat → Int32} (hP : PMok nn nu) : ∀ k, (∀ i, i < k → 0 < (bp nn (evS nn nu i)).1) → PMok nn (evS nn nu k)
  | 0, _ => hP
  | k + 1, h => by
    have ih := evS_PM hP k (fun i hi => h i (by omega))
    have q := sbO_in (h k (by omega))
    rw [evS]
    exact PMok_sw ih (Nat.lt_trans q.1 q.2) q.2 (Nat.ne_of_lt q.1)
/-- the reference's first place: none while nothing was found -/
def fs1 (s : Int64 × Nat × Nat) : Int32 := if 0 < s.1 then nI s.2.1 else (-1)
def fs2 (s : Int64 × Nat × Nat) : Int32 := if 0 < s.1 then nI s.2.2 else (-1)
theorem fs1_t {s : Int64 × Nat × Nat} (h : 0 < s.1) : fs1 s = nI s.2.1 := if_pos h
theorem fs2_t {s : Int64 × Nat × Nat} (h : 0 < s.1) : fs2 s = nI s.2.2 := if_pos h
theorem fs1_f {s : Int64 × Nat × Nat} (h : ¬ 0 < s.1) : fs1 s = (-1) := if_neg h
theorem sb_pos {w : Nat → Nat → Int64} {N p k : Nat} (hk : p + 1 + k < N) (c : ¬ w p (p + 1 + k) ≤ (sbI w p (sbO w N p) k).1) : 0 < w p (p + 1 + k) := by
  have h1 := sbG_ge (sbI_G (w := w) (N := N) (p := p) (sbO_G w N p (by omega)) k (by omega))
  have h2 := Int64.not_le.mp c
  rw [Int64.le_iff_toInt_le] at h1
  rw [Int64.lt_iff_toInt_lt] at h2 ⊢
  omega
