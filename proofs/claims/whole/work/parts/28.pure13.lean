/-! the class's dots: pure -/
def ikOK (way : Int32) (g ln : Nat → Int32) (nn : Nat) (nu ik ky : Nat → Int32) (cn : Nat) (na nb : Int32) (mm : Nat) (bf : Nat → Nat → Int32) : Prop :=
  (way = 0 ∧ bf = dtv g ln (P0 nn nu g)) ∨ (way = 1 ∧ bf = dtv g ln (P1 ik)) ∨ (way = 2 ∧ bf = dtv g ln (P2c ky cn na nb mm g))
theorem ikOK_way {way : Int32} {g ln : Nat → Int32} {nn : Nat} {nu ik ky : Nat → Int32} {cn : Nat} {na nb : Int32} {mm : Nat} {bf : Nat → Nat → Int32} (h : ikOK way g ln nn nu ik ky cn na nb mm bf) : ¬ way < 0 ∧ ¬ 2 < way := by
  rcases h with h | h | h <;> rw [h.1] <;> decide
theorem rI_N (bf : Nat → Nat → Int32) (y x0 : Nat) {s0 : Int32} {c0 : Nat} (h : s0 = nI c0) : ∀ i, ∃ c, c ≤ c0 + i ∧ rI bf y x0 s0 i = nI c
  | 0 => ⟨c0, Nat.le_refl _, h⟩
  | i + 1 => by
    obtain ⟨c, hc, e⟩ := rI_N bf y x0 h i
    by_cases q : bf (x0 + i) y = 0
    · rw [← rI_a q]; exact ⟨c, by omega, e⟩
    · rw [← rI_b q, e, nI_1]; exact ⟨c + 1, by omega, rfl⟩
theorem rO_N (bf : Nat → Nat → Int32) (x0 y0 bw : Nat) : ∀ j, ∃ c, c ≤ j * bw ∧ rO bf x0 y0 bw j = nI c
  | 0 => ⟨0, Nat.zero_le _, rfl⟩
  | j + 1 => by
    obtain ⟨c, hc, e⟩ := rO_N bf x0 y0 bw j
    obtain ⟨c2, hc2, e2⟩ := rI_N bf (y0 + j) x0 e bw
    rw [rO]
    exact ⟨c2, by rw [Nat.succ_mul]; omega, e2⟩
theorem rO_nm1 {bf : Nat → Nat → Int32} {x0 y0 bw bh : Nat} (h : bh * bw ≤ 576) : ¬ rO bf x0 y0 bw bh = (-1) := by
  obtain ⟨c, hc, e⟩ := rO_N bf x0 y0 bw bh
  rw [e]
  exact nI_nm1 (by omega)
def dkOK (way : Int32) (Wd Hh : Nat) (g ln : Nat → Int32) (nn : Nat) (nu he be ik : Nat → Int32) (gn : Int32) (ky : Nat → Int32) (cn : Nat) (na nb bk : Int32) (mm : Nat) (he2 be2 ik2 : Nat → Int32) (gn2 : Int32) (bf : Nat → Nat → Int32) : Prop :=
  (¬ way = 1 ∧ he2 = he ∧ be2 = be ∧ ik2 = ik ∧ gn2 = gn ∧ ikOK way g ln nn nu ik ky cn na nb mm bf) ∨
  (way = 1 ∧ he2 = (cgS Wd g ln bk (zr 24 he, be, ik, 0) Hh).1 ∧ be2 = (cgS Wd g ln bk (zr 24 he, be, ik, 0) Hh).2.1 ∧ ik2 = (cgS Wd g ln bk (zr 24 he, be, ik, 0) Hh).2.2.1 ∧ gn2 = sH (cgS Wd g ln bk (zr 24 he, be, ik, 0) Hh).1 (cgS Wd g ln bk (zr 24 he, be, ik, 0) Hh).2.2.2 24 ∧ bf = dtv g ln (P1 ik2))
