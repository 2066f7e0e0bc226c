/-! pure words of tables, nets, boxes -/
theorem rg_lo {j lo : Nat} (h : lo ≤ j) (hj : j < 2 ^ 31) : ¬ nI j < nI lo := nI_nlt h hj
theorem rg_hi {j hi : Nat} (h : j ≤ hi) (hh : hi < 2 ^ 31) : ¬ nI hi < nI j := nI_nlt h hh
theorem md_in {x : Int32} {N : Nat} (h1 : 1 ≤ N) (h2 : N < 2 ^ 31) : (¬ x < 0 ∧ ¬ (nI N - 1) < x) ↔ (¬ x < 0 ∧ ¬ nI N ≤ x) := by
  obtain ⟨M, rfl⟩ : ∃ M, N = M + 1 := ⟨N - 1, by omega⟩
  rw [nI_pred]
  constructor
  · intro ⟨h, h3⟩
    refine ⟨h, fun h4 => ?_⟩
    obtain ⟨j, hj, rfl⟩ := nI_of h
    have := (nI_leI h2 hj).mp h4
    exact h3 ((nI_ltI (by omega) hj).mpr (by omega))
  · intro ⟨h, h3⟩
    refine ⟨h, fun h4 => ?_⟩
    obtain ⟨j, hj, rfl⟩ := nI_of h
    have := (nI_ltI (by omega) hj).mp h4
    exact h3 ((nI_leI h2 hj).mpr (by omega))
theorem md_place {Wd Hh : Nat} {x y : Int32} (hw1 : 1 ≤ Wd) (hw2 : Wd ≤ 24) (hh1 : 1 ≤ Hh) (hh2 : Hh ≤ 24) (h1 : ¬ x < 0 ∧ ¬ (nI Wd - 1) < x) (h2 : ¬ y < 0 ∧ ¬ (nI Hh - 1) < y) : sh_has Wd Hh x y := by
  have q1 := (md_in hw1 (by omega)).mp h1
  have q2 := (md_in hh1 (by omega)).mp h2
  exact ⟨q1.1, q1.2, q2.1, q2.2⟩
abbrev st_has (nn : Nat) (x : Int32) : Prop := ¬ x < 0 ∧ ¬ nI (nn * nn) ≤ x
abbrev st_pair (nn : Nat) (x y : Int32) : Prop := st_has nn x ∧ st_has nn y ∧ ¬ x = y
theorem nn_64 {nn : Nat} (h : nn ≤ 8) : nn * nn ≤ 64 := Nat.mul_le_mul h h
theorem nn_1 {nn : Nat} (h : 1 ≤ nn) : 1 ≤ nn * nn := Nat.mul_le_mul h h
theorem md_nn {nn : Nat} {x : Int32} (h1 : 1 ≤ nn) (h2 : nn ≤ 8) : (¬ x < 0 ∧ ¬ (nI nn * nI nn - 1) < x) ↔ st_has nn x := by
  rw [pk_mul]
  have q1 := nn_1 h1
  have q2 := nn_64 h2
  exact md_in q1 (by omega)
theorem st_has_in {nn j : Nat} (h2 : nn ≤ 8) (hj : j < nn * nn) : st_has nn (nI j) := by
  have q2 := nn_64 h2
  exact ⟨nI_pos (by omega), nI_ge hj (by omega)⟩
theorem st_pair_in {nn j1 j2 : Nat} (h2 : nn ≤ 8) (hj1 : j1 < nn * nn) (hj2 : j2 < nn * nn) (hne : j1 ≠ j2) : st_pair nn (nI j1) (nI j2) := by
  have q2 := nn_64 h2
  exact ⟨st_has_in h2 hj1, st_has_in h2 hj2, fun h => hne ((nI_eq (by omega) (by omega)).mp h)⟩
def sw (f : Nat → Int32) (j1 j2 : Nat) : Nat → Int32 := upd (upd f j1 (f j2)) j2 (f j1)
abbrev nt_ok (x y : Int32) : Prop := (¬ x < (-8) ∧ ¬ 8 < x) ∧ (¬ y < (-8) ∧ ¬ 8 < y) ∧ ¬ (x = 0 ∧ y = 0)
theorem md_spot (jx jy : Nat) : (24 : Int32) * nI jy + nI jx = nI (jy * 24 + jx) := by
  rw [show (24 : Int32) = nI 24 from rfl, pk_mul, nI_add, Nat.mul_comm]
theorem md_spot4 (jx jy i j : Nat) : (24 : Int32) * (nI jy + nI j) + nI jx + nI i = nI ((jy + j) * 24 + (jx + i)) := by
  rw [show (24 : Int32) = nI 24 from rfl, nI_add, pk_mul, nI_add, nI_add, Nat.mul_comm, Nat.add_assoc]
theorem sh_box_in {Wd Hh jx jy bw bh : Nat} (hw2 : Wd ≤ 24) (hh2 : Hh ≤ 24) (b1 : 1 ≤ bw) (b2 : jx + bw ≤ Wd) (b3 : 1 ≤ bh) (b4 : jy + bh ≤ Hh) : sh_box Wd Hh (nI jx) (nI jy) (nI bw) (nI bh) := by
  refine ⟨sh_has_in hw2 hh2 (by omega) (by omega), rg_lo (lo := 1) b1 (by omega), ?_, rg_lo (lo := 1) b3 (by omega), ?_⟩
  · rw [pk_sub (by omega)]; exact nI_nlt (by omega) (by omega)
  · rw [pk_sub (by omega)]; exact nI_nlt (by omega) (by omega)
def idt (k : Nat) (f : Nat → Int32) : Nat → Int32 := fun j => if j < k then nI j else f j
theorem idt_0 (f : Nat → Int32) : idt 0 f = f := by funext j; simp [idt]
theorem idt_s (k : Nat) (f : Nat → Int32) : upd (idt k f) k (nI k) = idt (k + 1) f := by
  funext j
  by_cases h : j = k
  · subst h; rw [pk_us]; simp [idt]
  · rw [pk_un h]
    by_cases h2 : j < k
    · have h3 : j < k + 1 := by omega
      simp [idt, h2, h3]
    · have h3 : ¬ j < k + 1 := by omega
      simp [idt, h2, h3]
def rpv (v v1 : Int32) (i : Nat) : Int32 := if 0 < (if (v + v1 * nI i) < 255 then (v + v1 * nI i) else 255) then (if (v + v1 * nI i) < 255 then (v + v1 * nI i) else 255) else 0
def rpi (f : Nat → Int32) (x y : Nat) (v : Int32) : Nat → Nat → Int32
  | 0 => f
  | j + 1 => upd (rpi f x y v j) ((y + j) * 24 + x) v
def rpo (f : Nat → Int32) (jx jy bh : Nat) (v v1 : Int32) : Nat → Nat → Int32
  | 0 => f
  | i + 1 => rpi (rpo f jx jy bh v v1 i) (jx + i) jy (rpv v v1 i) bh
