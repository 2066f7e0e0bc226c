/-! pure words of the Sheet -/
abbrev sh_has (W Hh : Nat) (x y : Int32) : Prop := ¬ x < 0 ∧ ¬ nI W ≤ x ∧ ¬ y < 0 ∧ ¬ nI Hh ≤ y
abbrev sh_box (W Hh : Nat) (x y w h : Int32) : Prop := sh_has W Hh x y ∧ ¬ w < 1 ∧ ¬ (nI W - x) < w ∧ ¬ h < 1 ∧ ¬ (nI Hh - y) < h
theorem sh_has_in {W Hh jx jy : Nat} (hW : W ≤ 24) (hH : Hh ≤ 24) (hx0 : jx < W) (hy0 : jy < Hh) : sh_has W Hh (nI jx) (nI jy) :=
  ⟨nI_pos (by omega), nI_ge hx0 (by omega), nI_pos (by omega), nI_ge hy0 (by omega)⟩
theorem sh_spot (jx jy : Nat) : nI jy * 24 + nI jx = nI (jy * 24 + jx) := by
  rw [show (24 : Int32) = nI 24 from rfl, pk_mul, nI_add]
def zr (k : Nat) (f : Nat → Int32) : Nat → Int32 := fun j => if j < k then 0 else f j
theorem zr_0 (f : Nat → Int32) : zr 0 f = f := by funext j; simp [zr]
theorem zr_s (k : Nat) (f : Nat → Int32) : upd (zr k f) k 0 = zr (k + 1) f := by
  funext j
  by_cases h : j = k
  · subst h; rw [pk_us]; simp [zr]
  · rw [pk_un h]
    by_cases h2 : j < k
    · have h3 : j < k + 1 := by omega
      simp [zr, h2, h3]
    · have h3 : ¬ j < k + 1 := by omega
      simp [zr, h2, h3]
def cL (f : Nat → Int32) : Nat → Int32
  | 0 => 0
  | k + 1 => if f k = 0 then cL f k else cL f k + 1
def sG (g ln : Nat → Int32) : Nat → Int32
  | 0 => 0
  | k + 1 => if ln k = 0 then sG g ln k + g k else sG g ln k
