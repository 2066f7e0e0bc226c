/-! CARRIED, the reference's way: pure -/
def mvF (W Hh : Nat) (x y sh : Int32) (f : Nat → Int32) : Nat → Int32 := if sh_has W Hh x y then upd f (y.toNatClampNeg * 24 + x.toNatClampNeg) (f (y.toNatClampNeg * 24 + x.toNatClampNeg) + sh) else f
def mvG (W Hh : Nat) (x y sh g : Int32) : Int32 := if sh_has W Hh x y then g else g + sh
theorem sh_j {W Hh : Nat} {x y : Int32} (h : sh_has W Hh x y) : x = nI x.toNatClampNeg ∧ y = nI y.toNatClampNeg ∧ (W < 2 ^ 31 → x.toNatClampNeg < W) ∧ (Hh < 2 ^ 31 → y.toNatClampNeg < Hh) := by
  obtain ⟨j, hj, rfl⟩ := nI_of h.1
  obtain ⟨i, hi, rfl⟩ := nI_of h.2.2.1
  rw [nI_clamp hj, nI_clamp hi]
  exact ⟨rfl, rfl, fun _ => Nat.lt_of_not_le (fun q => h.2.1 (nI_le q hj)), fun _ => Nat.lt_of_not_le (fun q => h.2.2.2 (nI_le q hi))⟩
theorem sh_ix {W Hh : Nat} {x y : Int32} (h : sh_has W Hh x y) : (24 : Int32) * y + x = nI (y.toNatClampNeg * 24 + x.toNatClampNeg) := by
  obtain ⟨h1, h2, -, -⟩ := sh_j h
  rw [← md_spot, ← h1, ← h2]
theorem sh_ilt {W Hh : Nat} {x y : Int32} (h : sh_has W Hh x y) (hW : W ≤ 24) (hH : Hh ≤ 24) : y.toNatClampNeg * 24 + x.toNatClampNeg < 576 := by
  obtain ⟨-, -, h3, h4⟩ := sh_j h
  have := h3 (by omega)
  have := h4 (by omega)
  omega
abbrev MS : Type := (Nat → Int32) × (Nat → Int32) × Int32
def mOn (W Hh : Nat) (v x st y y1 : Int32) (s : MS) : MS :=
  (mvF W Hh (x + st) y1 (sD v) (mvF W Hh x y1 (sC v) (mvF W Hh (x - st) y1 (sB v) (mvF W Hh (x + st) y (sA v) s.1))), s.2.1, mvG W Hh (x + st) y1 (sD v) (mvG W Hh x y1 (sC v) (mvG W Hh (x - st) y1 (sB v) (mvG W Hh (x + st) y (sA v) s.2.2))))
def mPl (W Hh : Nat) (g ln : Nat → Int32) (st : Int32) (jx jy : Nat) (s : MS) : MS :=
  if ln (jy * 24 + jx) = 0 then mOn W Hh (cM (g (jy * 24 + jx) + s.1 (jy * 24 + jx))) (nI jx) st (nI jy) (nI (jy + 1)) (s.1, upd s.2.1 (jy * 24 + jx) (cD (g (jy * 24 + jx) + s.1 (jy * 24 + jx))), s.2.2)
  else (s.1, upd s.2.1 (jy * 24 + jx) (cD (g (jy * 24 + jx))), s.2.2 + s.1 (jy * 24 + jx))
theorem mPl_t {W Hh : Nat} {g ln : Nat → Int32} {st : Int32} {jx jy : Nat} {s : MS} (h : ln (jy * 24 + jx) = 0) : mPl W Hh g ln st jx jy s = mOn W Hh (cM (g (jy * 24 + jx) + s.1 (jy * 24 + jx))) (nI jx) st (nI jy) (nI (jy + 1)) (s.1, upd s.2.1 (jy * 24 + jx) (cD (g (jy * 24 + jx) + s.1 (jy * 24 + jx))), s.2.2) := if_pos h
theorem mPl_f {W Hh : Nat} {g ln : Nat → Int32} {st : Int32} {jx jy : Nat} {s : MS} (h : ¬ ln (jy * 24 + jx) = 0) : mPl W Hh g ln st jx jy s = (s.1, upd s.2.1 (jy * 24 + jx) (cD (g (jy * 24 + jx))), s.2.2 + s.1 (jy * 24 + jx)) := if_neg h
def mrS (W Hh : Nat) (g ln : Nat → Int32) (st : Int32) (jy : Nat) (s : MS) : Nat → MS
  | 0 => s
  | i + 1 => mPl W Hh g ln st (psx st W i) jy (mrS W Hh g ln st jy s i)
theorem mrS_1 {W Hh : Nat} {g ln : Nat → Int32} {jy i : Nat} {s : MS} : mrS W Hh g ln 1 jy s (i + 1) = mPl W Hh g ln 1 i jy (mrS W Hh g ln 1 jy s i) := by rw [mrS, psx, if_neg (by decide)]
theorem mrS_m {W Hh : Nat} {g ln : Nat → Int32} {jy i : Nat} {s : MS} : mrS W Hh g ln (-1) jy s (i + 1) = mPl W Hh g ln (-1) (W - 1 - i) jy (mrS W Hh g ln (-1) jy s i) := by rw [mrS, psx, if_pos (by decide)]
def msS (W Hh : Nat) (g ln : Nat → Int32) (bk : Int32) (s : MS) : Nat → MS
  | 0 => s
  | y + 1 => mrS W Hh g ln (gSt bk y) y (msS W Hh g ln bk s y) W
