/-! CARRIED, the class's way: pure -/
abbrev gin (W : Nat) (x : Int32) : Prop := ¬ x < 0 ∧ ¬ nI W ≤ x
def gvF (W : Nat) (x sh : Int32) (f : Nat → Int32) : Nat → Int32 := if gin W x then upd f x.toNatClampNeg (f x.toNatClampNeg + sh) else f
def gvG (W : Nat) (x sh g : Int32) : Int32 := if gin W x then g else g + sh
theorem gin_j {W : Nat} {x : Int32} (h : gin W x) (hW : W ≤ 24) : x = nI x.toNatClampNeg ∧ x.toNatClampNeg < W := by
  obtain ⟨j, hj, rfl⟩ := nI_of h.1
  rw [nI_clamp hj]
  refine ⟨rfl, Nat.lt_of_not_le (fun q => h.2 (nI_le q hj))⟩
theorem gin_24 {W : Nat} {x : Int32} (h : gin W x) (hW : W ≤ 24) : ¬ nI 24 ≤ x := by
  obtain ⟨h1, h2⟩ := gin_j h hW
  rw [h1]; exact nI_ge (by omega) (by decide)
def sA (v : Int32) : Int32 := fdI (7 * v) 16
def sB (v : Int32) : Int32 := fdI (3 * v) 16
def sC (v : Int32) : Int32 := fdI (5 * v) 16
def sD (v : Int32) : Int32 := v - sA v - sB v - sC v
abbrev CS : Type := (Nat → Int32) × (Nat → Int32) × (Nat → Int32) × Int32
def cM (v : Int32) : Int32 := if v < 128 then v else v - 255
def cD (v : Int32) : Int32 := if v < 128 then 0 else 1
theorem cM_t {v : Int32} (h : v < 128) : cM v = v := if_pos h
theorem cM_f {v : Int32} (h : ¬ v < 128) : cM v = v - 255 := if_neg h
theorem cD_t {v : Int32} (h : v < 128) : cD v = 0 := if_pos h
theorem cD_f {v : Int32} (h : ¬ v < 128) : cD v = 1 := if_neg h
def cOn (W : Nat) (v x st : Int32) (s : CS) : CS :=
  (gvF W (x + st) (sA v) s.1, gvF W (x + st) (sD v) (gvF W x (sC v) (gvF W (x - st) (sB v) s.2.1)), s.2.2.1, gvG W (x + st) (sD v) (gvG W x (sC v) (gvG W (x - st) (sB v) (gvG W (x + st) (sA v) s.2.2.2))))
def cPl (W : Nat) (g ln : Nat → Int32) (st : Int32) (jx jy : Nat) (s : CS) : CS :=
  if ln (jy * 24 + jx) = 0 then cOn W (cM (g (jy * 24 + jx) + s.1 jx)) (nI jx) st (s.1, s.2.1, upd s.2.2.1 (jy * 24 + jx) (cD (g (jy * 24 + jx) + s.1 jx)), s.2.2.2)
  else (s.1, s.2.1, s.2.2.1, s.2.2.2 + s.1 jx)
theorem cPl_t {W : Nat} {g ln : Nat → Int32} {st : Int32} {jx jy : Nat} {s : CS} (h : ln (jy * 24 + jx) = 0) : cPl W g ln st jx jy s = cOn W (cM (g (jy * 24 + jx) + s.1 jx)) (nI jx) st (s.1, s.2.1, upd s.2.2.1 (jy * 24 + jx) (cD (g (jy * 24 + jx) + s.1 jx)), s.2.2.2) := if_pos h
theorem cPl_f {W : Nat} {g ln : Nat → Int32} {st : Int32} {jx jy : Nat} {s : CS} (h : ¬ ln (jy * 24 + jx) = 0) : cPl W g ln st jx jy s = (s.1, s.2.1, s.2.2.1, s.2.2.2 + s.1 jx) := if_neg h
def psx (st : Int32) (W i : Nat) : Nat := if st ≤ 0 then W - 1 - i else i
def rwS (W : Nat) (g ln : Nat → Int32) (st : Int32) (jy : Nat) (s : CS) : Nat → CS
  | 0 => s
  | i + 1 => cPl W g ln st (psx st W i) jy (rwS W g ln st jy s i)
theorem rwS_t {W : Nat} {g ln : Nat → Int32} {st : Int32} {jy i : Nat} {s : CS} (h : st ≤ 0) : rwS W g ln st jy s (i + 1) = cPl W g ln st (W - 1 - i) jy (rwS W g ln st jy s i) := by rw [rwS, psx, if_pos h]
theorem rwS_f {W : Nat} {g ln : Nat → Int32} {st : Int32} {jy i : Nat} {s : CS} (h : ¬ st ≤ 0) : rwS W g ln st jy s (i + 1) = cPl W g ln st i jy (rwS W g ln st jy s i) := by rw [rwS, psx, if_neg h]
def cp24 (f g : Nat → Int32) : Nat → Int32 := fun j => if j < 24 then f j else g j
theorem cp24_eq (f g : Nat → Int32) : va_cpy f g (0 : Int32).toNatClampNeg (0 : Int32).toNatClampNeg (24 : Int32).toNatClampNeg = cp24 f g := by
  funext j
  have e0 : (0 : Int32).toNatClampNeg = 0 := by decide
  have e1 : (24 : Int32).toNatClampNeg = 24 := by decide
  rw [e0, e1]
  unfold cp24
  by_cases h : j < 24
  · rw [if_pos h, pk_cpy_in (by omega) (by omega), Nat.sub_zero, Nat.zero_add]
  · rw [if_neg h, pk_cpy_out (by omega)]
def gSt (bk : Int32) (y : Nat) : Int32 := if bk = 0 then 1 else if nI (y % 2) = 1 then (-1) else 1
theorem gSt_a {bk : Int32} {y : Nat} (h : bk = 0) : gSt bk y = 1 := if_pos h
theorem gSt_b {bk : Int32} {y : Nat} (h : ¬ bk = 0) (h2 : ¬ nI (y % 2) = 1) : gSt bk y = 1 := by unfold gSt; rw [if_neg h, if_neg h2]
theorem gSt_c {bk : Int32} {y : Nat} (h : ¬ bk = 0) (h2 : nI (y % 2) = 1) : gSt bk y = (-1) := by unfold gSt; rw [if_neg h, if_pos h2]
def cgR (W : Nat) (g ln : Nat → Int32) (st : Int32) (jy : Nat) (s : CS) : CS := rwS W g ln st jy (s.1, zr 24 s.2.1, s.2.2.1, s.2.2.2) W
def cgS (W : Nat) (g ln : Nat → Int32) (bk : Int32) (s : CS) : Nat → CS
  | 0 => s
  | y + 1 => (cp24 (cgR W g ln (gSt bk y) y (cgS W g ln bk s y)).2.1 (cgR W g ln (gSt bk y) y (cgS W g ln bk s y)).1, (cgR W g ln (gSt bk y) y (cgS W g ln bk s y)).2.1, (cgR W g ln (gSt bk y) y (cgS W g ln bk s y)).2.2.1, (cgR W g ln (gSt bk y) y (cgS W g ln bk s y)).2.2.2)
def sH (f : Nat → Int32) (g0 : Int32) : Nat → Int32
  | 0 => g0
  | x + 1 => sH f g0 x + f x
theorem rem2 {y : Nat} (h : y < 2 ^ 31) : nI y - nI y / 2 * 2 = nI (y % 2) := pk_rem (d := 2) h (by decide) (by decide)
