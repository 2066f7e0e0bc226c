/-! DOTS of a place by each way, and sums of them: pure -/
theorem fmI_nat {a m : Nat} (ha : a < 2 ^ 31) (h1 : 1 ≤ m) (h2 : m < 2 ^ 31) : fmI (nI a) (nI m) = nI (a % m) := by
  rw [fmI_N h1 h2, nI_toInt ha, ← Int.natCast_emod, Int.toNat_natCast]
theorem n01 {x : Int32} (h : x = 0 ∨ x = 1) : narrow .boolean (.int x) = .int x := by
  rcases h with h | h <;> rw [h] <;> rfl
theorem cD_01 (v : Int32) : cD v = 0 ∨ cD v = 1 := by
  unfold cD; split
  · exact Or.inl rfl
  · exact Or.inr rfl
theorem bI_01 (P : Prop) : bI P = 0 ∨ bI P = 1 := by
  by_cases h : P
  · exact Or.inr (bI_t h)
  · exact Or.inl (bI_f h)
/-- a place's dot: of a LINE by its grey, of another by P -/
noncomputable def dtv (g ln : Nat → Int32) (P : Nat → Nat → Prop) (x y : Nat) : Int32 := if ln (y * 24 + x) = 0 then bI (P x y) else cD (g (y * 24 + x))
theorem dtv_n {g ln : Nat → Int32} {P : Nat → Nat → Prop} {x y : Nat} (h : ln (y * 24 + x) = 0) : bI (P x y) = dtv g ln P x y := by rw [dtv, if_pos h]
theorem dtv_l {g ln : Nat → Int32} {P : Nat → Nat → Prop} {x y : Nat} (h : ¬ ln (y * 24 + x) = 0) : dtv g ln P x y = cD (g (y * 24 + x)) := by rw [dtv, if_neg h]
theorem dtv_01 (g ln : Nat → Int32) (P : Nat → Nat → Prop) (x y : Nat) : dtv g ln P x y = 0 ∨ dtv g ln P x y = 1 := by
  unfold dtv; split
  · exact bI_01 _
  · exact cD_01 _
def P0 (nn : Nat) (nu g : Nat → Int32) (x y : Nat) : Prop := ¬ nI (nn * nn) * g (y * 24 + x) ≤ 255 * nu (y % nn * nn + x % nn)
def P1 (ik : Nat → Int32) (x y : Nat) : Prop := ¬ ik (y * 24 + x) = 0
def P2c (ky : Nat → Int32) (cn : Nat) (na nb : Int32) (mm : Nat) (g : Nat → Int32) (x y : Nat) : Prop := ¬ nI cn * g (y * 24 + x) ≤ 255 * (nI (ub ky cn (kyA na nb mm (nI x) (nI y)) 8) - 1)
def P2m (pr : Int32) (rn : Nat → Int32) (na nb : Int32) (mm : Nat) (g : Nat → Int32) (x y : Nat) : Prop := ¬ pr * g (y * 24 + x) ≤ 255 * rn (pN na nb mm (nI x) (nI y))
def rI (bf : Nat → Nat → Int32) (y x0 : Nat) (s0 : Int32) : Nat → Int32
  | 0 => s0
  | i + 1 => if bf (x0 + i) y = 0 then rI bf y x0 s0 i else rI bf y x0 s0 i + 1
def rO (bf : Nat → Nat → Int32) (x0 y0 bw : Nat) : Nat → Int32
  | 0 => 0
  | j + 1 => rI bf (y0 + j) x0 (rO bf x0 y0 bw j) bw
theorem rI_a {bf : Nat → Nat → Int32} {y x0 i : Nat} {s0 : Int32} (h : bf (x0 + i) y = 0) : rI bf y x0 s0 i = rI bf y x0 s0 (i + 1) := by rw [rI, if_pos h]
theorem rI_b {bf : Nat → Nat → Int32} {y x0 i : Nat} {s0 : Int32} (h : ¬ bf (x0 + i) y = 0) : rI bf y x0 s0 i + 1 = rI bf y x0 s0 (i + 1) := by rw [rI, if_neg h]
/-- the reference's dots, laid place by place -/
def dkI (bf : Nat → Nat → Int32) (y : Nat) (f : Nat → Int32) : Nat → Nat → Int32
  | 0 => f
  | x + 1 => upd (dkI bf y f x) (y * 24 + x) (bf x y)
def dkO (bf : Nat → Nat → Int32) (W : Nat) (f : Nat → Int32) : Nat → Nat → Int32
  | 0 => f
  | y + 1 => dkI bf y (dkO bf W f y) W
theorem dkI_s {bf : Nat → Nat → Int32} {y x : Nat} {f : Nat → Int32} {v : Int32} (h : bf x y = v) : upd (dkI bf y f x) (y * 24 + x) v = dkI bf y f (x + 1) := by rw [dkI, h]
def dsI (dt : Nat → Int32) (jx jy i : Nat) (s0 : Int32) : Nat → Int32
  | 0 => s0
  | j + 1 => if dt ((jy + j) * 24 + (jx + i)) = 0 then dsI dt jx jy i s0 j + 0 else dsI dt jx jy i s0 j + 1
def dsO (dt : Nat → Int32) (jx jy bh : Nat) : Nat → Int32
  | 0 => 0
  | i + 1 => dsI dt jx jy i (dsO dt jx jy bh i) bh
theorem dsI_a {dt : Nat → Int32} {jx jy i j : Nat} {s0 : Int32} (h : dt ((jy + j) * 24 + (jx + i)) = 0) : dsI dt jx jy i s0 j + 0 = dsI dt jx jy i s0 (j + 1) := by rw [dsI, if_pos h]
theorem dsI_b {dt : Nat → Int32} {jx jy i j : Nat} {s0 : Int32} (h : ¬ dt ((jy + j) * 24 + (jx + i)) = 0) : dsI dt jx jy i s0 j + 1 = dsI dt jx jy i s0 (j + 1) := by rw [dsI, if_neg h]
theorem md_tab {nn x y : Nat} (h1 : 1 ≤ nn) (h2 : nn ≤ 8) : nI nn * nI (y % nn) + nI (x % nn) = nI (y % nn * nn + x % nn) := by
  rw [pk_mul, nI_add, Nat.mul_comm]
theorem tab_lt {nn x y : Nat} (h1 : 1 ≤ nn) : y % nn * nn + x % nn < nn * nn := ij_lt (Nat.mod_lt _ h1) (Nat.mod_lt _ h1)
/-- what the reference's make does, by way -/
def mkOK (way : Int32) (Wd Hh nn mm : Nat) (na nb bk : Int32) (g nu ln ca dt tr rn : Nat → Int32) (rk pr lo : Int32) (ca2 dt2 tr2 rn2 : Nat → Int32) (rk2 pr2 lo2 : Int32) : Prop :=
  (way = 0 ∧ ca2 = ca ∧ tr2 = tr ∧ rn2 = rn ∧ rk2 = rk ∧ pr2 = pr ∧ lo2 = lo ∧ dt2 = dkO (dtv g ln (P0 nn nu g)) Wd dt Hh) ∨
  (way = 1 ∧ tr2 = tr ∧ rn2 = rn ∧ rk2 = rk ∧ pr2 = pr ∧ ca2 = (msS Wd Hh g ln bk (zr 576 ca, dt, 0) Hh).1 ∧ dt2 = (msS Wd Hh g ln bk (zr 576 ca, dt, 0) Hh).2.1 ∧ lo2 = (msS Wd Hh g ln bk (zr 576 ca, dt, 0) Hh).2.2) ∨
  (way = 2 ∧ rk = 20 * na + nb + 1000 ∧ ca2 = ca ∧ lo2 = lo ∧ tr2 = tr ∧ rn2 = rn ∧ rk2 = rk ∧ pr2 = pr ∧ dt2 = dkO (dtv g ln (P2m pr rn na nb mm g)) Wd dt Hh) ∨
  (way = 2 ∧ ¬ rk = 20 * na + nb + 1000 ∧ ca2 = ca ∧ lo2 = lo ∧ tr2 = thF na nb mm tr ∧ rn2 = rnO mm (thF na nb mm tr) rn (mm * mm) ∧ rk2 = 20 * na + nb + 1000 ∧ pr2 = cL (thF na nb mm tr) (mm * mm) ∧ dt2 = dkO (dtv g ln (P2m pr2 rn2 na nb mm g)) Wd dt Hh)
def wayOK (way : Int32) : Prop := way = 0 ∨ way = 1 ∨ way = 2
theorem mkOK_way {way : Int32} {Wd Hh nn mm : Nat} {na nb bk : Int32} {g nu ln ca dt tr rn : Nat → Int32} {rk pr lo : Int32} {ca2 dt2 tr2 rn2 : Nat → Int32} {rk2 pr2 lo2 : Int32} (h : mkOK way Wd Hh nn mm na nb bk g nu ln ca dt tr rn rk pr lo ca2 dt2 tr2 rn2 rk2 pr2 lo2) : ¬ way < 0 ∧ ¬ 2 < way := by
  rcases h with h | h | h | h <;> rw [h.1] <;> decide
