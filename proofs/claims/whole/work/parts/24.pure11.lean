/-! ranks and beats, the reference's way: pure -/
theorem xor_nn {x y : Int32} (hy : 0 ≤ y.toInt) : 0 ≤ x ^^^ y ↔ 0 ≤ x.toInt := by
  rw [Jvm.Kit.i32_nonneg]
  have e : (x ^^^ y).toBitVec = x.toBitVec ^^^ y.toBitVec := Int32.toBitVec_xor x y
  have h : (x.toBitVec ^^^ y.toBitVec).msb = (x.toBitVec.msb ^^ y.toBitVec.msb) := BitVec.msb_xor
  rw [← e, BitVec.msb_eq_toInt, BitVec.msb_eq_toInt, BitVec.msb_eq_toInt] at h
  have hy' : ¬ y.toBitVec.toInt < 0 := Int.not_lt.mpr hy
  have h2 : decide (y.toBitVec.toInt < 0) = false := decide_eq_false hy'
  rw [h2, Bool.xor_false] at h
  have h3 : ((x ^^^ y).toBitVec.toInt < 0) ↔ (x.toBitVec.toInt < 0) := by
    constructor
    · intro q; exact of_decide_eq_true (by rw [← h]; exact decide_eq_true q)
    · intro q; exact of_decide_eq_true (by rw [h]; exact decide_eq_true q)
  show 0 ≤ (x ^^^ y).toBitVec.toInt ↔ 0 ≤ x.toBitVec.toInt
  omega
theorem fmI_toInt {x : Int32} {m : Nat} (h1 : 1 ≤ m) (h2 : m < 2 ^ 31) : (fmI x (nI m)).toInt = x.toInt % (m : Int) := by
  have hm : (nI m).toInt = (m : Int) := nI_toInt h2
  have hr : (x - x / nI m * nI m).toInt = x.toInt.tmod (m : Int) := by rw [rem_toInt, hm]
  have e0 := Int.emod_nonneg x.toInt (show (m : Int) ≠ 0 by omega)
  have e1 := Int.emod_lt_of_pos x.toInt (show (0 : Int) < m by omega)
  unfold fmI
  rw [Int.tmod_eq_emod] at hr
  generalize hR : x - x / nI m * nI m = r at *
  by_cases hx : 0 ≤ x.toInt
  · rw [if_pos ((xor_nn (by rw [hm]; omega)).mpr hx), hr, if_pos (Or.inl hx)]; omega
  · rw [if_neg (fun q => hx ((xor_nn (by rw [hm]; omega)).mp q))]
    by_cases hd : (m : Int) ∣ x.toInt
    · have hz := Int.emod_eq_zero_of_dvd hd
      rw [if_pos (Or.inr hd)] at hr
      have r0 : r = 0 := i32_eq (by rw [hr, hz]; rfl)
      rw [if_pos r0, r0, hz]; rfl
    · rw [if_neg (fun q => q.elim hx hd)] at hr
      have hnz : x.toInt % (m : Int) ≠ 0 := fun q => hd (Int.dvd_of_emod_eq_zero q)
      have hna : ((m : Int).natAbs : Int) = m := by omega
      have r0 : ¬ r = 0 := by
        intro q
        rw [q] at hr
        have : (0 : Int32).toInt = 0 := rfl
        omega
      rw [if_neg r0, Jvm.Kit.i32_add (by omega) (by omega), hm, hr]
      omega
theorem fmI_N {x : Int32} {m : Nat} (h1 : 1 ≤ m) (h2 : m < 2 ^ 31) : fmI x (nI m) = nI (x.toInt % (m : Int)).toNat := by
  have e0 := Int.emod_nonneg x.toInt (show (m : Int) ≠ 0 by omega)
  have e1 := Int.emod_lt_of_pos x.toInt (show (0 : Int) < m by omega)
  apply i32_eq
  rw [fmI_toInt h1 h2, nI_toInt (by omega)]
  omega
def kUn (na nb : Int32) (mm : Nat) (x y : Int32) : Nat := ((na * x + nb * y).toInt % (mm : Int)).toNat
def kVn (na nb : Int32) (mm : Nat) (x y : Int32) : Nat := ((na * y - nb * x).toInt % (mm : Int)).toNat
theorem kU_N {na nb : Int32} {mm : Nat} {x y : Int32} (h1 : 1 ≤ mm) (h2 : mm ≤ 128) : kU na nb mm x y = nI (kUn na nb mm x y) := fmI_N h1 (by omega)
theorem kV_N {na nb : Int32} {mm : Nat} {x y : Int32} (h1 : 1 ≤ mm) (h2 : mm ≤ 128) : kV na nb mm x y = nI (kVn na nb mm x y) := fmI_N h1 (by omega)
theorem kUn_lt {na nb : Int32} {mm : Nat} {x y : Int32} (h1 : 1 ≤ mm) : kUn na nb mm x y < mm := by
  unfold kUn
  generalize (na * x + nb * y).toInt = z
  have e0 := Int.emod_nonneg z (show (mm : Int) ≠ 0 by omega)
  have e1 := Int.emod_lt_of_pos z (show (0 : Int) < mm by omega)
  omega
theorem kVn_lt {na nb : Int32} {mm : Nat} {x y : Int32} (h1 : 1 ≤ mm) : kVn na nb mm x y < mm := by
  unfold kVn
  generalize (na * y - nb * x).toInt = z
  have e0 := Int.emod_nonneg z (show (mm : Int) ≠ 0 by omega)
  have e1 := Int.emod_lt_of_pos z (show (0 : Int) < mm by omega)
  omega
def pN (na nb : Int32) (mm : Nat) (x y : Int32) : Nat := mm * kUn na nb mm x y + kVn na nb mm x y
theorem pN_lt {na nb : Int32} {mm : Nat} {x y : Int32} (h1 : 1 ≤ mm) : pN na nb mm x y < mm * mm := by
  have a1 := kUn_lt (na := na) (nb := nb) (x := x) (y := y) h1
  have a2 := kVn_lt (na := na) (nb := nb) (x := x) (y := y) h1
  have a3 : mm * (kUn na nb mm x y + 1) ≤ mm * mm := Nat.mul_le_mul_left _ a1
  rw [Nat.mul_succ] at a3
  unfold pN
  omega
theorem mm_sq {mm : Nat} (h : mm ≤ 128) : mm * mm ≤ 16384 := Nat.mul_le_mul h h
def frI (mm k : Nat) : Int32 := (2 * nI (k / mm) + 1 - nI mm) * (2 * nI (k / mm) + 1 - nI mm) + (2 * nI (k % mm) + 1 - nI mm) * (2 * nI (k % mm) + 1 - nI mm)
def tsI (na nb : Int32) (mm i : Nat) (f : Nat → Int32) : Nat → Nat → Int32
  | 0 => f
  | j + 1 => upd (tsI na nb mm i f j) (pN na nb mm (nI i) (nI j)) 1
def tsO (na nb : Int32) (mm : Nat) (f : Nat → Int32) : Nat → Nat → Int32
  | 0 => f
  | i + 1 => tsI na nb mm i (tsO na nb mm f i) mm
abbrev thF (na nb : Int32) (mm : Nat) (f : Nat → Int32) : Nat → Int32 := tsO na nb mm (zr (mm * mm) f) mm
def ahd (mm : Nat) (t : Nat → Int32) (k j : Nat) : Prop := ¬ t j = 0 ∧ (frI mm j < frI mm k ∨ (frI mm j = frI mm k ∧ j < k))
noncomputable def ahI (mm : Nat) (t : Nat → Int32) (k : Nat) : Nat → Int32
  | 0 => 0
  | j + 1 => @ite _ (ahd mm t k j) (Classical.propDecidable _) (ahI mm t k j + 1) (ahI mm t k j)
theorem ahI_t {mm : Nat} {t : Nat → Int32} {k j : Nat} (h : ahd mm t k j) : ahI mm t k j + 1 = ahI mm t k (j + 1) := by rw [ahI]; exact (if_pos h).symm
theorem ahI_f {mm : Nat} {t : Nat → Int32} {k j : Nat} (h : ¬ ahd mm t k j) : ahI mm t k j = ahI mm t k (j + 1) := by rw [ahI]; exact (if_neg h).symm
noncomputable def rnO (mm : Nat) (t f : Nat → Int32) : Nat → Nat → Int32
  | 0 => f
  | k + 1 => if t k = 0 then rnO mm t f k else upd (rnO mm t f k) k (ahI mm t k (mm * mm))
theorem rnO_a {mm : Nat} {t f : Nat → Int32} {k : Nat} (h : t k = 0) : rnO mm t f k = rnO mm t f (k + 1) := by rw [rnO, if_pos h]
theorem rnO_b {mm : Nat} {t f : Nat → Int32} {k : Nat} (h : ¬ t k = 0) : upd (rnO mm t f k) k (ahI mm t k (mm * mm)) = rnO mm t f (k + 1) := by rw [rnO, if_neg h]
theorem cL_a {f : Nat → Int32} {k : Nat} (h : f k = 0) : cL f k + 0 = cL f (k + 1) := by rw [cL, if_pos h, Int32.add_zero]
theorem cL_b {f : Nat → Int32} {k : Nat} (h : ¬ f k = 0) : cL f k + 1 = cL f (k + 1) := by rw [cL, if_neg h]
/-- the reference's beats: (p, q) turned, the squares, the least so far -/
def bpq (x y : Int64) : Nat → Int64 × Int64
  | 0 => (x, y)
  | k + 1 => (-(bpq x y k).2, (bpq x y k).1)
def bsq (na nb x y : Int32) (mm kk k : Nat) : Int64 := (na.toInt64 * lN kk - (bpq x.toInt64 y.toInt64 k).1 * lN mm) * (na.toInt64 * lN kk - (bpq x.toInt64 y.toInt64 k).1 * lN mm) + (nb.toInt64 * lN kk - (bpq x.toInt64 y.toInt64 k).2 * lN mm) * (nb.toInt64 * lN kk - (bpq x.toInt64 y.toInt64 k).2 * lN mm)
def bTp (na nb x y : Int32) (mm kk : Nat) (b0 : Int64) : Nat → Int64
  | 0 => b0
  | k + 1 => if k = 0 then bsq na nb x y mm kk k else if bTp na nb x y mm kk b0 k ≤ bsq na nb x y mm kk k then bTp na nb x y mm kk b0 k else bsq na nb x y mm kk k
theorem bTp_a {na nb x y : Int32} {mm kk : Nat} {b0 : Int64} {k : Nat} (h : k = 0) : bsq na nb x y mm kk k = bTp na nb x y mm kk b0 (k + 1) := by rw [bTp, if_pos h]
theorem bTp_b {na nb x y : Int32} {mm kk : Nat} {b0 : Int64} {k : Nat} (h : ¬ k = 0) (h2 : bTp na nb x y mm kk b0 k ≤ bsq na nb x y mm kk k) : bTp na nb x y mm kk b0 k = bTp na nb x y mm kk b0 (k + 1) := by rw [bTp, if_neg h, if_pos h2]
theorem bTp_c {na nb x y : Int32} {mm kk : Nat} {b0 : Int64} {k : Nat} (h : ¬ k = 0) (h2 : ¬ bTp na nb x y mm kk b0 k ≤ bsq na nb x y mm kk k) : bsq na nb x y mm kk k = bTp na nb x y mm kk b0 (k + 1) := by rw [bTp, if_neg h, if_neg h2]
theorem eu_stop2 (x y : Nat) : ∃ N, (∀ k, k < N → 0 < (eu x y k).2) ∧ (eu x y N).2 = 0 := by
  have h1 : ∃ k, (eu x y k).2 = 0 := by
    refine Classical.byContradiction (fun hn => ?_)
    have hp : ∀ k, 0 < (eu x y k).2 := fun k => Nat.pos_of_ne_zero (fun q => hn ⟨k, q⟩)
    have hj : ∀ j, (eu x y j).2 + j ≤ y := by
      intro j
      induction j with
      | zero => exact Nat.le_refl _
      | succ j ih =>
        have q : (eu x y (j + 1)).2 < (eu x y j).2 := Nat.mod_lt _ (hp j)
        omega
    have := hj (y + 1)
    omega
  obtain ⟨k, hk, hmin⟩ := pk_least (fun k => (eu x y k).2 = 0) h1
  exact ⟨k, fun j hj => Nat.pos_of_ne_zero (hmin j hj), hk⟩
