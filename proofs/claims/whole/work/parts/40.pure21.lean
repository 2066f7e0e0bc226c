/-! BEST: the class's search and the reference's go together -/
theorem nt_ok_N {c d : Nat} (hc : c ≤ 8) (hd : d ≤ 8) (h : 1 ≤ c) : nt_ok (nI c) (nI d) := by
  have e8 : ∀ j, j ≤ 8 → ¬ nI j < (-8) ∧ ¬ 8 < nI j := by
    intro j hj
    refine ⟨?_, rg_hi (hi := 8) hj (by decide)⟩
    rw [Int32.lt_iff_toInt_lt, nI_toInt (by omega)]
    have e1 : ((-8 : Int32)).toInt = -8 := by decide
    rw [e1]; omega
  exact ⟨e8 c hc, e8 d hd, fun q => nI_ne0 h (by omega) q.1⟩
theorem sq_N (c d : Nat) : nI c * nI c + nI d * nI d = nI (c * c + d * d) := by rw [pk_mul, pk_mul, nI_add]
theorem beat_N {na nb : Int32} {mm c d : Nat} (h1 : nt_ok na nb) (hmq : na * na + nb * nb = nI mm) (hM : (mm : Int) = na.toInt * na.toInt + nb.toInt * nb.toInt) (hm1 : 1 ≤ mm) (hm2 : mm ≤ 128) (hc1 : 1 ≤ c) (hc : c ≤ 8) (hd : d ≤ 8) :
    ∃ ab : Nat, btA na nb mm (nI c) (nI d) = nI ab ∧ btB mm (nI c) (nI d) = nI (mm * (c * c + d * d)) ∧ ab ≤ 512 ∧ ∀ b0, bTp na nb (nI c) (nI d) mm (c * c + d * d) b0 4 = lN (mm * (c * c + d * d) * ab) := by
  have hs := sq_le hc hd
  have h11 : 1 ≤ c * c := Nat.mul_le_mul hc1 hc1
  refine beat_key h1 (nt_ok_N hc hd hc1) hmq (sq_N c d) hM ?_ hm1 hm2 (by omega) hs
  rw [nI_toInt (by omega), nI_toInt (by omega), Int.natCast_add, Int.natCast_mul, Int.natCast_mul]
def bestI (na nb : Int32) (mm : Nat) (s : BS) (b : Nat × Nat) : Prop := 1 ≤ b.1 ∧ b.1 ≤ 8 ∧ b.2 ≤ 8 ∧ s.1 = 10 * nI b.1 + nI b.2 ∧ (∀ z, s.2.1 = bTp na nb (nI b.1) (nI b.2) mm (b.1 * b.1 + b.2 * b.2) z 4) ∧ s.2.2.1 = msW mm b.1 b.2
theorem cmp_bl {p q x y : Nat} (hp : 1 ≤ p) (hq : 1 ≤ q) : p * x * (q * q) < q * y * (p * p) ↔ x * q < y * p := by
  have e1 : p * x * (q * q) = (p * q) * (x * q) := by grind
  have e2 : q * y * (p * p) = (p * q) * (y * p) := by grind
  rw [e1, e2]
  exact Nat.mul_lt_mul_left (Nat.mul_pos hp hq)
theorem best_step {na nb : Int32} {mm c d : Nat} {s : BS} {b : Nat × Nat} (h1 : nt_ok na nb) (hmq : na * na + nb * nb = nI mm) (hM : (mm : Int) = na.toInt * na.toInt + nb.toInt * nb.toInt) (hm1 : 1 ≤ mm) (hm2 : mm ≤ 128) (hc1 : 1 ≤ c) (hc : c ≤ 8) (hd : d ≤ 8) (hb : bestI na nb mm s b) :
    (bsW na nb mm c d b → bestI na nb mm (mstep na nb mm c d s) b) ∧ (¬ bsW na nb mm c d b → bestI na nb mm (mstep na nb mm c d s) (c, d)) := by
  obtain ⟨b1, b2, b3, b4, b5, b6⟩ := hb
  obtain ⟨ac, a1, a2, a3, a4⟩ := beat_N (c := c) (d := d) h1 hmq hM hm1 hm2 hc1 hc hd
  obtain ⟨ab, e1, e2, e3, e4⟩ := beat_N (c := b.1) (d := b.2) h1 hmq hM hm1 hm2 b1 b2 b3
  have k1 := sq_le hc hd
  have k2 := sq_le b2 b3
  have l1 : 1 ≤ c * c := Nat.mul_le_mul hc1 hc1
  have l2 : 1 ≤ b.1 * b.1 := Nat.mul_le_mul b1 b1
  have p1 : mm * (c * c + d * d) ≤ 128 * 128 := Nat.mul_le_mul hm2 k1
  have p2 : mm * (b.1 * b.1 + b.2 * b.2) ≤ 128 * 128 := Nat.mul_le_mul hm2 k2
  have p3 : 1 ≤ mm * (c * c + d * d) := Nat.mul_pos hm1 (by omega)
  have p4 : 1 ≤ mm * (b.1 * b.1 + b.2 * b.2) := Nat.mul_pos hm1 (by omega)
  have ne : ¬ s.1 = (-1) := by
    rw [b4, show (10 : Int32) = nI 10 from rfl, pk_mul, nI_add]; exact nI_nm1 (by omega)
  have tv : msT na nb mm c d s = lN (mm * (c * c + d * d) * ac) := a4 _
  have wv : msW mm c d = lN (mm * (c * c + d * d) * (mm * (c * c + d * d))) := mul4 _ _
  have sv : s.2.1 = lN (mm * (b.1 * b.1 + b.2 * b.2) * ab) := (b5 0).trans (e4 0)
  have uv : s.2.2.1 = lN (mm * (b.1 * b.1 + b.2 * b.2) * (mm * (b.1 * b.1 + b.2 * b.2))) := b6.trans (mul4 _ _)
  have hw : bsW na nb mm c d b ↔ ac * (mm * (b.1 * b.1 + b.2 * b.2)) ≤ ab * (mm * (c * c + d * d)) := by
    unfold bsW
    rw [a1, a2, e1, e2, nI_l (by omega), nI_l (by omega), nI_l (by omega), nI_l (by omega), lN_mul, lN_mul]
    generalize mm * (c * c + d * d) = P at *
    generalize mm * (b.1 * b.1 + b.2 * b.2) = R at *
    have q1 : ac * R ≤ 512 * (128 * 128) := Nat.mul_le_mul a3 p2
    have q2 : ab * P ≤ 512 * (128 * 128) := Nat.mul_le_mul e3 p1
    exact pk_lLE (by omega) (by omega)
  have hmo : s.2.1 * msW mm c d < msT na nb mm c d s * s.2.2.1 ↔ ab * (mm * (c * c + d * d)) < ac * (mm * (b.1 * b.1 + b.2 * b.2)) := by
    rw [tv, wv, sv, uv, lN_mul, lN_mul]
    generalize mm * (c * c + d * d) = P at *
    generalize mm * (b.1 * b.1 + b.2 * b.2) = R at *
    have q1 : R * ab * (P * P) ≤ (128 * 128) * 512 * ((128 * 128) * (128 * 128)) := Nat.mul_le_mul (Nat.mul_le_mul p2 e3) (Nat.mul_le_mul p1 p1)
    have q2 : P * ac * (R * R) ≤ (128 * 128) * 512 * ((128 * 128) * (128 * 128)) := Nat.mul_le_mul (Nat.mul_le_mul p1 a3) (Nat.mul_le_mul p2 p2)
    rw [pk_lLT (by omega) (by omega)]
    exact cmp_bl p4 p3
  refine ⟨fun q => ?_, fun q => ?_⟩
  · rw [mstep_f ne (fun k => absurd (hmo.mp k) (Nat.not_lt.mpr (hw.mp q)))]
    exact ⟨b1, b2, b3, b4, b5, b6⟩
  · rw [mstep_t (Or.inr (hmo.mpr (Nat.lt_of_not_le (fun k => q (hw.mpr k)))))]
    exact ⟨hc1, hc, hd, rfl, fun z => tv.trans (a4 z).symm, rfl⟩
