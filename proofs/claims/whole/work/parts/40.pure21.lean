/-! BEST: the class's search and the reference's go together -/
theorem nt_ok_N {c d : Nat} (hc : c ≤ 8) (hd : d ≤ 8) (h : 1 ≤ c) : nt_ok (nI c) (nI d) := by
  have e8 : ∀ j, j ≤ 8 → ¬ nI j < (-8) ∧ ¬ 8 < nI j := by
    intro j hj
    refine ⟨?_, rg_hi (hi := 8) hj (by decide)⟩
    rw [Int32.lt_iff_toInt_lt, nI_toInt (by omega)]
    have e1 : ((-8 : Int32)).toInt = -8 := by decide
    rw [e1]; omega
  exact ⟨e8 c hc, e8 d hd, fun q => nI_ne0 h (by omega) q.1⟩
theorem sq_N (c d : Nat) : nI c * nI c + nI d * nI d = nI (c * c + d * d) := by rw [pk_mul, pk_mul, nI_add]
theorem beat_N {na nb : Int32} {mm c d : Nat} (h1 : nt_ok na nb) (hmq : na * na + nb * nb = nI mm) (hM : (mm : Int) = na.toInt * na.toInt + nb.toInt * nb.toInt) (hm1 : 1 ≤ mm) (hm2 : mm ≤ 128) (hc1 : 1 ≤ c) (hc : c ≤ 8) (hd : d ≤ 8) :
    ∃ ab : Nat, btA na nb mm (nI c) (nI d) = nI ab ∧ btB mm (nI c) (nI d) = nI (mm * (c * c + d * d)) ∧ ab ≤ 512 ∧ ∀ b0, bTp na nb (nI c) (nI d) mm (c * c + d * d) b0 4 = lN (mm * (c * c + d * d) * ab) := by
  have hs := sq_le hc hd
  have h11 : 1 ≤ c * c := Nat.mul_le_mul hc1 hc1
  refine beat_key h1 (nt_ok_N hc hd hc1) hmq (sq_N c d) hM ?_ hm1 hm2 (by omega) hs
  rw [nI_toInt (by omega), nI_toInt (by omega), Int.natCast_add, Int.natCast_mul, Int.natCast_mul]
