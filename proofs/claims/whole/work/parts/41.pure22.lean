/-! BEST, the join -/
section BE
variable {na nb : Int32} {mm : Nat}
theorem best_row (h1 : nt_ok na nb) (hmq : na * na + nb * nb = nI mm) (hM : (mm : Int) = na.toInt * na.toInt + nb.toInt * nb.toInt) (hm1 : 1 ≤ mm) (hm2 : mm ≤ 128) {c : Nat} (hc1 : 1 ≤ c) (hc : c ≤ 8) {s : BS} {b : Nat × Nat} (hb : bestI na nb mm s b) : ∀ d, d ≤ 9 → bestI na nb mm (mbI na nb mm c s d) (bsI na nb mm c b d)
  | 0, _ => hb
  | d + 1, hd => by
    have ih := best_row h1 hmq hM hm1 hm2 hc1 hc hb d (by omega)
    have st := best_step (c := c) (d := d) h1 hmq hM hm1 hm2 hc1 hc (by omega) ih
    rw [mbI]
    by_cases q : bsW na nb mm c d (bsI na nb mm c b d)
    · rw [bsI_t q]; exact st.1 q
    · rw [bsI_f q]; exact st.2 q
theorem best_first (h1 : nt_ok na nb) (hmq : na * na + nb * nb = nI mm) (hM : (mm : Int) = na.toInt * na.toInt + nb.toInt * nb.toInt) (hm1 : 1 ≤ mm) (hm2 : mm ≤ 128) {s : BS} (hs : s.1 = (-1)) : ∀ d, d + 1 ≤ 9 → bestI na nb mm (mbI na nb mm 1 s (d + 1)) (bsI na nb mm 1 (1, 0) (d + 1))
  | 0, _ => by
    have q : bsW na nb mm 1 0 (bsI na nb mm 1 (1, 0) 0) := Int64.le_refl _
    rw [bsI_t q, mbI]
    show bestI na nb mm (mstep na nb mm 1 0 s) (1, 0)
    rw [mstep_t (Or.inl hs)]
    obtain ⟨ac, a1, a2, a3, a4⟩ := beat_N (c := 1) (d := 0) h1 hmq hM hm1 hm2 (by decide) (by decide) (by decide)
    exact ⟨by decide, by decide, by decide, rfl, fun z => (a4 _).trans (a4 z).symm, rfl⟩
  | d + 1, hd => by
    have ih := best_first h1 hmq hM hm1 hm2 hs d (by omega)
    have st := best_step (c := 1) (d := d + 1) h1 hmq hM hm1 hm2 (by decide) (by decide) (by omega) ih
    rw [mbI]
    by_cases q : bsW na nb mm 1 (d + 1) (bsI na nb mm 1 (1, 0) (d + 1))
    · rw [bsI_t q]; exact st.1 q
    · rw [bsI_f q]; exact st.2 q
theorem best_all (h1 : nt_ok na nb) (hmq : na * na + nb * nb = nI mm) (hM : (mm : Int) = na.toInt * na.toInt + nb.toInt * nb.toInt) (hm1 : 1 ≤ mm) (hm2 : mm ≤ 128) {s : BS} (hs : s.1 = (-1)) : ∀ k, k + 1 ≤ 8 → bestI na nb mm (mbO na nb mm s (k + 1)) (bsO na nb mm (k + 1))
  | 0, _ => by
    rw [mbO, bsO]
    exact best_first h1 hmq hM hm1 hm2 (s := mbO na nb mm s 0) hs 8 (by decide)
  | k + 1, hk => by
    have ih := best_all h1 hmq hM hm1 hm2 hs k (by omega)
    rw [mbO, bsO]
    exact best_row h1 hmq hM hm1 hm2 (by omega) hk ih 9 (by decide)
theorem best_eq (h1 : nt_ok na nb) (hmq : na * na + nb * nb = nI mm) (hM : (mm : Int) = na.toInt * na.toInt + nb.toInt * nb.toInt) (hm1 : 1 ≤ mm) (hm2 : mm ≤ 128) {s : BS} (hs : s.1 = (-1)) : (mbO na nb mm s 8).1 = 10 * nI (bsO na nb mm 8).1 + nI (bsO na nb mm 8).2 := (best_all h1 hmq hM hm1 hm2 hs 7 (by decide)).2.2.2.1
end BE
