/-! what an exchange is worth: the class's short sum is the fall of COST -/
theorem sw_a (f : Nat → Int32) {a b : Nat} (h : a ≠ b) : sw f a b a = f b := by
  unfold sw; rw [pk_un h, pk_us]
theorem sw_b (f : Nat → Int32) (a b : Nat) : sw f a b b = f a := by
  unfold sw; rw [pk_us]
theorem sw_n (f : Nat → Int32) {a b t : Nat} (h1 : t ≠ a) (h2 : t ≠ b) : sw f a b t = f t := by
  unfold sw; rw [pk_un h2, pk_un h1]
theorem nI_sub_l {x y : Nat} (hx : x < 2 ^ 30) (hy : y < 2 ^ 30) : (nI x - nI y).toInt64 = lN x - lN y := by
  refine Int64.toInt_inj.mp ?_
  rw [Int32.toInt_toInt64, pk_sub_toInt hx hy, Int64.toInt_sub, lN_toInt (by omega), lN_toInt (by omega)]
  rw [Int.bmod_eq_of_le (by omega) (by omega)]
theorem csT_comm (nn : Nat) (nu : Nat → Int32) (p q : Nat) : csT nn nu p q = csT nn nu q p := by
  unfold csT; rw [mxI_comm, nrp_comm]
theorem csT_val {nn : Nat} {nu : Nat → Int32} {p q u v : Nat} (h2 : nn ≤ 8) (hp : nu p = nI u) (hq : nu q = nI v) (hu : u < nn * nn) (hv : v < nn * nn) : csT nn nu p q = (lN (nn * nn) - lN (max v u)) * (nrp nn p q).toInt64 := by
  have h64 := nn_64 h2
  unfold csT
  rw [hp, hq, mxI_N (by omega) (by omega), nI_sub_l (by omega) (by omega)]
theorem wrt_sm {nn : Nat} {nu : Nat → Int32} {a b : Nat} (ha : a < nn * nn) (hb : b < nn * nn) (hab : a ≠ b) :
    wrt nn nu a b = sm (fun t => if t = a ∨ t = b then 0 else (csT nn nu t a - csT nn (sw nu a b) t a) + (csT nn nu t b - csT nn (sw nu a b) t b)) (nn * nn) := by
  have e0 : wrt nn nu a b = sm (fun p => sm (fun q => csT nn nu p q - csT nn (sw nu a b) p q) p) (nn * nn) := by
    unfold wrt
    rw [csO_sm, csO_sm, ← sm_sub]
    exact sm_congr _ (fun i _ => (sm_sub _ _ _).symm)
  rw [e0, sm_pairs (h := fun p q => csT nn nu p q - csT nn (sw nu a b) p q) hab ha hb ?_ ?_ ?_ (nn * nn) (Nat.le_refl _)]
  · refine sm_congr _ (fun t _ => ?_)
    rw [if_pos ha, if_pos hb]
  · intro p q _ _ p1 p2 q1 q2
    have e : csT nn (sw nu a b) p q = csT nn nu p q := by
      unfold csT; rw [sw_n nu p1 p2, sw_n nu q1 q2]
    show csT nn nu p q - csT nn (sw nu a b) p q = 0
    rw [e]; grind
  · intro p q _ _
    show csT nn nu p q - csT nn (sw nu a b) p q = csT nn nu q p - csT nn (sw nu a b) q p
    rw [csT_comm nn nu p q, csT_comm nn (sw nu a b) p q]
  · show csT nn nu a b - csT nn (sw nu a b) a b = 0
    have e : csT nn (sw nu a b) a b = csT nn nu a b := by
      unfold csT; rw [sw_a nu hab, sw_b, mxI_comm]
    rw [e]; grind
noncomputable def gnV (nn : Nat) (nu : Nat → Int32) (a b : Nat) : Int64 := if nu a = mnI (nu a) (nu b) then gnI nn nu a b (nn * nn) else - gnI nn nu a b (nn * nn)
theorem gnV_eq {nn : Nat} {nu : Nat → Int32} {a b : Nat} (h2 : nn ≤ 8) (hP : PMok nn nu) (ha : a < nn * nn) (hb : b < nn * nn) (hab : a ≠ b) : gnV nn nu a b = wrt nn nu a b := by
  have h64 := nn_64 h2
  rw [wrt_sm ha hb hab]
  obtain ⟨fa, hfa, ea⟩ := hP.1 a ha
  obtain ⟨fb, hfb, eb⟩ := hP.1 b hb
  have hne : fa ≠ fb := fun q => hab (hP.2 a b ha hb (by rw [ea, eb, q]))
  have emx : mxI (nu a) (nu b) = nI (max fa fb) := by rw [ea, eb, mxI_N (by omega) (by omega)]
  have emn : mnI (nu a) (nu b) = nI (min fa fb) := by rw [ea, eb, mnI_N (by omega) (by omega)]
  have key : ∀ t, t < nn * nn → ∃ ft, ft < nn * nn ∧ nu t = nI ft ∧ (t = a → ft = fa) ∧ (t = b → ft = fb) ∧ (t ≠ a → ft ≠ fa) ∧ (t ≠ b → ft ≠ fb) := by
    intro t ht
    obtain ⟨ft, hft, et⟩ := hP.1 t ht
    refine ⟨ft, hft, et, fun q => ?_, fun q => ?_, fun q r => q (hP.2 t a ht ha (by rw [et, ea, r])), fun q r => q (hP.2 t b ht hb (by rw [et, eb, r]))⟩
    · subst q; exact (nI_eq (by omega) (by omega)).mp (et.symm.trans ea)
    · subst q; exact (nI_eq (by omega) (by omega)).mp (et.symm.trans eb)
  have rhs : ∀ t ft, t < nn * nn → ft < nn * nn → nu t = nI ft → t ≠ a → t ≠ b →
      (csT nn nu t a - csT nn (sw nu a b) t a) + (csT nn nu t b - csT nn (sw nu a b) t b) = (lN (max fb ft) - lN (max fa ft)) * ((nrp nn t a).toInt64 - (nrp nn t b).toInt64) := by
    intro t ft ht hft et t1 t2
    rw [csT_val h2 et ea hft hfa, csT_val h2 et eb hft hfb]
    rw [csT_val (nu := sw nu a b) h2 ((sw_n nu t1 t2).trans et) ((sw_a nu hab).trans eb) hft hfb]
    rw [csT_val (nu := sw nu a b) h2 ((sw_n nu t1 t2).trans et) ((sw_b nu a b).trans ea) hft hfa]
    grind
  have gnt : ∀ t ft, t < nn * nn → ft < nn * nn → nu t = nI ft →
      gnT nn nu a b t = (lN (max fa fb) - lN (max (min fa fb) ft)) * ((nrp nn t a).toInt64 - (nrp nn t b).toInt64) := by
    intro t ft ht hft et
    unfold gnT
    rw [emx, emn, et, mxI_N (by omega) (by omega), nI_sub_l (by omega) (by omega)]
    have n1 := nrN_le nn (adf (t % nn) (a % nn)) (adf (t / nn) (a / nn))
    have n2 := nrN_le nn (adf (t % nn) (b % nn)) (adf (t / nn) (b / nn))
    rw [nrp_N h2 ht ha, nrp_N h2 ht hb, nI_sub_l (by omega) (by omega), nI_l (by omega), nI_l (by omega)]
  unfold gnV
  rw [gnI_sm]
  by_cases c : nu a = mnI (nu a) (nu b)
  · rw [if_pos c]
    have c1 : fa = min fa fb := (nI_eq (by omega) (by omega)).mp (ea.symm.trans (c.trans emn))
    refine sm_congr _ (fun t ht => ?_)
    obtain ⟨ft, hft, et, k1, k2, k3, k4⟩ := key t ht
    show (if mxI (nu a) (nu b) ≤ nu t then 0 else if nu t = mnI (nu a) (nu b) then 0 else gnT nn nu a b t) = _
    rw [emx, emn, et]
    by_cases d1 : max fa fb ≤ ft
    · rw [if_pos (nI_le d1 (by omega))]
      by_cases d2 : t = a ∨ t = b
      · rw [if_pos d2]
      · rw [if_neg d2, rhs t ft ht hft et (fun q => d2 (Or.inl q)) (fun q => d2 (Or.inr q))]
        rw [show max fb ft = ft by omega, show max fa ft = ft by omega]
        grind
    · rw [if_neg (nI_ge (by omega) (by omega))]
      by_cases d3 : ft = min fa fb
      · rw [if_pos (by rw [d3])]
        have d4 : t = a := Classical.byContradiction (fun q => k3 q (by omega))
        rw [if_pos (Or.inl d4)]
      · rw [if_neg (fun q => d3 ((nI_eq (by omega) (by omega)).mp q))]
        have d4 : t ≠ a := fun q => d3 (by rw [k1 q]; exact c1)
        have d5 : t ≠ b := fun q => d1 (by rw [k2 q]; omega)
        rw [if_neg (by simp [d4, d5]), rhs t ft ht hft et d4 d5, gnt t ft ht hft et]
        rw [show max fa fb = fb by omega, show max fb ft = fb by omega, show min fa fb = fa by omega]
  · rw [if_neg c]
    have c1 : fa ≠ min fa fb := fun q => c (by rw [emn, ← q, ea])
    rw [← sm_neg]
    refine sm_congr _ (fun t ht => ?_)
    obtain ⟨ft, hft, et, k1, k2, k3, k4⟩ := key t ht
    show - (if mxI (nu a) (nu b) ≤ nu t then 0 else if nu t = mnI (nu a) (nu b) then 0 else gnT nn nu a b t) = _
    rw [emx, emn, et]
    by_cases d1 : max fa fb ≤ ft
    · rw [if_pos (nI_le d1 (by omega))]
      by_cases d2 : t = a ∨ t = b
      · rw [if_pos d2]; rfl
      · rw [if_neg d2, rhs t ft ht hft et (fun q => d2 (Or.inl q)) (fun q => d2 (Or.inr q))]
        rw [show max fb ft = ft by omega, show max fa ft = ft by omega]
        grind
    · rw [if_neg (nI_ge (by omega) (by omega))]
      by_cases d3 : ft = min fa fb
      · rw [if_pos (by rw [d3])]
        have d4 : t = b := Classical.byContradiction (fun q => k4 q (by omega))
        rw [if_pos (Or.inr d4)]; rfl
      · rw [if_neg (fun q => d3 ((nI_eq (by omega) (by omega)).mp q))]
        have d4 : t ≠ b := fun q => d3 (by rw [k2 q]; omega)
        have d5 : t ≠ a := fun q => d1 (by rw [k1 q]; omega)
        rw [if_neg (by simp [d4, d5]), rhs t ft ht hft et d5 d4, gnt t ft ht hft et]
        rw [show max fa fb = fa by omega, show max fa ft = fa by omega, show min fa fb = fb by omega]
        grind
