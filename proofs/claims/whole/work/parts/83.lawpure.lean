/-! the law: its invariant, and what each call keeps of it: pure -/
def lwI (Wd Hh nn mm cn : Nat) (na nb rk pr : Int32) (g ln nu sp ne ky tr rn : Nat → Int32) : Prop :=
  ((1 ≤ Wd ∧ Wd ≤ 24) ∧ (1 ≤ Hh ∧ Hh ≤ 24) ∧ (1 ≤ nn ∧ nn ≤ 8)) ∧
  ((∀ x y, x < 24 → y < 24 → ¬ (x < Wd ∧ y < Hh) → g (y * 24 + x) = 0) ∧ (∀ x y, x < 24 → y < 24 → ¬ (x < Wd ∧ y < Hh) → ln (y * 24 + x) = 0) ∧ ∀ k, ln k = 0 ∨ ln k = 1) ∧
  (SPok nn sp ∧ NEok nn ne ∧ PMok nn nu) ∧
  (nt_ok na nb ∧ na * na + nb * nb = nI mm ∧ (mm : Int) = na.toInt * na.toInt + nb.toInt * nb.toInt ∧ 1 ≤ mm ∧ mm ≤ 128) ∧
  (cn ≤ 128 ∧ ∃ ky0, ky = (latK na nb mm ky0).1 ∧ cn = (latK na nb mm ky0).2) ∧
  (rk = 20 * na + nb + 1000 → ∃ tr0 rn0, tr = thF na nb mm tr0 ∧ rn = rnO mm (thF na nb mm tr0) rn0 (mm * mm) ∧ pr = cL (thF na nb mm tr0) (mm * mm))
section LWP
variable {Wd Hh nn mm cn : Nat} {na nb rk pr : Int32} {g ln nu sp ne ky tr rn : Nat → Int32}
theorem lwI_pic {W2 H2 : Nat} (h : lwI Wd Hh nn mm cn na nb rk pr g ln nu sp ne ky tr rn) (q1 : 1 ≤ W2) (q2 : W2 ≤ 24) (q3 : 1 ≤ H2) (q4 : H2 ≤ 24) : lwI W2 H2 nn mm cn na nb rk pr (zr 576 g) (zr 576 ln) nu sp ne ky tr rn := by
  obtain ⟨⟨_, _, hn⟩, ⟨_, _, h01⟩, r⟩ := h
  refine ⟨⟨⟨q1, q2⟩, ⟨q3, q4⟩, hn⟩, ⟨fun x y hx hy _ => ?_, fun x y hx hy _ => ?_, fun k => ?_⟩, r⟩
  · unfold zr; exact if_pos (by omega)
  · unfold zr; exact if_pos (by omega)
  · unfold zr; split
    · exact Or.inl rfl
    · exact h01 k
theorem lwI_g {g2 : Nat → Int32} (h : lwI Wd Hh nn mm cn na nb rk pr g ln nu sp ne ky tr rn) (hg : ∀ k, (∀ x y, x < Wd → y < Hh → k ≠ y * 24 + x) → g2 k = g k) : lwI Wd Hh nn mm cn na nb rk pr g2 ln nu sp ne ky tr rn := by
  obtain ⟨⟨hw, hh, hn⟩, ⟨hg0, hl0, h01⟩, r⟩ := h
  refine ⟨⟨hw, hh, hn⟩, ⟨fun x y hx hy hout => ?_, hl0, h01⟩, r⟩
  have hk : ∀ a b, a < Wd → b < Hh → y * 24 + x ≠ b * 24 + a := by
    intro a b ha hb q
    have : x = a ∧ y = b := by omega
    exact hout (by rw [this.1, this.2]; exact ⟨ha, hb⟩)
  rw [hg (y * 24 + x) hk]
  exact hg0 x y hx hy hout
theorem lwI_shade {jx jy : Nat} {v : Int32} (h : lwI Wd Hh nn mm cn na nb rk pr g ln nu sp ne ky tr rn) (hx : jx < Wd) (hy : jy < Hh) : lwI Wd Hh nn mm cn na nb rk pr (upd g (jy * 24 + jx) v) ln nu sp ne ky tr rn :=
  lwI_g h (fun k hk => pk_un (hk jx jy hx hy))
theorem rpi_out {f : Nat → Int32} {x y k : Nat} {v : Int32} : ∀ n, (∀ j, j < n → k ≠ (y + j) * 24 + x) → rpi f x y v n k = f k
  | 0, _ => rfl
  | n + 1, h => by rw [rpi, pk_un (h n (by omega)), rpi_out n (fun j hj => h j (by omega))]
theorem rpo_out {f : Nat → Int32} {jx jy bh k : Nat} {v v1 : Int32} : ∀ n, (∀ i j, i < n → j < bh → k ≠ (jy + j) * 24 + (jx + i)) → rpo f jx jy bh v v1 n k = f k
  | 0, _ => rfl
  | n + 1, h => by rw [rpo, rpi_out bh (fun j hj => h n j (by omega) hj), rpo_out n (fun i j hi hj => h i j (by omega) hj)]
theorem lwI_ramp {jx jy bw bh : Nat} {v v1 : Int32} (h : lwI Wd Hh nn mm cn na nb rk pr g ln nu sp ne ky tr rn) (b2 : jx + bw ≤ Wd) (b4 : jy + bh ≤ Hh) : lwI Wd Hh nn mm cn na nb rk pr (rpo g jx jy bh v v1 bw) ln nu sp ne ky tr rn :=
  lwI_g h (fun k hk => rpo_out bw (fun i j hi hj => hk (jx + i) (jy + j) (by omega) (by omega)))
theorem lwI_line {jx jy : Nat} {v : Int32} (h : lwI Wd Hh nn mm cn na nb rk pr g ln nu sp ne ky tr rn) (hx : jx < Wd) (hy : jy < Hh) (hv : v = 0 ∨ v = 1) : lwI Wd Hh nn mm cn na nb rk pr g (upd ln (jy * 24 + jx) v) nu sp ne ky tr rn := by
  obtain ⟨⟨hw, hh, hn⟩, ⟨hg0, hl0, h01⟩, r⟩ := h
  refine ⟨⟨hw, hh, hn⟩, ⟨hg0, fun x y qx qy hout => ?_, fun k => ?_⟩, r⟩
  · have hk : y * 24 + x ≠ jy * 24 + jx := by
      intro q
      have : x = jx ∧ y = jy := by omega
      exact hout (by rw [this.1, this.2]; exact ⟨hx, hy⟩)
    rw [pk_un hk]
    exact hl0 x y qx qy hout
  · by_cases e : k = jy * 24 + jx
    · rw [e, pk_us]; exact hv
    · rw [pk_un e]; exact h01 k
theorem lwI_table {n2 : Nat} (h : lwI Wd Hh nn mm cn na nb rk pr g ln nu sp ne ky tr rn) (q1 : 1 ≤ n2) (q2 : n2 ≤ 8) : lwI Wd Hh n2 mm cn na nb rk pr g ln (idt (n2 * n2) nu) (spF n2 (n2 * n2) sp) (neo n2 ne (2 * n2 - 1)) ky tr rn := by
  obtain ⟨⟨hw, hh, hn⟩, ho, _, r⟩ := h
  exact ⟨⟨hw, hh, q1, q2⟩, ho, ⟨SPok_new _ _, NEok_new q1 q2 _, PMok_new q2 _⟩, r⟩
theorem lwI_nu {nu2 : Nat → Int32} (h : lwI Wd Hh nn mm cn na nb rk pr g ln nu sp ne ky tr rn) (hp : PMok nn nu2) : lwI Wd Hh nn mm cn na nb rk pr g ln nu2 sp ne ky tr rn := by
  obtain ⟨a, ho, ⟨s1, s2, _⟩, r⟩ := h
  exact ⟨a, ho, ⟨s1, s2, hp⟩, r⟩
theorem rk_no {x y : Int32} (h : nt_ok x y) : ¬ (-1 : Int32) = 20 * x + y + 1000 := by
  obtain ⟨hx, hy, _⟩ := nt_small h
  intro e
  have e0 : (20 : Int32).toInt = 20 := by decide
  have e1 : (1000 : Int32).toInt = 1000 := by decide
  have e2 : (-1 : Int32).toInt = -1 := by decide
  have q1 : (20 * x).toInt = 20 * x.toInt := by rw [i32m (by rw [e0]; omega) (by rw [e0]; omega), e0]
  have q2 : (20 * x + y).toInt = 20 * x.toInt + y.toInt := by rw [i32a (by rw [q1]; omega) (by rw [q1]; omega), q1]
  have q3 : (20 * x + y + 1000).toInt = 20 * x.toInt + y.toInt + 1000 := by rw [i32a (by rw [q2, e1]; omega) (by rw [q2, e1]; omega), q2, e1]
  have := congrArg Int32.toInt e
  rw [q3, e2] at this
  omega
theorem lwI_net {x y : Int32} {mm2 : Nat} (h : lwI Wd Hh nn mm cn na nb rk pr g ln nu sp ne ky tr rn) (hn : nt_ok x y) (hmq : x * x + y * y = nI mm2) (hM : (mm2 : Int) = x.toInt * x.toInt + y.toInt * y.toInt) (h1 : 1 ≤ mm2) (h2 : mm2 ≤ 128) : lwI Wd Hh nn mm2 (latK x y mm2 ky).2 x y (-1) pr g ln nu sp ne (latK x y mm2 ky).1 tr rn := by
  obtain ⟨a, ho, st, _, _, _⟩ := h
  exact ⟨a, ho, st, ⟨hn, hmq, hM, h1, h2⟩, ⟨(lat_set ky ky hn hM h1 h2).2.1, ky, rfl, rfl⟩, fun e => absurd e (rk_no hn)⟩
theorem lwI_rk (h : lwI Wd Hh nn mm cn na nb rk pr g ln nu sp ne ky tr rn) : lwI Wd Hh nn mm cn na nb (20 * na + nb + 1000) (cL (thF na nb mm tr) (mm * mm)) g ln nu sp ne ky (thF na nb mm tr) (rnO mm (thF na nb mm tr) rn (mm * mm)) := by
  obtain ⟨a, ho, st, n, k, _⟩ := h
  exact ⟨a, ho, st, n, k, fun _ => ⟨tr, rn, rfl, rfl, rfl⟩⟩
theorem i32_rng {x : Int32} (h : ¬ x < 0 ∧ ¬ 1000 < x) : 0 ≤ x.toInt ∧ x.toInt ≤ 1000 := by
  rw [i32lt, i32lt] at h
  have e1 : (1000 : Int32).toInt = 1000 := by decide
  have e0 : (0 : Int32).toInt = 0 := by decide
  rw [e1, e0] at h
  omega
/-- the class's rank is the reference's, the ranks known or made now -/
theorem lw_rank_do (h : lwI Wd Hh nn mm cn na nb rk pr g ln nu sp ne ky tr rn) {x y : Int32} (hx : 0 ≤ x.toInt ∧ x.toInt ≤ 1000) (hy : 0 ≤ y.toInt ∧ y.toInt ≤ 1000) : nI (ub ky cn (kyA na nb mm x y) 8) - 1 = rnO mm (thF na nb mm tr) rn (mm * mm) (pN na nb mm x y) := by
  obtain ⟨_, _, _, ⟨hn, _, hM, h1, h2⟩, ⟨_, ky0, e1, e2⟩, _⟩ := h
  subst e1; subst e2
  exact lat_rank ky0 tr rn hn hM h1 h2 hx hy
theorem lw_rank_so (h : lwI Wd Hh nn mm cn na nb rk pr g ln nu sp ne ky tr rn) (hrk : rk = 20 * na + nb + 1000) {x y : Int32} (hx : 0 ≤ x.toInt ∧ x.toInt ≤ 1000) (hy : 0 ≤ y.toInt ∧ y.toInt ≤ 1000) : nI (ub ky cn (kyA na nb mm x y) 8) - 1 = rn (pN na nb mm x y) := by
  obtain ⟨_, _, _, ⟨hn, _, hM, h1, h2⟩, ⟨_, ky0, e1, e2⟩, hr⟩ := h
  obtain ⟨tr0, rn0, q1, q2, q3⟩ := hr hrk
  subst e1; subst e2; subst q2
  exact lat_rank ky0 tr0 rn0 hn hM h1 h2 hx hy
theorem lw_count_do (h : lwI Wd Hh nn mm cn na nb rk pr g ln nu sp ne ky tr rn) : nI cn = cL (thF na nb mm tr) (mm * mm) := by
  obtain ⟨_, _, _, ⟨hn, _, hM, h1, h2⟩, ⟨_, ky0, e1, e2⟩, _⟩ := h
  subst e2
  exact lat_count ky0 tr hn hM h1 h2
theorem lw_count_so (h : lwI Wd Hh nn mm cn na nb rk pr g ln nu sp ne ky tr rn) (hrk : rk = 20 * na + nb + 1000) : nI cn = pr := by
  obtain ⟨_, _, _, ⟨hn, _, hM, h1, h2⟩, ⟨_, ky0, e1, e2⟩, hr⟩ := h
  obtain ⟨tr0, rn0, q1, q2, q3⟩ := hr hrk
  subst e2; subst q3
  exact lat_count ky0 tr0 hn hM h1 h2
/-- the dots of each way, of the class and of the reference -/
theorem lw_dots {he be ik ca dt : Nat → Int32} {gn bk lo way : Int32} (h : lwI Wd Hh nn mm cn na nb rk pr g ln nu sp ne ky tr rn) (hw : ¬ way < 0 ∧ ¬ 2 < way) : ∃ (he2 be2 ik2 ca2 dt2 tr2 rn2 : Nat → Int32) (gn2 rk2 pr2 lo2 : Int32) (bf : Nat → Nat → Int32),
    dkOK way Wd Hh g ln nn nu he be ik gn ky cn na nb bk mm he2 be2 ik2 gn2 bf ∧ mkOK way Wd Hh nn mm na nb bk g nu ln ca dt tr rn rk pr lo ca2 dt2 tr2 rn2 rk2 pr2 lo2 ∧
    lwI Wd Hh nn mm cn na nb rk2 pr2 g ln nu sp ne ky tr2 rn2 ∧ ∀ x y, x < Wd → y < Hh → (bf x y = 0 ↔ dt2 (y * 24 + x) = 0) := by
  have hI := h
  obtain ⟨⟨⟨hw1, hw2⟩, ⟨hh1, hh2⟩, _⟩, _, _, ⟨hn, _, hM, h1, h2⟩, _, _⟩ := h
  have hway : way = 0 ∨ way = 1 ∨ way = 2 := by
    obtain ⟨j, hj, e⟩ := nI_of2 (x := way) (M := 2) (n := 2) (by decide) hw.1 (Int32.not_lt.mp hw.2)
    rcases (show j = 0 ∨ j = 1 ∨ j = 2 by omega) with q | q | q
    · exact Or.inl (by rw [e, q]; rfl)
    · exact Or.inr (Or.inl (by rw [e, q]; rfl))
    · exact Or.inr (Or.inr (by rw [e, q]; rfl))
  rcases hway with e | e | e
  · refine ⟨he, be, ik, ca, _, tr, rn, gn, rk, pr, lo, _, Or.inl ⟨by rw [e]; decide, rfl, rfl, rfl, rfl, Or.inl ⟨e, rfl⟩⟩, Or.inl ⟨e, rfl, rfl, rfl, rfl, rfl, rfl, rfl⟩, hI, fun x y hx hy => ?_⟩
    rw [dkO_at hw2 Hh y x hy hx]
  · refine ⟨_, _, _, _, _, tr, rn, _, rk, pr, _, _, Or.inr ⟨e, rfl, rfl, rfl, rfl, rfl⟩, Or.inr (Or.inl ⟨e, rfl, rfl, rfl, rfl, rfl, rfl, rfl⟩), hI, fun x y hx hy => ?_⟩
    exact dots1_eq hw2 hh2 hh1 hx hy
  · have hx1 : ∀ x, x < Wd → 0 ≤ (nI x).toInt ∧ (nI x).toInt ≤ 1000 := fun x hx => nI_rng (by omega)
    have hy1 : ∀ y, y < Hh → 0 ≤ (nI y).toInt ∧ (nI y).toInt ≤ 1000 := fun y hy => nI_rng (by omega)
    by_cases hrk : rk = 20 * na + nb + 1000
    · refine ⟨he, be, ik, ca, _, tr, rn, gn, rk, pr, lo, _, Or.inl ⟨by rw [e]; decide, rfl, rfl, rfl, rfl, Or.inr (Or.inr ⟨e, rfl⟩)⟩, Or.inr (Or.inr (Or.inl ⟨e, hrk, rfl, rfl, rfl, rfl, rfl, rfl, rfl⟩)), hI, fun x y hx hy => ?_⟩
      rw [dkO_at hw2 Hh y x hy hx]
      have q : P2c ky cn na nb mm g x y ↔ P2m pr rn na nb mm g x y := by
        unfold P2c P2m
        rw [lw_rank_so hI hrk (hx1 x hx) (hy1 y hy), lw_count_so hI hrk]
      unfold dtv
      rw [propext q]
    · refine ⟨he, be, ik, ca, _, _, _, gn, _, _, lo, _, Or.inl ⟨by rw [e]; decide, rfl, rfl, rfl, rfl, Or.inr (Or.inr ⟨e, rfl⟩)⟩, Or.inr (Or.inr (Or.inr ⟨e, hrk, rfl, rfl, rfl, rfl, rfl, rfl, rfl⟩)), lwI_rk hI, fun x y hx hy => ?_⟩
      rw [dkO_at hw2 Hh y x hy hx]
      have q : P2c ky cn na nb mm g x y ↔ P2m (cL (thF na nb mm tr) (mm * mm)) (rnO mm (thF na nb mm tr) rn (mm * mm)) na nb mm g x y := by
        unfold P2c P2m
        rw [lw_rank_do hI (hx1 x hx) (hy1 y hy), lw_count_do hI]
      unfold dtv
      rw [propext q]
theorem dsO_1 (dt : Nat → Int32) (jx jy : Nat) : dsO dt jx jy 1 1 = bI (¬ dt (jy * 24 + jx) = 0) := by
  rw [dsO_s2]
  show 0 + (0 + (if dt ((jy + 0) * 24 + (jx + 0)) = 0 then 0 else 1)) = _
  rw [Nat.add_zero, Nat.add_zero]
  by_cases h : dt (jy * 24 + jx) = 0
  · rw [if_pos h, bI_f (fun q => q h)]; rfl
  · rw [if_neg h, bI_t h]; rfl
/-- how often the evening goes on -/
theorem ev_stop (P : Nat → Prop) (mo : Nat) : ∃ Nv, Nv ≤ mo ∧ (∀ i, i < Nv → P i) ∧ (Nv = mo ∨ ¬ P Nv) := by
  induction mo with
  | zero => exact ⟨0, Nat.le_refl _, fun i hi => absurd hi (by omega), Or.inl rfl⟩
  | succ k ih =>
    obtain ⟨N, h1, h2, h3⟩ := ih
    rcases h3 with h3 | h3
    · subst h3
      by_cases q : P N
      · exact ⟨N + 1, Nat.le_refl _, fun i hi => by
          by_cases e : i = N
          · rw [e]; exact q
          · exact h2 i (by omega), Or.inl rfl⟩
      · exact ⟨N, by omega, h2, Or.inr q⟩
    · exact ⟨N, by omega, h2, Or.inr h3⟩
theorem rg_of {x : Int32} {lo hi : Nat} (h1 : ¬ x < nI lo) (h2 : ¬ nI hi < x) (hh : hi < 2 ^ 31) (hl : lo < 2 ^ 31) : ∃ j, lo ≤ j ∧ j ≤ hi ∧ x = nI j := by
  rw [i32lt, nI_toInt hl] at h1
  rw [i32lt, nI_toInt hh] at h2
  refine ⟨x.toInt.toNat, by omega, by omega, ?_⟩
  apply i32_eq
  rw [nI_toInt (by omega)]
  omega
theorem sh_of {x y : Int32} (hw2 : Wd ≤ 24) (hh2 : Hh ≤ 24) (h : sh_has Wd Hh x y) : ∃ jx jy, jx < Wd ∧ jy < Hh ∧ x = nI jx ∧ y = nI jy := by
  obtain ⟨h1, h2, h3, h4⟩ := h
  rcases pk_ix x (show Wd < 2 ^ 31 by omega) with q | q | ⟨jx, a1, a2⟩
  · exact absurd q h1
  · exact absurd q h2
  · rcases pk_ix y (show Hh < 2 ^ 31 by omega) with q | q | ⟨jy, b1, b2⟩
    · exact absurd q h3
    · exact absurd q h4
    · exact ⟨jx, jy, a1, b1, a2, b2⟩
theorem box_of {x y w k : Int32} (hw2 : Wd ≤ 24) (hh2 : Hh ≤ 24) (h : sh_box Wd Hh x y w k) : ∃ jx jy bw bh, 1 ≤ bw ∧ jx + bw ≤ Wd ∧ 1 ≤ bh ∧ jy + bh ≤ Hh ∧ x = nI jx ∧ y = nI jy ∧ w = nI bw ∧ k = nI bh := by
  obtain ⟨h0, h1, h2, h3, h4⟩ := h
  obtain ⟨jx, jy, a1, a2, a3, a4⟩ := sh_of hw2 hh2 h0
  subst a3; subst a4
  rw [pk_sub (by omega)] at h2 h4
  obtain ⟨bw, c1, c2, c3⟩ := rg_of (lo := 1) h1 h2 (by omega) (by decide)
  obtain ⟨bh, e1, e2, e3⟩ := rg_of (lo := 1) h3 h4 (by omega) (by decide)
  exact ⟨jx, jy, bw, bh, c1, by omega, e1, by omega, rfl, rfl, c3, e3⟩
theorem st_of {x : Int32} (hn2 : nn ≤ 8) (h : st_has nn x) : ∃ j, j < nn * nn ∧ x = nI j := by
  have q := nn_64 hn2
  rcases pk_ix x (show nn * nn < 2 ^ 31 by omega) with r | r | ⟨j, a1, a2⟩
  · exact absurd r h.1
  · exact absurd r h.2
  · exact ⟨j, a1, a2⟩
end LWP
theorem gcd_8 {a b : Nat} (h : a ≤ 8 ∧ b ≤ 8) (_ : 0 < Nat.gcd a b) (hz : ¬ (a = 0 ∧ b = 0)) : Nat.gcd a b ≤ 8 := by
  rcases Nat.eq_zero_or_pos a with e | e
  · exact Nat.le_trans (Nat.gcd_le_right a (by omega)) h.2
  · exact Nat.le_trans (Nat.gcd_le_left b e) h.1
theorem lw_beat {Wd Hh nn mm cn : Nat} {na nb rk pr : Int32} {g ln nu sp ne ky tr rn : Nat → Int32} (h : lwI Wd Hh nn mm cn na nb rk pr g ln nu sp ne ky tr rn) {x y : Int32} (hok : nt_ok x y) (bt : Int64) : ∃ ab kk : Nat,
    (btA na nb mm x y = nI ab ∧ btB mm x y = nI (mm * kk) ∧ ab < 2 ^ 15 ∧ mm * kk < 2 ^ 15 ∧ 1 ≤ Nat.gcd ab (mm * kk)) ∧ (x * x + y * y = nI kk ∧ kk ≤ 128 ∧ bTp na nb x y mm kk bt 4 = lN (mm * kk * ab) ∧ lN mm * lN kk * lN mm * lN kk = lN (mm * kk * (mm * kk)) ∧ mm * kk * ab < 2 ^ 62 ∧ mm * kk * (mm * kk) < 2 ^ 62 ∧ 1 ≤ mm * kk * (mm * kk)) ∧
    (nI (ab / Nat.gcd ab (mm * kk))).toInt64 = lN (mm * kk * ab / Nat.gcd (mm * kk * ab) (mm * kk * (mm * kk))) ∧ (nI (mm * kk / Nat.gcd ab (mm * kk))).toInt64 = lN (mm * kk * (mm * kk) / Nat.gcd (mm * kk * ab) (mm * kk * (mm * kk))) := by
  obtain ⟨_, _, _, ⟨hn, hmq, hM, h1, h2⟩, _, _⟩ := h
  obtain ⟨kk, k1, k2, k3, k4⟩ := net_mm hok
  obtain ⟨ab, a1, a2, a3, a4⟩ := beat_key hn hok hmq k1 hM k2 h1 h2 k3 k4
  have m1 : mm * kk ≤ 128 * 128 := Nat.mul_le_mul h2 k4
  have m0 : 1 ≤ mm * kk := Nat.mul_pos h1 k3
  have m2 : mm * kk * ab ≤ 16384 * 512 := Nat.mul_le_mul m1 a3
  have m3 : mm * kk * (mm * kk) ≤ 16384 * 16384 := Nat.mul_le_mul m1 m1
  have m4 : 1 ≤ mm * kk * (mm * kk) := Nat.mul_pos m0 m0
  have gs := gcd_scale (ab := ab) m0
  refine ⟨ab, kk, ⟨a1, a2, by omega, by omega, Nat.gcd_pos_of_pos_right _ m0⟩, ⟨k1, k4, a4 bt, mul4 mm kk, by omega, by omega, m4⟩, ?_, ?_⟩
  · rw [gs.1, nI_l (Nat.lt_of_le_of_lt (Nat.div_le_self _ _) (by omega))]
  · rw [gs.2, nI_l (Nat.lt_of_le_of_lt (Nat.div_le_self _ _) (by omega))]
