/-! CARRIED: the class's two rows and the reference's field say the same -/
theorem s2_upd {f : Nat → Int32} {j : Nat} {v : Int32} : ∀ n, j < n → s2 (upd f j (f j + v)) n = s2 f n + v
  | 0, h => absurd h (Nat.not_lt_zero _)
  | n + 1, h => by
    rw [s2, s2]
    by_cases e : j = n
    · subst e
      rw [pk_us, s2_congr j (g := f) (fun i hi => pk_un (by omega))]
      grind
    · rw [pk_un (fun q => e q.symm), s2_upd n (by omega)]
      grind
def CR (W Hh y : Nat) (he be : Nat → Int32) (gn : Int32) (ca : Nat → Int32) (lo : Int32) : Prop :=
  (∀ x, x < W → he x = ca (y * 24 + x)) ∧ (y + 1 < Hh → ∀ x, x < W → be x = ca ((y + 1) * 24 + x)) ∧ (∀ x y2, x < W → y + 1 < y2 → y2 < Hh → ca (y2 * 24 + x) = 0) ∧ (lo = gn + (if y + 1 = Hh then s2 be 24 else 0))
theorem CR_here {W Hh y : Nat} {he be ca : Nat → Int32} {gn lo x sh : Int32} (hW : W ≤ 24) (hH : Hh ≤ 24) (hy : y < Hh) (h : CR W Hh y he be gn ca lo) : CR W Hh y (gvF W x sh he) be (gvG W x sh gn) (mvF W Hh x (nI y) sh ca) (mvG W Hh x (nI y) sh lo) := by
  obtain ⟨hA, hB, hC, hD⟩ := h
  by_cases g : gin W x
  · obtain ⟨j1, j2⟩ := gin_j g hW
    have gs : sh_has W Hh x (nI y) := ⟨g.1, g.2, nI_pos (by omega), nI_ge hy (by omega)⟩
    have ey : (nI y).toNatClampNeg = y := nI_clamp (by omega)
    unfold gvF gvG mvF mvG
    rw [if_pos g, if_pos g, if_pos gs, if_pos gs, ey]
    generalize x.toNatClampNeg = j at *
    refine ⟨fun i hi => ?_, fun q i hi => ?_, fun i y2 hi q1 q2 => ?_, hD⟩
    · by_cases e : i = j
      · subst e; rw [pk_us, pk_us, hA i hi]
      · rw [pk_un e, pk_un (by omega), hA i hi]
    · rw [pk_un (by omega)]; exact hB q i hi
    · rw [pk_un (by omega)]; exact hC i y2 hi q1 q2
  · have gs : ¬ sh_has W Hh x (nI y) := fun q => g ⟨q.1, q.2.1⟩
    unfold gvF gvG mvF mvG
    rw [if_neg g, if_neg g, if_neg gs, if_neg gs]
    refine ⟨hA, hB, hC, ?_⟩
    rw [hD]; grind
theorem CR_below {W Hh y : Nat} {he be ca : Nat → Int32} {gn lo x sh : Int32} (hW : W ≤ 24) (hH : Hh ≤ 24) (hy : y < Hh) (h : CR W Hh y he be gn ca lo) : CR W Hh y he (gvF W x sh be) (gvG W x sh gn) (mvF W Hh x (nI (y + 1)) sh ca) (mvG W Hh x (nI (y + 1)) sh lo) := by
  obtain ⟨hA, hB, hC, hD⟩ := h
  have ey : (nI (y + 1)).toNatClampNeg = y + 1 := nI_clamp (by omega)
  by_cases g : gin W x
  · obtain ⟨j1, j2⟩ := gin_j g hW
    by_cases hl : y + 1 < Hh
    · have gs : sh_has W Hh x (nI (y + 1)) := ⟨g.1, g.2, nI_pos (by omega), nI_ge hl (by omega)⟩
      have hl2 : ¬ y + 1 = Hh := by omega
      unfold gvF gvG mvF mvG
      rw [if_pos g, if_pos g, if_pos gs, if_pos gs, ey]
      generalize x.toNatClampNeg = j at *
      refine ⟨fun i hi => ?_, fun q i hi => ?_, fun i y2 hi q1 q2 => ?_, ?_⟩
      · rw [pk_un (by omega)]; exact hA i hi
      · by_cases e : i = j
        · subst e; rw [pk_us, pk_us, hB hl i hi]
        · rw [pk_un e, pk_un (by omega), hB hl i hi]
      · rw [pk_un (by omega)]; exact hC i y2 hi q1 q2
      · rw [if_neg hl2] at hD ⊢; exact hD
    · have hl2 : y + 1 = Hh := by omega
      have gs : ¬ sh_has W Hh x (nI (y + 1)) := fun q => q.2.2.2 (nI_le (by omega) (by omega))
      unfold gvF gvG mvF mvG
      rw [if_pos g, if_pos g, if_neg gs, if_neg gs]
      refine ⟨hA, fun q => absurd q hl, hC, ?_⟩
      rw [if_pos hl2] at hD ⊢
      rw [s2_upd 24 (by omega), hD]; grind
  · have gs : ¬ sh_has W Hh x (nI (y + 1)) := fun q => g ⟨q.1, q.2.1⟩
    unfold gvF gvG mvF mvG
    rw [if_neg g, if_neg g, if_neg gs, if_neg gs]
    refine ⟨hA, hB, hC, ?_⟩
    rw [hD]; grind
def DT (g ln ik dt : Nat → Int32) (S : Nat → Prop) : Prop := ∀ k, S k → (ln k = 0 → ik k = dt k) ∧ (¬ ln k = 0 → dt k = cD (g k))
theorem pl_step {W Hh jx jy : Nat} {g ln : Nat → Int32} {st : Int32} {s : CS} {t : MS} {S : Nat → Prop} (hW : W ≤ 24) (hH : Hh ≤ 24) (hx : jx < W) (hy : jy < Hh) (h : CR W Hh jy s.1 s.2.1 s.2.2.2 t.1 t.2.2) (hd : DT g ln s.2.2.1 t.2.1 S) :
    CR W Hh jy (cPl W g ln st jx jy s).1 (cPl W g ln st jx jy s).2.1 (cPl W g ln st jx jy s).2.2.2 (mPl W Hh g ln st jx jy t).1 (mPl W Hh g ln st jx jy t).2.2 ∧ DT g ln (cPl W g ln st jx jy s).2.2.1 (mPl W Hh g ln st jx jy t).2.1 (fun k => S k ∨ k = jy * 24 + jx) := by
  have e : s.1 jx = t.1 (jy * 24 + jx) := h.1 jx hx
  by_cases hl : ln (jy * 24 + jx) = 0
  · rw [cPl_t hl, mPl_t hl, ← e]
    refine ⟨CR_below hW hH hy (CR_below hW hH hy (CR_below hW hH hy (CR_here hW hH hy h))), ?_⟩
    intro k hk
    show (ln k = 0 → upd s.2.2.1 (jy * 24 + jx) (cD (g (jy * 24 + jx) + s.1 jx)) k = upd t.2.1 (jy * 24 + jx) (cD (g (jy * 24 + jx) + s.1 jx)) k) ∧ (¬ ln k = 0 → upd t.2.1 (jy * 24 + jx) (cD (g (jy * 24 + jx) + s.1 jx)) k = cD (g k))
    by_cases ek : k = jy * 24 + jx
    · subst ek
      rw [pk_us, pk_us]
      exact ⟨fun _ => rfl, fun q => absurd hl q⟩
    · rw [pk_un ek, pk_un ek]
      exact hd k (hk.elim id (fun q => absurd q ek))
  · rw [cPl_f hl, mPl_f hl]
    refine ⟨⟨h.1, h.2.1, h.2.2.1, ?_⟩, ?_⟩
    · show t.2.2 + t.1 (jy * 24 + jx) = s.2.2.2 + s.1 jx + _
      rw [h.2.2.2, e]; grind
    · intro k hk
      show (ln k = 0 → s.2.2.1 k = upd t.2.1 (jy * 24 + jx) (cD (g (jy * 24 + jx))) k) ∧ (¬ ln k = 0 → upd t.2.1 (jy * 24 + jx) (cD (g (jy * 24 + jx))) k = cD (g k))
      by_cases ek : k = jy * 24 + jx
      · subst ek
        rw [pk_us]
        exact ⟨fun q => absurd q hl, fun _ => rfl⟩
      · rw [pk_un ek]
        exact hd k (hk.elim id (fun q => absurd q ek))
theorem psx_lt {st : Int32} {W i : Nat} (h : i < W) : psx st W i < W := by
  unfold psx; split <;> omega
theorem row_step {W Hh jy : Nat} {g ln : Nat → Int32} {st : Int32} {s : CS} {t : MS} {S : Nat → Prop} (hW : W ≤ 24) (hH : Hh ≤ 24) (hy : jy < Hh) (h : CR W Hh jy s.1 s.2.1 s.2.2.2 t.1 t.2.2) (hd : DT g ln s.2.2.1 t.2.1 S) : ∀ i, i ≤ W →
    CR W Hh jy (rwS W g ln st jy s i).1 (rwS W g ln st jy s i).2.1 (rwS W g ln st jy s i).2.2.2 (mrS W Hh g ln st jy t i).1 (mrS W Hh g ln st jy t i).2.2 ∧ DT g ln (rwS W g ln st jy s i).2.2.1 (mrS W Hh g ln st jy t i).2.1 (fun k => S k ∨ ∃ j, j < i ∧ k = jy * 24 + psx st W j)
  | 0, _ => ⟨h, fun k hk => hd k (hk.elim id (fun ⟨j, q, _⟩ => absurd q (Nat.not_lt_zero _)))⟩
  | i + 1, hi => by
    obtain ⟨h1, h2⟩ := row_step hW hH hy h hd i (by omega)
    rw [rwS, mrS]
    obtain ⟨h3, h4⟩ := pl_step (st := st) hW hH (psx_lt (st := st) (show i < W by omega)) hy h1 h2
    refine ⟨h3, fun k hk => h4 k ?_⟩
    rcases hk with q | ⟨j, q, e⟩
    · exact Or.inl (Or.inl q)
    · by_cases ej : j = i
      · subst ej; exact Or.inr e
      · exact Or.inl (Or.inr ⟨j, by omega, e⟩)
theorem psx_onto {st : Int32} {W x : Nat} (h : x < W) : ∃ j, j < W ∧ psx st W j = x := by
  unfold psx
  by_cases q : st ≤ 0
  · exact ⟨W - 1 - x, by omega, by rw [if_pos q]; omega⟩
  · exact ⟨x, h, by rw [if_neg q]⟩
def RS (W Hh y : Nat) (g ln : Nat → Int32) (s : CS) (t : MS) : Prop :=
  (y < Hh → ∀ x, x < W → s.1 x = t.1 (y * 24 + x)) ∧ (∀ x y2, x < W → y < y2 → y2 < Hh → t.1 (y2 * 24 + x) = 0) ∧ (y < Hh → t.2.2 = s.2.2.2) ∧ (y = Hh → t.2.2 = s.2.2.2 + s2 s.1 24) ∧ DT g ln s.2.2.1 t.2.1 (fun k => ∃ x y2, x < W ∧ y2 < y ∧ k = y2 * 24 + x)
theorem RS_all {W Hh : Nat} {g ln : Nat → Int32} {bk : Int32} {he be ik ca dt : Nat → Int32} (hW : W ≤ 24) (hH : Hh ≤ 24) (hH1 : 1 ≤ Hh) : ∀ y, y ≤ Hh → RS W Hh y g ln (cgS W g ln bk (zr 24 he, be, ik, 0) y) (msS W Hh g ln bk (zr 576 ca, dt, 0) y)
  | 0, _ => by
    refine ⟨fun _ x hx => ?_, fun x y2 hx h1 h2 => ?_, fun _ => rfl, fun q => absurd q (by omega), fun k ⟨x, y2, _, q, _⟩ => absurd q (Nat.not_lt_zero _)⟩
    · show zr 24 he x = zr 576 ca (0 * 24 + x)
      unfold zr; rw [if_pos (by omega), if_pos (by omega)]
    · show zr 576 ca (y2 * 24 + x) = 0
      unfold zr; rw [if_pos (by omega)]
  | y + 1, hy => by
    obtain ⟨q1, q2, q3, q4, q5⟩ := RS_all (bk := bk) (he := he) (be := be) (ik := ik) (ca := ca) (dt := dt) (g := g) (ln := ln) hW hH hH1 y (by omega)
    rw [cgS, msS]
    generalize cgS W g ln bk (zr 24 he, be, ik, 0) y = s at *
    generalize msS W Hh g ln bk (zr 576 ca, dt, 0) y = t at *
    generalize gSt bk y = st at *
    have z0 : ∀ x, x < 24 → zr 24 s.2.1 x = 0 := fun x hx => by unfold zr; rw [if_pos hx]
    have hc : CR W Hh y s.1 (zr 24 s.2.1) s.2.2.2 t.1 t.2.2 := by
      refine ⟨q1 (by omega), fun h x hx => ?_, fun x y2 hx h1 h2 => q2 x y2 hx (by omega) h2, ?_⟩
      · rw [z0 x (by omega), q2 x (y + 1) hx (by omega) h]
      · rw [q3 (by omega), s2_zero 24 z0]
        split <;> grind
    obtain ⟨r1, r2⟩ := row_step (g := g) (ln := ln) (st := st) (s := (s.1, zr 24 s.2.1, s.2.2.1, s.2.2.2)) hW hH (show y < Hh by omega) hc q5 W (Nat.le_refl _)
    unfold cgR
    generalize rwS W g ln st y (s.1, zr 24 s.2.1, s.2.2.1, s.2.2.2) W = s' at *
    generalize mrS W Hh g ln st y t W = t' at *
    obtain ⟨c1, c2, c3, c4⟩ := r1
    refine ⟨fun h x hx => ?_, fun x y2 hx h1 h2 => c3 x y2 hx h1 h2, fun h => ?_, fun h => ?_, fun k ⟨x, y2, hx, h2, e⟩ => ?_⟩
    · show cp24 s'.2.1 s'.1 x = _
      unfold cp24; rw [if_pos (by omega)]; exact c2 h x hx
    · show t'.2.2 = s'.2.2.2
      rw [c4, if_neg (by omega)]; grind
    · show t'.2.2 = s'.2.2.2 + s2 (cp24 s'.2.1 s'.1) 24
      rw [c4, if_pos h, s2_congr 24 (g := cp24 s'.2.1 s'.1) (fun i hi => by unfold cp24; rw [if_pos hi])]
    · refine r2 k ?_
      by_cases ey : y2 = y
      · obtain ⟨j, hj, ej⟩ := psx_onto (st := st) hx
        exact Or.inr ⟨j, hj, by rw [ej, e, ey]⟩
      · exact Or.inl ⟨x, y2, hx, by omega, e⟩
theorem sH_s2 (f : Nat → Int32) (g0 : Int32) : ∀ n, sH f g0 n = g0 + s2 f n
  | 0 => by rw [sH, s2]; grind
  | n + 1 => by rw [sH, s2, sH_s2 f g0 n]; grind
/-- LOST is the same -/
theorem lost_eq {W Hh : Nat} {g ln : Nat → Int32} {bk : Int32} {he be ik ca dt : Nat → Int32} (hW : W ≤ 24) (hH : Hh ≤ 24) (hH1 : 1 ≤ Hh) : sH (cgS W g ln bk (zr 24 he, be, ik, 0) Hh).1 (cgS W g ln bk (zr 24 he, be, ik, 0) Hh).2.2.2 24 = (msS W Hh g ln bk (zr 576 ca, dt, 0) Hh).2.2 := by
  rw [sH_s2, (RS_all (he := he) (be := be) (ik := ik) (ca := ca) (dt := dt) hW hH hH1 Hh (Nat.le_refl _)).2.2.2.1 rfl]
/-- the dots by CARRIED are the same -/
theorem dots1_eq {W Hh : Nat} {g ln : Nat → Int32} {bk : Int32} {he be ik ca dt : Nat → Int32} (hW : W ≤ 24) (hH : Hh ≤ 24) (hH1 : 1 ≤ Hh) {x y : Nat} (hx : x < W) (hy : y < Hh) : dtv g ln (P1 (cgS W g ln bk (zr 24 he, be, ik, 0) Hh).2.2.1) x y = 0 ↔ (msS W Hh g ln bk (zr 576 ca, dt, 0) Hh).2.1 (y * 24 + x) = 0 := by
  have q := (RS_all (g := g) (ln := ln) (bk := bk) (he := he) (be := be) (ik := ik) (ca := ca) (dt := dt) hW hH hH1 Hh (Nat.le_refl _)).2.2.2.2 (y * 24 + x) ⟨x, y, hx, hy, rfl⟩
  by_cases hl : ln (y * 24 + x) = 0
  · rw [← dtv_n (P := P1 _) hl, ← q.1 hl, bI_z]
    unfold P1
    exact Classical.not_not
  · rw [dtv_l hl, q.2 hl]
