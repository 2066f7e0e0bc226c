/-! sums in two orders; counts of the whole array and of the picture -/
def s2 (f : Nat → Int32) : Nat → Int32
  | 0 => 0
  | n + 1 => s2 f n + f n
theorem s2_congr {f g : Nat → Int32} : ∀ n, (∀ i, i < n → f i = g i) → s2 f n = s2 g n
  | 0, _ => rfl
  | n + 1, h => by rw [s2, s2, s2_congr n (fun i hi => h i (by omega)), h n (by omega)]
theorem s2_add (f g : Nat → Int32) : ∀ n, s2 (fun i => f i + g i) n = s2 f n + s2 g n
  | 0 => by rw [s2, s2, s2]; rfl
  | n + 1 => by rw [s2, s2, s2, s2_add f g n]; grind
theorem s2_zero {f : Nat → Int32} : ∀ n, (∀ i, i < n → f i = 0) → s2 f n = 0
  | 0, _ => rfl
  | n + 1, h => by rw [s2, s2_zero n (fun i hi => h i (by omega)), h n (by omega)]; rfl
theorem s2_swap (f : Nat → Nat → Int32) (a : Nat) : ∀ b, s2 (fun i => s2 (f i) b) a = s2 (fun j => s2 (fun i => f i j) a) b
  | 0 => by rw [s2]; exact s2_zero a (fun i _ => rfl)
  | b + 1 => by
    rw [s2, ← s2_swap f a b, ← s2_add]
    exact s2_congr a (fun i _ => rfl)
theorem s2_app (f : Nat → Int32) (a : Nat) : ∀ b, s2 f (a + b) = s2 f a + s2 (fun j => f (a + j)) b
  | 0 => by rw [s2, Nat.add_zero]; grind
  | b + 1 => by
    rw [← Nat.add_assoc, s2, s2, s2_app f a b]; grind
theorem s2_rows (f : Nat → Int32) (w : Nat) : ∀ h, s2 f (h * w) = s2 (fun y => s2 (fun x => f (y * w + x)) w) h
  | 0 => by rw [Nat.zero_mul]; rfl
  | h + 1 => by rw [Nat.succ_mul, s2_app, s2_rows f w h, s2]
theorem rI_s2 (bf : Nat → Nat → Int32) (y x0 : Nat) (s0 : Int32) : ∀ i, rI bf y x0 s0 i = s0 + s2 (fun i => if bf (x0 + i) y = 0 then 0 else 1) i
  | 0 => by rw [rI, s2]; grind
  | i + 1 => by
    rw [rI, s2, rI_s2 bf y x0 s0 i]
    by_cases h : bf (x0 + i) y = 0
    · rw [if_pos h, if_pos h]; grind
    · rw [if_neg h, if_neg h]; grind
theorem rO_s2 (bf : Nat → Nat → Int32) (x0 y0 bw : Nat) : ∀ j, rO bf x0 y0 bw j = s2 (fun j => s2 (fun i => if bf (x0 + i) (y0 + j) = 0 then 0 else 1) bw) j
  | 0 => rfl
  | j + 1 => by rw [rO, rI_s2, s2, rO_s2 bf x0 y0 bw j]
theorem dsI_s2 (dt : Nat → Int32) (jx jy i : Nat) (s0 : Int32) : ∀ j, dsI dt jx jy i s0 j = s0 + s2 (fun j => if dt ((jy + j) * 24 + (jx + i)) = 0 then 0 else 1) j
  | 0 => by rw [dsI, s2]; grind
  | j + 1 => by
    rw [dsI, s2, dsI_s2 dt jx jy i s0 j]
    by_cases h : dt ((jy + j) * 24 + (jx + i)) = 0
    · rw [if_pos h, if_pos h]; grind
    · rw [if_neg h, if_neg h]; grind
theorem dsO_s2 (dt : Nat → Int32) (jx jy bh : Nat) : ∀ i, dsO dt jx jy bh i = s2 (fun i => s2 (fun j => if dt ((jy + j) * 24 + (jx + i)) = 0 then 0 else 1) bh) i
  | 0 => rfl
  | i + 1 => by rw [dsO, dsI_s2, s2, dsO_s2 dt jx jy bh i]
/-- the class counts by rows, the reference by columns -/
theorem rO_dsO {bf : Nat → Nat → Int32} {dt : Nat → Int32} {jx jy bw bh : Nat} (h : ∀ x y, jx ≤ x → x < jx + bw → jy ≤ y → y < jy + bh → (bf x y = 0 ↔ dt (y * 24 + x) = 0)) : rO bf jx jy bw bh = dsO dt jx jy bh bw := by
  rw [rO_s2, dsO_s2, s2_swap]
  refine s2_congr _ (fun i hi => s2_congr _ (fun j hj => ?_))
  have q := h (jx + i) (jy + j) (by omega) (by omega) (by omega) (by omega)
  by_cases c : bf (jx + i) (jy + j) = 0
  · rw [if_pos c, if_pos (q.mp c)]
  · rw [if_neg c, if_neg (fun k => c (q.mpr k))]
theorem dkI_at {bf : Nat → Nat → Int32} {y : Nat} {f : Nat → Int32} : ∀ n x, x < n → dkI bf y f n (y * 24 + x) = bf x y
  | 0, _, h => absurd h (Nat.not_lt_zero _)
  | n + 1, x, h => by
    rw [dkI]
    by_cases e : x = n
    · subst e; rw [pk_us]
    · rw [pk_un (by omega)]; exact dkI_at n x (by omega)
theorem dkI_out {bf : Nat → Nat → Int32} {y k : Nat} {f : Nat → Int32} : ∀ n, (∀ x, x < n → k ≠ y * 24 + x) → dkI bf y f n k = f k
  | 0, _ => rfl
  | n + 1, h => by
    rw [dkI, pk_un (h n (by omega))]; exact dkI_out n (fun x hx => h x (by omega))
theorem dkO_at {bf : Nat → Nat → Int32} {W : Nat} {f : Nat → Int32} (hW : W ≤ 24) : ∀ n y x, y < n → x < W → dkO bf W f n (y * 24 + x) = bf x y
  | 0, _, _, h, _ => absurd h (Nat.not_lt_zero _)
  | n + 1, y, x, h, hx => by
    rw [dkO]
    by_cases e : y = n
    · subst e; exact dkI_at W x hx
    · rw [dkI_out W (fun x2 hx2 => by omega)]
      exact dkO_at hW n y x (by omega) hx
theorem cL_s2 (f : Nat → Int32) : ∀ k, cL f k = s2 (fun i => if f i = 0 then 0 else 1) k
  | 0 => rfl
  | k + 1 => by
    rw [cL, s2, cL_s2 f k]
    by_cases h : f k = 0
    · rw [if_pos h, if_pos h]; grind
    · rw [if_neg h, if_neg h]
theorem sG_s2 (g ln : Nat → Int32) : ∀ k, sG g ln k = s2 (fun i => if ln i = 0 then g i else 0) k
  | 0 => rfl
  | k + 1 => by
    rw [sG, s2, sG_s2 g ln k]
    by_cases h : ln k = 0
    · rw [if_pos h, if_pos h]
    · rw [if_neg h, if_neg h]; grind
theorem l2I_s2 (ln : Nat → Int32) (y : Nat) (s0 : Int32) : ∀ x, l2I ln y s0 x = s0 + s2 (fun x => if ln (y * 24 + x) = 0 then 0 else 1) x
  | 0 => by rw [l2I, s2]; grind
  | x + 1 => by
    rw [l2I, s2, l2I_s2 ln y s0 x]
    by_cases h : ln (y * 24 + x) = 0
    · rw [if_pos h, if_pos h]; grind
    · rw [if_neg h, if_neg h]; grind
theorem l2O_s2 (ln : Nat → Int32) (W : Nat) : ∀ y, l2O ln W y = s2 (fun y => s2 (fun x => if ln (y * 24 + x) = 0 then 0 else 1) W) y
  | 0 => rfl
  | y + 1 => by rw [l2O, l2I_s2, s2, l2O_s2 ln W y]
theorem l3I_s2 (g ln : Nat → Int32) (y : Nat) (s0 : Int32) : ∀ x, l3I g ln y s0 x = s0 + s2 (fun x => if ln (y * 24 + x) = 0 then g (y * 24 + x) else 0) x
  | 0 => by rw [l3I, s2]; grind
  | x + 1 => by
    rw [l3I, s2, l3I_s2 g ln y s0 x]
    by_cases h : ln (y * 24 + x) = 0
    · rw [if_pos h, if_pos h]; grind
    · rw [if_neg h, if_neg h]; grind
theorem l3O_s2 (g ln : Nat → Int32) (W : Nat) : ∀ y, l3O g ln W y = s2 (fun y => s2 (fun x => if ln (y * 24 + x) = 0 then g (y * 24 + x) else 0) W) y
  | 0 => rfl
  | y + 1 => by rw [l3O, l3I_s2, s2, l3O_s2 g ln W y]
theorem s2_cut {f : Nat → Int32} {a n : Nat} (h : a ≤ n) (h0 : ∀ i, a ≤ i → i < n → f i = 0) : s2 f n = s2 f a := by
  obtain ⟨b, rfl⟩ : ∃ b, n = a + b := ⟨n - a, by omega⟩
  rw [s2_app, s2_zero b (fun i hi => h0 (a + i) (by omega) (by omega))]
  grind
/-- outside the picture nothing counts -/
theorem s2_pic {f : Nat → Int32} {W Hh : Nat} (hW : W ≤ 24) (hH : Hh ≤ 24) (h0 : ∀ x y, x < 24 → y < 24 → ¬ (x < W ∧ y < Hh) → f (y * 24 + x) = 0) : s2 f 576 = s2 (fun y => s2 (fun x => f (y * 24 + x)) W) Hh := by
  have e : s2 f (24 * 24) = s2 (fun y => s2 (fun x => f (y * 24 + x)) 24) 24 := s2_rows f 24 24
  have e2 : s2 f 576 = s2 (fun y => s2 (fun x => f (y * 24 + x)) 24) 24 := e
  rw [e2, s2_cut (f := fun y => s2 (fun x => f (y * 24 + x)) 24) hH (fun y h1 h2 => s2_zero 24 (fun x hx => h0 x y hx h2 (by omega)))]
  refine s2_congr Hh (fun y hy => ?_)
  exact s2_cut (f := fun x => f (y * 24 + x)) hW (fun x h1 h2 => h0 x y h2 (by omega) (by omega))
theorem cnt2_eq {ln : Nat → Int32} {W Hh : Nat} (hW : W ≤ 24) (hH : Hh ≤ 24) (h0 : ∀ x y, x < 24 → y < 24 → ¬ (x < W ∧ y < Hh) → ln (y * 24 + x) = 0) : cL ln 576 = l2O ln W Hh := by
  rw [cL_s2, l2O_s2]
  exact s2_pic (f := fun i => if ln i = 0 then 0 else 1) hW hH (fun x y hx hy q => if_pos (h0 x y hx hy q))
theorem cnt3_eq {g ln : Nat → Int32} {W Hh : Nat} (hW : W ≤ 24) (hH : Hh ≤ 24) (h0 : ∀ x y, x < 24 → y < 24 → ¬ (x < W ∧ y < Hh) → g (y * 24 + x) = 0) : sG g ln 576 = l3O g ln W Hh := by
  rw [sG_s2, l3O_s2]
  refine s2_pic (f := fun i => if ln i = 0 then g i else 0) hW hH (fun x y hx hy q => ?_)
  show (if ln (y * 24 + x) = 0 then g (y * 24 + x) else 0) = 0
  rw [h0 x y hx hy q]
  split <;> rfl
