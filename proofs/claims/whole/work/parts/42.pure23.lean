/-! counting, the sorted keys: pure -/
noncomputable def nc (P : Nat → Prop) : Nat → Nat
  | 0 => 0
  | k + 1 => @ite _ (P k) (Classical.propDecidable _) (nc P k + 1) (nc P k)
theorem nc_t {P : Nat → Prop} {k : Nat} (h : P k) : nc P (k + 1) = nc P k + 1 := by rw [nc]; exact if_pos h
theorem nc_f {P : Nat → Prop} {k : Nat} (h : ¬ P k) : nc P (k + 1) = nc P k := by rw [nc]; exact if_neg h
theorem nc_congr {P Q : Nat → Prop} : ∀ n, (∀ k, k < n → (P k ↔ Q k)) → nc P n = nc Q n
  | 0, _ => rfl
  | n + 1, h => by
    have ih := nc_congr n (fun k hk => h k (by omega))
    by_cases q : P n
    · rw [nc_t q, nc_t ((h n (by omega)).mp q), ih]
    · rw [nc_f q, nc_f (fun r => q ((h n (by omega)).mpr r)), ih]
theorem nc_le (P : Nat → Prop) : ∀ n, nc P n ≤ n
  | 0 => Nat.le_refl _
  | n + 1 => by
    have ih := nc_le P n
    by_cases q : P n
    · rw [nc_t q]; omega
    · rw [nc_f q]; omega
theorem nc_rm {Q : Nat → Prop} {j : Nat} (hj : Q j) : ∀ n, j < n → nc Q n = nc (fun i => Q i ∧ i ≠ j) n + 1
  | 0, h => absurd h (by omega)
  | n + 1, h => by
    by_cases e : j = n
    · subst e
      rw [nc_t hj, nc_f (P := fun i => Q i ∧ i ≠ j) (fun q => q.2 rfl)]
      rw [nc_congr (P := fun i => Q i ∧ i ≠ j) (Q := Q) j (fun k hk => ⟨fun q => q.1, fun q => ⟨q, by omega⟩⟩)]
    · have ih := nc_rm hj n (by omega)
      by_cases q : Q n
      · rw [nc_t q, nc_t (P := fun i => Q i ∧ i ≠ j) ⟨q, fun r => e r.symm⟩, ih]
      · rw [nc_f q, nc_f (P := fun i => Q i ∧ i ≠ j) (fun r => q r.1), ih]
theorem nc_none {P : Nat → Prop} : ∀ n, (∀ k, k < n → ¬ P k) → nc P n = 0
  | 0, _ => rfl
  | n + 1, h => by rw [nc_f (h n (by omega)), nc_none n (fun k hk => h k (by omega))]
theorem nc_bij {α : Type} {f g : Nat → α} {m : Nat} : ∀ (n : Nat) (P Q : Nat → Prop), (∀ i j, i < n → j < n → P i → P j → f i = f j → i = j) → (∀ i j, i < m → j < m → Q i → Q j → g i = g j → i = j) → (∀ i, i < n → P i → ∃ j, j < m ∧ Q j ∧ g j = f i) → (∀ j, j < m → Q j → ∃ i, i < n ∧ P i ∧ g j = f i) → nc P n = nc Q m
  | 0, P, Q, _, _, _, h4 => by
    rw [nc_none (P := Q) m (fun k hk q => by obtain ⟨i, hi, _⟩ := h4 k hk q; omega)]
    rfl
  | n + 1, P, Q, h1, h2, h3, h4 => by
    by_cases q : P n
    · obtain ⟨j, hj, qj, ej⟩ := h3 n (by omega) q
      rw [nc_t q, nc_rm qj m hj]
      congr 1
      refine nc_bij n P (fun i => Q i ∧ i ≠ j) (fun a b ha hb => h1 a b (by omega) (by omega)) (fun a b ha hb pa pb => h2 a b ha hb pa.1 pb.1) ?_ ?_
      · intro i hi pi
        obtain ⟨k, hk, qk, ek⟩ := h3 i (by omega) pi
        refine ⟨k, hk, ⟨qk, fun e => ?_⟩, ek⟩
        subst e
        have := h1 i n (by omega) (by omega) pi q (ek.symm.trans ej)
        omega
      · intro k hk qk
        obtain ⟨i, hi, pi, ei⟩ := h4 k hk qk.1
        refine ⟨i, ?_, pi, ei⟩
        rcases Nat.lt_or_ge i n with w | w
        · exact w
        · exfalso
          have e : i = n := by omega
          subst e
          exact qk.2 (h2 k j hk hj qk.1 qj (ei.trans ej.symm))
    · rw [nc_f q]
      refine nc_bij n P Q (fun a b ha hb => h1 a b (by omega) (by omega)) h2 (fun i hi => h3 i (by omega)) ?_
      intro k hk qk
      obtain ⟨i, hi, pi, ei⟩ := h4 k hk qk
      refine ⟨i, ?_, pi, ei⟩
      rcases Nat.lt_or_ge i n with w | w
      · exact w
      · exact absurd (show P n by rw [show n = i by omega]; exact pi) q
theorem nc_cut {P : Nat → Prop} {b : Nat} : ∀ n, b ≤ n → (∀ i, i < n → (P i ↔ i < b)) → nc P n = b
  | 0, hb, _ => by have : b = 0 := by omega
                   rw [this]; rfl
  | n + 1, hb, h => by
    by_cases e : b = n + 1
    · rw [nc_t ((h n (by omega)).mpr (by omega))]
      have : nc P n = nc (fun i => i < n) n := nc_congr n (fun k hk => ⟨fun _ => hk, fun _ => (h k (by omega)).mpr (by omega)⟩)
      have h2 : nc (fun i => i < n) n = n := by
        have : ∀ k, k ≤ n → nc (fun i => i < n) k = k := by
          intro k
          induction k with
          | zero => intro _; rfl
          | succ k ih => intro hk; rw [nc_t (P := fun i => i < n) (show k < n by omega), ih (by omega)]
        exact this n (Nat.le_refl _)
      omega
    · rw [nc_f (fun q => absurd ((h n (by omega)).mp q) (by omega))]
      exact nc_cut n (by omega) (fun i hi => h i (by omega))
/-- the keys rise -/
def SK (s : (Nat → Int32) × Nat) : Prop := ∀ i j, i < j → j < s.2 → s.1 i < s.1 j
def MK (s : (Nat → Int32) × Nat) (x : Int32) : Prop := ∃ i, i < s.2 ∧ s.1 i = x
theorem i32lt {x y : Int32} : x < y ↔ x.toInt < y.toInt := Int32.lt_iff_toInt_lt
theorem lp_2 : ∀ k, k < 7 → lp k = 2 * lp (k + 1) := by decide
theorem SK_le {s : (Nat → Int32) × Nat} (h : SK s) {i j : Nat} (hij : i ≤ j) (hj : j < s.2) : (s.1 i).toInt ≤ (s.1 j).toInt := by
  rcases Nat.lt_or_ge i j with q | q
  · have := i32lt.mp (h i j q hj); omega
  · rw [show i = j by omega]; exact Int.le_refl _
theorem ub_inv {ky : Nat → Int32} {cn : Nat} {key : Int32} (hs : SK (ky, cn)) (hc : cn ≤ 128) : ∀ k, k ≤ 8 → (∀ i, i < ub ky cn key k → (ky i).toInt ≤ key.toInt) ∧ (∀ i, (if k = 0 then 255 else ub ky cn key k + (lp (k - 1) - 1)) ≤ i → i < cn → key.toInt < (ky i).toInt)
  | 0, _ => ⟨fun i hi => absurd hi (by rw [ub]; omega), fun i hi hc2 => by rw [if_pos rfl] at hi; omega⟩
  | k + 1, hk => by
    obtain ⟨h1, h2⟩ := ub_inv (key := key) hs hc k (by omega)
    have hl := lp_pos k (by omega)
    have hb := ub_le ky cn key k
    have h3 : ∀ i, ub ky cn key k + (2 * lp k - 1) ≤ i → i < cn → key.toInt < (ky i).toInt := by
      intro i hi hc2
      refine h2 i ?_ hc2
      by_cases e : k = 0
      · subst e
        rw [if_pos rfl]
        have : lp 0 = 128 := by decide
        omega
      · rw [if_neg e]
        have := lp_2 (k - 1) (by omega)
        rw [Nat.sub_add_cancel (by omega : 1 ≤ k)] at this
        omega
    rw [if_neg (by omega), Nat.add_sub_cancel]
    by_cases q1 : cn < ub ky cn key k + lp k
    · rw [ub_a q1]
      exact ⟨h1, fun i hi hc2 => absurd hi (by omega)⟩
    · by_cases q2 : key < ky (ub ky cn key k + lp k - 1)
      · rw [ub_b q2]
        refine ⟨h1, fun i hi hc2 => ?_⟩
        have := SK_le hs (show ub ky cn key k + lp k - 1 ≤ i by omega) hc2
        have q3 := i32lt.mp q2
        exact Int.lt_of_lt_of_le q3 this
      · rw [ub_c (by omega) q2]
        refine ⟨fun i hi => ?_, fun i hi hc2 => h3 i (by omega) hc2⟩
        have := SK_le hs (show i ≤ ub ky cn key k + lp k - 1 by omega) (show ub ky cn key k + lp k - 1 < cn by omega)
        have q3 : ¬ key.toInt < (ky (ub ky cn key k + lp k - 1)).toInt := fun r => q2 (i32lt.mpr r)
        have q4 : (ky i).toInt ≤ (ky (ub ky cn key k + lp k - 1)).toInt := this
        omega
theorem ub_spec {ky : Nat → Int32} {cn : Nat} {key : Int32} (hs : SK (ky, cn)) (hc : cn ≤ 128) : (∀ i, i < ub ky cn key 8 → (ky i).toInt ≤ key.toInt) ∧ (∀ i, ub ky cn key 8 ≤ i → i < cn → key.toInt < (ky i).toInt) := by
  obtain ⟨h1, h2⟩ := ub_inv (key := key) hs hc 8 (by omega)
  refine ⟨h1, fun i hi => h2 i ?_⟩
  have : lp 7 = 1 := by decide
  rw [if_neg (by omega)]
  show ub ky cn key 8 + (lp 7 - 1) ≤ i
  omega
theorem ub_nc {ky : Nat → Int32} {cn : Nat} {key : Int32} (hs : SK (ky, cn)) (hc : cn ≤ 128) : nc (fun i => (ky i).toInt ≤ key.toInt) cn = ub ky cn key 8 := by
  obtain ⟨h1, h2⟩ := ub_spec (key := key) hs hc
  refine nc_cut cn (ub_le _ _ _ _) (fun i hi => ⟨fun q => ?_, fun q => h1 i q⟩)
  rcases Nat.lt_or_ge i (ub ky cn key 8) with w | w
  · exact w
  · have := h2 i w hi; omega
theorem insK_at {ky : Nat → Int32} {t cn : Nat} {key : Int32} (ht : t ≤ cn) (j : Nat) : insK ky t cn key j = if j = t then key else if t < j ∧ j ≤ cn then ky (j - 1) else ky j := by
  unfold insK
  by_cases e : j = t
  · subst e; rw [pk_us, if_pos rfl]
  · rw [pk_un e, if_neg e]
    unfold shf
    rw [show cn - (cn - t) = t by omega]
theorem kp_ok {key : Int32} {s : (Nat → Int32) × Nat} (hs : SK s) (hc : s.2 ≤ 128) : SK (kp key s) ∧ ∀ x, MK (kp key s) x ↔ MK s x ∨ x = key := by
  obtain ⟨ky, cn⟩ := s
  obtain ⟨h1, h2⟩ := ub_spec (key := key) hs hc
  have hb := ub_le ky cn key 8
  by_cases h : kwn ky cn key
  · rw [kp_t (s := (ky, cn)) h]
    refine ⟨hs, fun x => ⟨Or.inl, fun q => q.elim id (fun e => ?_)⟩⟩
    exact ⟨ub ky cn key 8 - 1, by have := h.1; show _ < cn; omega, by rw [e]; exact h.2⟩
  · rw [kp_f (s := (ky, cn)) h]
    have hlt : ∀ i, i < ub ky cn key 8 → (ky i).toInt < key.toInt := by
      intro i hi
      have a1 : (ky i).toInt ≤ (ky (ub ky cn key 8 - 1)).toInt := SK_le hs (show i ≤ ub ky cn key 8 - 1 by omega) (show ub ky cn key 8 - 1 < cn by omega)
      have a2 := h1 (ub ky cn key 8 - 1) (by omega)
      have a3 : (ky (ub ky cn key 8 - 1)).toInt ≠ key.toInt := fun e => h ⟨by omega, Int32.toInt_inj.mp e⟩
      omega
    show SK (insK ky (ub ky cn key 8) cn key, cn + 1) ∧ ∀ x, MK (insK ky (ub ky cn key 8) cn key, cn + 1) x ↔ MK (ky, cn) x ∨ x = key
    generalize ub ky cn key 8 = t at *
    refine ⟨?_, ?_⟩
    · intro i j hij hj
      have hj : j < cn + 1 := hj
      show insK ky t cn key i < insK ky t cn key j
      rw [insK_at hb, insK_at hb]
      rw [i32lt]
      by_cases e1 : i = t
      · rw [if_pos e1, if_neg (by omega), if_pos (by omega)]
        exact h2 (j - 1) (by omega) (by omega)
      · rw [if_neg e1]
        by_cases e2 : t < i
        · rw [if_pos (by omega), if_neg (by omega), if_pos (by omega)]
          exact i32lt.mp (hs (i - 1) (j - 1) (by omega) (show j - 1 < cn by omega))
        · rw [if_neg (by omega)]
          by_cases e3 : j = t
          · rw [if_pos e3]; exact hlt i (by omega)
          · rw [if_neg e3]
            by_cases e4 : t < j
            · rw [if_pos (by omega)]
              by_cases e5 : i < j - 1
              · exact i32lt.mp (hs i (j - 1) e5 (show j - 1 < cn by omega))
              · exfalso; omega
            · rw [if_neg (by omega)]
              exact i32lt.mp (hs i j hij (show j < cn by omega))
    · intro x
      constructor
      · rintro ⟨i, hi, e⟩
        have hi : i < cn + 1 := hi
        have e : insK ky t cn key i = x := e
        rw [insK_at hb] at e
        by_cases e1 : i = t
        · rw [if_pos e1] at e; exact Or.inr e.symm
        · rw [if_neg e1] at e
          by_cases e2 : t < i ∧ i ≤ cn
          · rw [if_pos e2] at e; exact Or.inl ⟨i - 1, show i - 1 < cn by omega, e⟩
          · rw [if_neg e2] at e; exact Or.inl ⟨i, show i < cn by omega, e⟩
      · rintro (⟨i, hi, e⟩ | e)
        · have hi : i < cn := hi
          have e : ky i = x := e
          by_cases q : i < t
          · refine ⟨i, show i < cn + 1 by omega, ?_⟩
            show insK ky t cn key i = x
            rw [insK_at hb, if_neg (by omega), if_neg (by omega)]; exact e
          · refine ⟨i + 1, show i + 1 < cn + 1 by omega, ?_⟩
            show insK ky t cn key (i + 1) = x
            rw [insK_at hb, if_neg (by omega), if_pos (by omega), Nat.add_sub_cancel]; exact e
        · refine ⟨t, show t < cn + 1 by omega, ?_⟩
          show insK ky t cn key t = x
          rw [insK_at hb, if_pos rfl]; exact e.symm
theorem kpi_ok {K : Nat → Nat → Int32} {x : Nat} {s : (Nat → Int32) × Nat} (hs : SK s) : ∀ y, s.2 + y ≤ 128 → SK (kpi K x s y) ∧ ∀ z, MK (kpi K x s y) z ↔ MK s z ∨ ∃ j, j < y ∧ z = K x j
  | 0, _ => ⟨hs, fun z => ⟨Or.inl, fun q => q.elim id (fun ⟨j, hj, _⟩ => absurd hj (by omega))⟩⟩
  | y + 1, h => by
    obtain ⟨h1, h2⟩ := kpi_ok (K := K) (x := x) hs y (by omega)
    have hb := kpi_le K x s y
    obtain ⟨h3, h4⟩ := kp_ok (key := K x y) h1 (by omega)
    refine ⟨h3, fun z => ?_⟩
    show MK (kp (K x y) (kpi K x s y)) z ↔ _
    rw [h4, h2]
    constructor
    · rintro ((q | ⟨j, hj, e⟩) | e)
      · exact Or.inl q
      · exact Or.inr ⟨j, by omega, e⟩
      · exact Or.inr ⟨y, by omega, e⟩
    · rintro (q | ⟨j, hj, e⟩)
      · exact Or.inl (Or.inl q)
      · by_cases ej : j = y
        · subst ej; exact Or.inr e
        · exact Or.inl (Or.inr ⟨j, by omega, e⟩)
theorem kpo_ok {K : Nat → Nat → Int32} {per : Nat} {s : (Nat → Int32) × Nat} (hs : SK s) : ∀ x, s.2 + x * per ≤ 128 → SK (kpo K per s x) ∧ ∀ z, MK (kpo K per s x) z ↔ MK s z ∨ ∃ i j, i < x ∧ j < per ∧ z = K i j
  | 0, _ => ⟨hs, fun z => ⟨Or.inl, fun q => q.elim id (fun ⟨i, j, hi, _⟩ => absurd hi (by omega))⟩⟩
  | x + 1, h => by
    rw [Nat.succ_mul] at h
    obtain ⟨h1, h2⟩ := kpo_ok (K := K) (per := per) hs x (by omega)
    have hb := kpo_le K per s x
    obtain ⟨h3, h4⟩ := kpi_ok (K := K) (x := x) h1 per (by omega)
    refine ⟨h3, fun z => ?_⟩
    show MK (kpi K x (kpo K per s x) per) z ↔ _
    rw [h4, h2]
    constructor
    · rintro ((q | ⟨i, j, hi, hj, e⟩) | ⟨j, hj, e⟩)
      · exact Or.inl q
      · exact Or.inr ⟨i, j, by omega, hj, e⟩
      · exact Or.inr ⟨x, j, by omega, hj, e⟩
    · rintro (q | ⟨i, j, hi, hj, e⟩)
      · exact Or.inl (Or.inl q)
      · by_cases ej : i = x
        · subst ej; exact Or.inr ⟨j, hj, e⟩
        · exact Or.inl (Or.inr ⟨i, j, by omega, hj, e⟩)
theorem kpo_new {K : Nat → Nat → Int32} {per g : Nat} {ky : Nat → Int32} (h : g * per ≤ 128) : SK (kpo K per (ky, 0) g) ∧ (∀ z, MK (kpo K per (ky, 0) g) z ↔ ∃ i j, i < g ∧ j < per ∧ z = K i j) ∧ (kpo K per (ky, 0) g).2 ≤ 128 := by
  have h0 : SK ((ky, 0) : (Nat → Int32) × Nat) := fun i j _ hj => absurd hj (Nat.not_lt_zero _)
  obtain ⟨h1, h2⟩ := kpo_ok (K := K) (per := per) h0 g (by show 0 + g * per ≤ 128; omega)
  refine ⟨h1, fun z => (h2 z).trans ⟨fun q => q.elim (fun ⟨i, hi, _⟩ => absurd hi (Nat.not_lt_zero _)) id, Or.inr⟩, ?_⟩
  have := kpo_le K per ((ky, 0) : (Nat → Int32) × Nat) g
  have e : ((ky, 0) : (Nat → Int32) × Nat).2 = 0 := rfl
  omega
