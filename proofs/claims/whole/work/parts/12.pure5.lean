/-! COST, and what an exchange is worth: pure -/
def mxI (a b : Int32) : Int32 := if a < b then b else a
theorem mxI_N {u v : Nat} (hu : u < 2 ^ 31) (hv : v < 2 ^ 31) : mxI (nI u) (nI v) = nI (max u v) := by
  unfold mxI
  by_cases h : u < v
  · rw [if_pos ((nI_ltI hu hv).mpr h), Nat.max_eq_right (by omega)]
  · rw [if_neg (fun q => h ((nI_ltI hu hv).mp q)), Nat.max_eq_left (by omega)]
theorem mnI_N {u v : Nat} (hu : u < 2 ^ 31) (hv : v < 2 ^ 31) : mnI (nI u) (nI v) = nI (min u v) := by
  unfold mnI
  by_cases h : v < u
  · rw [if_pos ((nI_ltI hv hu).mpr h), Nat.min_eq_right (by omega)]
  · rw [if_neg (fun q => h ((nI_ltI hv hu).mp q)), Nat.min_eq_left (by omega)]
theorem mxI_comm (a b : Int32) : mxI a b = mxI b a := by
  unfold mxI
  by_cases h1 : a < b
  · have h2 : ¬ b < a := by rw [Int32.lt_iff_toInt_lt] at h1 ⊢; omega
    rw [if_pos h1, if_neg h2]
  · by_cases h2 : b < a
    · rw [if_neg h1, if_pos h2]
    · rw [if_neg h1, if_neg h2]
      rw [Int32.lt_iff_toInt_lt] at h1 h2
      exact i32_eq (by omega)
def abI (x : Int32) : Int32 := if 0 ≤ x then x else 0 - x
theorem abI_nd {a b : Nat} (ha : a < 64) (hb : b < 64) : abI (nI a - nI b) = nI (adf a b) := nabs ha hb
def spn (nn p : Nat) : Nat := p / nn * 15 + p % nn
def nrp (nn p q : Nat) : Int32 := nrv nn (nI (adf (p % nn) (q % nn))) (nI (adf (p / nn) (q / nn)))
def SPok (nn : Nat) (sp : Nat → Int32) : Prop := ∀ p, p < nn * nn → sp p = nI (spn nn p)
def NEok (nn : Nat) (ne : Nat → Int32) : Prop := ∀ p q, p < nn * nn → q < nn * nn → ne (112 + spn nn q - spn nn p) = nrp nn p q
theorem nn_pos {nn p : Nat} (hp : p < nn * nn) : 0 < nn := by
  rcases Nat.eq_zero_or_pos nn with h | h
  · subst h; simp at hp
  · exact h
theorem spn_le {nn p : Nat} (h2 : nn ≤ 8) (hp : p < nn * nn) : spn nn p ≤ 112 := by
  have h0 := nn_pos hp
  have h1 : p / nn < nn := Nat.div_lt_of_lt_mul hp
  have h3 : p % nn < nn := Nat.mod_lt _ h0
  unfold spn
  generalize p / nn = a at *
  generalize p % nn = b at *
  omega
theorem sp_ix {a b : Nat} (hb : b ≤ 112) : (112 : Int32) + nI a - nI b = nI (112 + a - b) := by
  rw [show (112 : Int32) = nI 112 from rfl, nI_add, pk_sub (by omega)]
def nrN (nn a b : Nat) : Nat := 1000 / (min a (nn - a) * min a (nn - a) + min b (nn - b) * min b (nn - b))
theorem min_le8 {nn a : Nat} (h : nn ≤ 8) : min a (nn - a) ≤ 8 := by omega
theorem nsq_N {nn a b : Nat} (h : nn ≤ 8) (ha : a < nn) (hb : b < nn) : nsq nn (nI a) (nI b) = nI (min a (nn - a) * min a (nn - a) + min b (nn - b) * min b (nn - b)) := by
  unfold nsq
  rw [pk_sub (by omega), pk_sub (by omega), mnI_N (by omega) (by omega), mnI_N (by omega) (by omega), pk_mul, pk_mul, nI_add]
theorem nsq_small {nn a b : Nat} (h : nn ≤ 8) : min a (nn - a) * min a (nn - a) + min b (nn - b) * min b (nn - b) ≤ 128 := by
  have h1 := min_le8 (a := a) h
  have h2 := min_le8 (a := b) h
  have h3 := Nat.mul_le_mul h1 h1
  have h4 := Nat.mul_le_mul h2 h2
  omega
theorem nrv_N {nn a b : Nat} (h : nn ≤ 8) (ha : a < nn) (hb : b < nn) : nrv nn (nI a) (nI b) = nI (nrN nn a b) := by
  have hs := nsq_small (a := a) (b := b) h
  unfold nrv nrN
  rw [nsq_N h ha hb]
  generalize min a (nn - a) * min a (nn - a) + min b (nn - b) * min b (nn - b) = q at *
  by_cases h1 : 1 ≤ q
  · have h3 : (1 : Int32) ≤ nI q := nI_le (a := 1) h1 (by omega)
    rw [if_pos h3, show (1000 : Int32) = nI 1000 from rfl, pk_div (by decide) (by omega) (by omega)]
  · have h2 : q = 0 := by omega
    subst h2
    rw [if_neg (by decide)]
    rfl
theorem adf_lt {a b n : Nat} (ha : a < n) (hb : b < n) : adf a b < n := by unfold adf; split <;> omega
theorem nrp_N {nn p q : Nat} (h : nn ≤ 8) (hp : p < nn * nn) (hq : q < nn * nn) : nrp nn p q = nI (nrN nn (adf (p % nn) (q % nn)) (adf (p / nn) (q / nn))) := by
  have h0 := nn_pos hp
  exact nrv_N h (adf_lt (Nat.mod_lt _ h0) (Nat.mod_lt _ h0)) (adf_lt (Nat.div_lt_of_lt_mul hp) (Nat.div_lt_of_lt_mul hq))
theorem nrN_le (nn a b : Nat) : nrN nn a b ≤ 1000 := Nat.div_le_self _ _
theorem nsq_ge1 {nn p q : Nat} (h : nn ≤ 8) (hp : p < nn * nn) (hq : q < nn * nn) (hne : p ≠ q) : (1 : Int32) ≤ nsq nn (nI (adf (p % nn) (q % nn))) (nI (adf (p / nn) (q / nn))) := by
  have h0 := nn_pos hp
  have e1 := Nat.mod_lt p h0
  have e2 := Nat.mod_lt q h0
  have e3 : p / nn < nn := Nat.div_lt_of_lt_mul hp
  have e4 : q / nn < nn := Nat.div_lt_of_lt_mul hq
  have a1 := adf_lt e1 e2
  have a2 := adf_lt e3 e4
  rw [nsq_N h a1 a2]
  have hs := nsq_small (a := adf (p % nn) (q % nn)) (b := adf (p / nn) (q / nn)) h
  refine nI_le (a := 1) ?_ (by omega)
  have hd : p % nn ≠ q % nn ∨ p / nn ≠ q / nn := by
    rcases Classical.em (p % nn = q % nn) with c1 | c1
    · right
      intro c2
      have d1 := Nat.div_add_mod p nn
      have d2 := Nat.div_add_mod q nn
      rw [c1, c2] at d1
      exact hne (d1.symm.trans d2)
    · exact Or.inl c1
  rcases hd with c | c
  · have c1 : 1 ≤ adf (p % nn) (q % nn) := by unfold adf; split <;> omega
    have c2 : 1 ≤ min (adf (p % nn) (q % nn)) (nn - adf (p % nn) (q % nn)) := by omega
    have c3 := Nat.mul_le_mul c2 c2
    omega
  · have c1 : 1 ≤ adf (p / nn) (q / nn) := by
      generalize p / nn = u at *
      generalize q / nn = v at *
      unfold adf; split <;> omega
    have c2 : 1 ≤ min (adf (p / nn) (q / nn)) (nn - adf (p / nn) (q / nn)) := by omega
    have c3 := Nat.mul_le_mul c2 c2
    omega
theorem nrp_div {nn p q : Nat} (h : nn ≤ 8) (hp : p < nn * nn) (hq : q < nn * nn) (hne : p ≠ q) : (1000 : Int32) / nsq nn (nI (adf (p % nn) (q % nn))) (nI (adf (p / nn) (q / nn))) = nrp nn p q := by
  unfold nrp nrv
  rw [if_pos (nsq_ge1 h hp hq hne)]
theorem adf_comm (a b : Nat) : adf a b = adf b a := by unfold adf; split <;> split <;> omega
theorem nrp_comm (nn p q : Nat) : nrp nn p q = nrp nn q p := by unfold nrp; rw [adf_comm (p % nn), adf_comm (p / nn)]
def csT (nn : Nat) (nu : Nat → Int32) (p q : Nat) : Int64 := (nI (nn * nn) - mxI (nu q) (nu p)).toInt64 * (nrp nn p q).toInt64
def csI (nn : Nat) (nu : Nat → Int32) (p : Nat) (s0 : Int64) : Nat → Int64
  | 0 => s0
  | q + 1 => csI nn nu p s0 q + csT nn nu p q
def csO (nn : Nat) (nu : Nat → Int32) : Nat → Int64
  | 0 => 0
  | p + 1 => csI nn nu p (csO nn nu p) p
def wrt (nn : Nat) (nu : Nat → Int32) (a b : Nat) : Int64 := csO nn nu (nn * nn) - csO nn (sw nu a b) (nn * nn)
def gnT (nn : Nat) (nu : Nat → Int32) (a b t : Nat) : Int64 := (mxI (nu a) (nu b) - mxI (mnI (nu a) (nu b)) (nu t)).toInt64 * (nrp nn t a - nrp nn t b).toInt64
def gnI (nn : Nat) (nu : Nat → Int32) (a b : Nat) : Nat → Int64
  | 0 => 0
  | t + 1 => if mxI (nu a) (nu b) ≤ nu t then gnI nn nu a b t else if nu t = mnI (nu a) (nu b) then gnI nn nu a b t else gnI nn nu a b t + gnT nn nu a b t
theorem gnI_a {nn : Nat} {nu : Nat → Int32} {a b t : Nat} (h : mxI (nu a) (nu b) ≤ nu t) : gnI nn nu a b t = gnI nn nu a b (t + 1) := by rw [gnI, if_pos h]
theorem gnI_b {nn : Nat} {nu : Nat → Int32} {a b t : Nat} (h : ¬ mxI (nu a) (nu b) ≤ nu t) (h2 : nu t = mnI (nu a) (nu b)) : gnI nn nu a b t = gnI nn nu a b (t + 1) := by rw [gnI, if_neg h, if_pos h2]
theorem gnI_c {nn : Nat} {nu : Nat → Int32} {a b t : Nat} (h : ¬ mxI (nu a) (nu b) ≤ nu t) (h2 : ¬ nu t = mnI (nu a) (nu b)) : gnI nn nu a b t + gnT nn nu a b t = gnI nn nu a b (t + 1) := by rw [gnI, if_neg h, if_neg h2]
/-- the numbers 0 .. nn nn - 1, each once -/
def PMok (nn : Nat) (nu : Nat → Int32) : Prop := (∀ i, i < nn * nn → ∃ v, v < nn * nn ∧ nu i = nI v) ∧ ∀ i j, i < nn * nn → j < nn * nn → nu i = nu j → i = j
def sm (f : Nat → Int64) : Nat → Int64
  | 0 => 0
  | n + 1 => sm f n + f n
theorem sm_congr {f g : Nat → Int64} : ∀ n, (∀ i, i < n → f i = g i) → sm f n = sm g n
  | 0, _ => rfl
  | n + 1, h => by rw [sm, sm, sm_congr n (fun i hi => h i (by omega)), h n (by omega)]
theorem sm_add (f g : Nat → Int64) : ∀ n, sm (fun i => f i + g i) n = sm f n + sm g n
  | 0 => by rw [sm, sm, sm]; rfl
  | n + 1 => by rw [sm, sm, sm, sm_add f g n]; grind
theorem sm_sub (f g : Nat → Int64) : ∀ n, sm (fun i => f i - g i) n = sm f n - sm g n
  | 0 => by rw [sm, sm, sm]; rfl
  | n + 1 => by rw [sm, sm, sm, sm_sub f g n]; grind
theorem sm_neg (f : Nat → Int64) : ∀ n, sm (fun i => - f i) n = - sm f n
  | 0 => by rw [sm, sm]; rfl
  | n + 1 => by rw [sm, sm, sm_neg f n]; grind
theorem sm_zero : ∀ (f : Nat → Int64) (n : Nat), (∀ i, i < n → f i = 0) → sm f n = 0
  | _, 0, _ => rfl
  | f, n + 1, h => by rw [sm, sm_zero f n (fun i hi => h i (by omega)), h n (by omega)]; rfl
theorem csI_sm (nn : Nat) (nu : Nat → Int32) (p : Nat) (s0 : Int64) : ∀ q, csI nn nu p s0 q = s0 + sm (csT nn nu p) q
  | 0 => by rw [csI, sm]; grind
  | q + 1 => by rw [csI, sm, csI_sm nn nu p s0 q]; grind
theorem csO_sm (nn : Nat) (nu : Nat → Int32) : ∀ p, csO nn nu p = sm (fun p => sm (csT nn nu p) p) p
  | 0 => rfl
  | p + 1 => by rw [csO, csI_sm, sm, csO_sm nn nu p]
theorem sm_two {f : Nat → Int64} {a b : Nat} (hab : a ≠ b) : ∀ n, (∀ q, q < n → q ≠ a → q ≠ b → f q = 0) → sm f n = (if a < n then f a else 0) + (if b < n then f b else 0)
  | 0, _ => by simp [sm]
  | n + 1, h => by
    rw [sm, sm_two hab n (fun q hq => h q (by omega))]
    by_cases h1 : n = a
    · subst h1
      have e1 : ¬ n < n := by omega
      have e2 : n < n + 1 := by omega
      have e3 : b < n ↔ b < n + 1 := by omega
      simp only [e1, e2, e3, if_true, if_false]
      grind
    · by_cases h2 : n = b
      · subst h2
        have e1 : ¬ n < n := by omega
        have e2 : n < n + 1 := by omega
        have e3 : a < n ↔ a < n + 1 := by omega
        simp only [e1, e2, e3, if_true, if_false]
        grind
      · rw [h n (by omega) h1 h2]
        have e3 : a < n ↔ a < n + 1 := by omega
        have e4 : b < n ↔ b < n + 1 := by omega
        simp only [e3, e4]
        grind
/-- a sum over pairs, of which only those with just one of a and b count -/
theorem sm_pairs {h : Nat → Nat → Int64} {a b M : Nat} (hab : a ≠ b) (haM : a < M) (hbM : b < M) (h0 : ∀ p q, p < M → q < M → p ≠ a → p ≠ b → q ≠ a → q ≠ b → h p q = 0) (hs : ∀ p q, p < M → q < M → h p q = h q p) (h1 : h a b = 0) :
    ∀ n, n ≤ M → sm (fun p => sm (h p) p) n = sm (fun t => if t = a ∨ t = b then 0 else (if a < n then h t a else 0) + (if b < n then h t b else 0)) n
  | 0, _ => rfl
  | n + 1, hn => by
    rw [sm, sm_pairs hab haM hbM h0 hs h1 n (by omega), sm]
    by_cases c1 : n = a
    · subst c1
      have e1 : ¬ n < n := by omega
      have e2 : n < n + 1 := by omega
      have e3 : b < n + 1 ↔ b < n := by omega
      simp only [e1, e2, e3, if_true, if_false, true_or]
      have k1 : sm (h n) n = sm (fun t => if t = n ∨ t = b then 0 else h t n) n := by
        refine sm_congr n (fun i hi => ?_)
        have e4 : ¬ i = n := by omega
        by_cases e5 : i = b
        · subst e5; rw [if_pos (Or.inr rfl)]; exact h1
        · rw [if_neg (by simp [e4, e5])]; exact hs n i (by omega) (by omega)
      rw [k1, ← sm_add]
      rw [show ∀ x : Int64, x + 0 = x from fun x => by grind]
      refine sm_congr n (fun i hi => ?_)
      by_cases e5 : i = n ∨ i = b
      · rw [if_pos e5, if_pos e5, if_pos e5]; rfl
      · rw [if_neg e5, if_neg e5, if_neg e5]; grind
    · by_cases c2 : n = b
      · subst c2
        have e1 : ¬ n < n := by omega
        have e2 : n < n + 1 := by omega
        have e3 : a < n + 1 ↔ a < n := by omega
        simp only [e1, e2, e3, if_true, if_false, or_true]
        have k1 : sm (h n) n = sm (fun t => if t = a ∨ t = n then 0 else h t n) n := by
          refine sm_congr n (fun i hi => ?_)
          have e4 : ¬ i = n := by omega
          by_cases e5 : i = a
          · subst e5; rw [if_pos (Or.inl rfl), hs n i (by omega) (by omega)]; exact h1
          · rw [if_neg (by simp [e4, e5])]; exact hs n i (by omega) (by omega)
        rw [k1, ← sm_add]
        rw [show ∀ x : Int64, x + 0 = x from fun x => by grind]
        refine sm_congr n (fun i hi => ?_)
        by_cases e5 : i = a ∨ i = n
        · rw [if_pos e5, if_pos e5, if_pos e5]; rfl
        · rw [if_neg e5, if_neg e5, if_neg e5]; grind
      · have e3 : a < n + 1 ↔ a < n := by omega
        have e4 : b < n + 1 ↔ b < n := by omega
        simp only [e3, e4, c1, c2, or_self, if_false]
        rw [sm_two hab n (fun q hq q1 q2 => h0 n q (by omega) (by omega) c1 c2 q1 q2)]
theorem gnI_sm (nn : Nat) (nu : Nat → Int32) (a b : Nat) : ∀ t, gnI nn nu a b t = sm (fun t => if mxI (nu a) (nu b) ≤ nu t then 0 else if nu t = mnI (nu a) (nu b) then 0 else gnT nn nu a b t) t
  | 0 => rfl
  | t + 1 => by
    rw [gnI, sm, gnI_sm nn nu a b t]
    by_cases h1 : mxI (nu a) (nu b) ≤ nu t
    · rw [if_pos h1, if_pos h1]; grind
    · rw [if_neg h1, if_neg h1]
      by_cases h2 : nu t = mnI (nu a) (nu b)
      · rw [if_pos h2, if_pos h2]; grind
      · rw [if_neg h2, if_neg h2]
