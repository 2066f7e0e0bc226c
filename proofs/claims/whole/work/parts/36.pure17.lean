/-! a new TABLE: spots, nearness, numbers as they must be -/
theorem SPok_new (n : Nat) (f : Nat → Int32) : SPok n (spF n (n * n) f) := by
  intro p hp
  unfold spF spn
  rw [if_pos hp]
theorem PMok_new {n : Nat} (h2 : n ≤ 8) (f : Nat → Int32) : PMok n (idt (n * n) f) := by
  have h64 := nn_64 h2
  have e : ∀ i, i < n * n → idt (n * n) f i = nI i := fun i hi => by unfold idt; rw [if_pos hi]
  refine ⟨fun i hi => ⟨i, hi, e i hi⟩, fun i j hi hj h => ?_⟩
  rw [e i hi, e j hj] at h
  exact (nI_eq (by omega) (by omega)).mp h
theorem nei_at {n i : Nat} {f : Nat → Int32} (h2 : n ≤ 8) : ∀ m j, j < m → nei n f i m (nidx n i j) = nrv n (nI (adf j (n - 1))) (nI (adf i (n - 1)))
  | 0, _, h => absurd h (Nat.not_lt_zero _)
  | m + 1, j, h => by
    rw [nei]
    by_cases e : j = m
    · subst e; rw [pk_us]
    · rw [pk_un (by unfold nidx; omega)]; exact nei_at h2 m j (by omega)
theorem nei_out {n i k : Nat} {f : Nat → Int32} : ∀ m, (∀ j, j < m → k ≠ nidx n i j) → nei n f i m k = f k
  | 0, _ => rfl
  | m + 1, h => by
    rw [nei, pk_un (h m (by omega))]; exact nei_out m (fun j hj => h j (by omega))
theorem neo_at {n : Nat} {f : Nat → Int32} (h2 : n ≤ 8) : ∀ N i j, i < N → j < 2 * n - 1 → neo n f N (nidx n i j) = nrv n (nI (adf j (n - 1))) (nI (adf i (n - 1)))
  | 0, _, _, h, _ => absurd h (Nat.not_lt_zero _)
  | N + 1, i, j, h, hj => by
    rw [neo]
    by_cases e : i = N
    · subst e; exact nei_at h2 _ j hj
    · rw [nei_out _ (fun j2 hj2 => by unfold nidx; omega)]
      exact neo_at h2 N i j (by omega) hj
theorem NEok_new {n : Nat} (h1 : 1 ≤ n) (h2 : n ≤ 8) (f : Nat → Int32) : NEok n (neo n f (2 * n - 1)) := by
  intro p q hp hq
  have a1 : p / n < n := Nat.div_lt_of_lt_mul hp
  have a2 : p % n < n := Nat.mod_lt _ h1
  have a3 : q / n < n := Nat.div_lt_of_lt_mul hq
  have a4 : q % n < n := Nat.mod_lt _ h1
  unfold nrp spn
  generalize p / n = rp at *
  generalize p % n = cp at *
  generalize q / n = rq at *
  generalize q % n = cq at *
  have e : 112 + (rq * 15 + cq) - (rp * 15 + cp) = nidx n (rq + (n - 1) - rp) (cq + (n - 1) - cp) := by unfold nidx; omega
  rw [e, neo_at h2 _ _ _ (by omega) (by omega)]
  have e1 : adf (cq + (n - 1) - cp) (n - 1) = adf cp cq := by unfold adf; split <;> split <;> omega
  have e2 : adf (rq + (n - 1) - rp) (n - 1) = adf rp rq := by unfold adf; split <;> split <;> omega
  rw [e1, e2]
