/-! the reference's counts and best: pure -/
def l2I (ln : Nat → Int32) (y : Nat) (s0 : Int32) : Nat → Int32
  | 0 => s0
  | x + 1 => if ln (y * 24 + x) = 0 then l2I ln y s0 x + 0 else l2I ln y s0 x + 1
def l2O (ln : Nat → Int32) (W : Nat) : Nat → Int32
  | 0 => 0
  | y + 1 => l2I ln y (l2O ln W y) W
theorem l2I_a {ln : Nat → Int32} {y x : Nat} {s0 : Int32} (h : ln (y * 24 + x) = 0) : l2I ln y s0 x + 0 = l2I ln y s0 (x + 1) := by rw [l2I, if_pos h]
theorem l2I_b {ln : Nat → Int32} {y x : Nat} {s0 : Int32} (h : ¬ ln (y * 24 + x) = 0) : l2I ln y s0 x + 1 = l2I ln y s0 (x + 1) := by rw [l2I, if_neg h]
def l3I (g ln : Nat → Int32) (y : Nat) (s0 : Int32) : Nat → Int32
  | 0 => s0
  | x + 1 => if ln (y * 24 + x) = 0 then l3I g ln y s0 x + g (y * 24 + x) else l3I g ln y s0 x + 0
def l3O (g ln : Nat → Int32) (W : Nat) : Nat → Int32
  | 0 => 0
  | y + 1 => l3I g ln y (l3O g ln W y) W
theorem l3I_a {g ln : Nat → Int32} {y x : Nat} {s0 : Int32} (h : ln (y * 24 + x) = 0) : l3I g ln y s0 x + g (y * 24 + x) = l3I g ln y s0 (x + 1) := by rw [l3I, if_pos h]
theorem l3I_b {g ln : Nat → Int32} {y x : Nat} {s0 : Int32} (h : ¬ ln (y * 24 + x) = 0) : l3I g ln y s0 x + 0 = l3I g ln y s0 (x + 1) := by rw [l3I, if_neg h]
abbrev BS : Type := Int32 × Int64 × Int64 × Int64 × Int64
def msT (na nb : Int32) (mm ci di : Nat) (s : BS) : Int64 := bTp na nb (nI ci) (nI di) mm (ci * ci + di * di) s.2.2.2.1 4
def msW (mm ci di : Nat) : Int64 := lN mm * lN (ci * ci + di * di) * lN mm * lN (ci * ci + di * di)
def mstep (na nb : Int32) (mm ci di : Nat) (s : BS) : BS :=
  if s.1 = (-1) ∨ s.2.1 * msW mm ci di < msT na nb mm ci di s * s.2.2.1 then (10 * nI ci + nI di, msT na nb mm ci di s, msW mm ci di, msT na nb mm ci di s, msW mm ci di)
  else (s.1, s.2.1, s.2.2.1, msT na nb mm ci di s, msW mm ci di)
theorem mstep_t {na nb : Int32} {mm ci di : Nat} {s : BS} (h : s.1 = (-1) ∨ s.2.1 * msW mm ci di < msT na nb mm ci di s * s.2.2.1) : mstep na nb mm ci di s = (10 * nI ci + nI di, msT na nb mm ci di s, msW mm ci di, msT na nb mm ci di s, msW mm ci di) := if_pos h
theorem mstep_f {na nb : Int32} {mm ci di : Nat} {s : BS} (h1 : ¬ s.1 = (-1)) (h2 : ¬ s.2.1 * msW mm ci di < msT na nb mm ci di s * s.2.2.1) : mstep na nb mm ci di s = (s.1, s.2.1, s.2.2.1, msT na nb mm ci di s, msW mm ci di) := if_neg (fun q => q.elim h1 h2)
def mbI (na nb : Int32) (mm ci : Nat) (s : BS) : Nat → BS
  | 0 => s
  | di + 1 => mstep na nb mm ci di (mbI na nb mm ci s di)
def mbO (na nb : Int32) (mm : Nat) (s : BS) : Nat → BS
  | 0 => s
  | ci + 1 => mbI na nb mm (ci + 1) (mbO na nb mm s ci) 9
theorem sq_le {a b : Nat} (ha : a ≤ 8) (hb : b ≤ 8) : a * a + b * b ≤ 128 := by
  have h1 := Nat.mul_le_mul ha ha
  have h2 := Nat.mul_le_mul hb hb
  omega
