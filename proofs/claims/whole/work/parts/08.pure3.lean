/-! pure words of Steps -/
def fmI (x y : Int32) : Int32 := if 0 ≤ x ^^^ y then x - x / y * y else if x - x / y * y = 0 then x - x / y * y else x - x / y * y + y
def fdI (x y : Int32) : Int32 := if 0 ≤ x ^^^ y then x / y else if x / y * y = x then x / y else x / y - 1
def mnI (a b : Int32) : Int32 := if b < a then b else a
def nsq (nn : Nat) (dc dr : Int32) : Int32 := mnI dc (nI nn - dc) * mnI dc (nI nn - dc) + mnI dr (nI nn - dr) * mnI dr (nI nn - dr)
def nrv (nn : Nat) (dc dr : Int32) : Int32 := if 1 ≤ nsq nn dc dr then 1000 / nsq nn dc dr else 0
theorem ge1_ne0 {x : Int32} (h : 1 ≤ x) : ¬ x = 0 := by
  intro e
  rw [e] at h
  exact absurd h (by decide)
def spF (n k : Nat) (f : Nat → Int32) : Nat → Int32 := fun x => if x < k then nI (x / n * 15 + x % n) else f x
theorem spF_0 (n : Nat) (f : Nat → Int32) : spF n 0 f = f := by funext x; simp [spF]
theorem ij_lt {i j n : Nat} (hi : i < n) (hj : j < n) : i * n + j < n * n := by
  have h1 : (i + 1) * n ≤ n * n := Nat.mul_le_mul_right n hi
  rw [Nat.succ_mul] at h1
  omega
theorem spF_s {n i j : Nat} {f : Nat → Int32} (hj : j < n) : upd (spF n (i * n + j) f) (i * n + j) (nI (i * 15 + j)) = spF n (i * n + (j + 1)) f := by
  have h1 : (i * n + j) / n = i := by
    rw [Nat.add_comm, Nat.add_mul_div_right _ _ (by omega), Nat.div_eq_of_lt hj, Nat.zero_add]
  have h2 : (i * n + j) % n = j := by
    rw [Nat.add_comm, Nat.add_mul_mod_self_right, Nat.mod_eq_of_lt hj]
  funext x
  by_cases h : x = i * n + j
  · subst h
    rw [pk_us]
    have h3 : i * n + j < i * n + (j + 1) := by omega
    simp only [spF, h3, if_true, h1, h2]
  · rw [pk_un h]
    by_cases h4 : x < i * n + j
    · have h5 : x < i * n + (j + 1) := by omega
      simp [spF, h4, h5]
    · have h5 : ¬ x < i * n + (j + 1) := by omega
      simp [spF, h4, h5]
def adf (j t : Nat) : Nat := if t ≤ j then j - t else t - j
def nidx (n i j : Nat) : Nat := 112 + i * 15 + j - 16 * (n - 1)
def nei (n : Nat) (f : Nat → Int32) (i : Nat) : Nat → Nat → Int32
  | 0 => f
  | j + 1 => upd (nei n f i j) (nidx n i j) (nrv n (nI (adf j (n - 1))) (nI (adf i (n - 1))))
def neo (n : Nat) (f : Nat → Int32) : Nat → Nat → Int32
  | 0 => f
  | i + 1 => nei n (neo n f i) i (2 * n - 1)
theorem i32_eq {x y : Int32} (h : x.toInt = y.toInt) : x = y := Int32.toInt_inj.mp h
theorem nd_0 {n : Nat} (h : 1 ≤ n) : (1 : Int32) - nI n = nI 0 - nI (n - 1) := by
  obtain ⟨t, rfl⟩ : ∃ t, n = t + 1 := ⟨n - 1, by omega⟩
  rw [nI_succ, Nat.add_sub_cancel, nI_0]
  rw [Int32.sub_eq_add_neg, Int32.sub_eq_add_neg, Int32.neg_add, Int32.sub_eq_add_neg, Int32.add_comm (-nI t), ← Int32.add_assoc, Int32.add_right_neg]
theorem nd_s (j t : Nat) : nI j - nI t + 1 = nI (j + 1) - nI t := by
  rw [nI_succ, Int32.sub_eq_add_neg, Int32.sub_eq_add_neg, Int32.add_assoc, Int32.add_comm (-nI t), ← Int32.add_assoc]
theorem nd_toInt {j t : Nat} (hj : j < 64) (ht : t < 64) : (nI j - nI t).toInt = (j : Int) - t := pk_sub_toInt (by omega) (by omega)
theorem nd_le {n j : Nat} (h : 2 * n - 1 ≤ j) (hn : 1 ≤ n ∧ n ≤ 8 ∧ j < 64) : nI n ≤ nI j - nI (n - 1) := by
  rw [Int32.le_iff_toInt_le, nd_toInt (by omega) (by omega), nI_toInt (by omega)]
  omega
theorem nd_nle {n j : Nat} (h : j < 2 * n - 1) (hn : n ≤ 8) : ¬ nI n ≤ nI j - nI (n - 1) := by
  rw [Int32.le_iff_toInt_le, nd_toInt (by omega) (by omega), nI_toInt (by omega)]
  omega
theorem nabs {j t : Nat} (hj : j < 64) (ht : t < 64) : (if 0 ≤ nI j - nI t then nI j - nI t else 0 - (nI j - nI t)) = nI (adf j t) := by
  by_cases h : t ≤ j
  · have h1 : nI j - nI t = nI (j - t) := pk_sub h
    have h2 : (0 : Int32) ≤ nI j - nI t := by rw [h1]; exact nI_pos' (by omega)
    rw [if_pos h2, h1, adf, if_pos h]
  · have h2 : ¬ (0 : Int32) ≤ nI j - nI t := by
      rw [Int32.le_iff_toInt_le, nd_toInt hj ht]
      show ¬ (0 : Int) ≤ _
      omega
    rw [if_neg h2, adf, if_neg h, ← pk_sub (show j ≤ t by omega)]
    rw [Int32.sub_eq_add_neg, Int32.zero_add, Int32.neg_sub]
theorem nidx_lt {n i j : Nat} (q1 : 1 ≤ n) (q2 : n ≤ 8) (hi : i < 2 * n - 1) (hj : j < 2 * n - 1) : nidx n i j < 225 := by
  unfold nidx; omega
theorem nidx_eq {n i j : Nat} (q1 : 1 ≤ n) (q2 : n ≤ 8) (hi : i < 2 * n - 1) (hj : j < 2 * n - 1) : (112 : Int32) + (nI i - nI (n - 1)) * 15 + (nI j - nI (n - 1)) = nI (nidx n i j) := by
  have e1 : nI (nidx n i j) + nI (16 * (n - 1)) = nI (112 + i * 15 + j) := by
    rw [nI_add]; congr 1; unfold nidx; omega
  have e2 : nI (nidx n i j) = nI (112 + i * 15 + j) - nI (16 * (n - 1)) := by
    rw [← e1, Int32.add_sub_cancel]
  rw [e2, ← nI_add, ← nI_add, ← pk_mul, ← pk_mul]
  rw [show nI 112 = (112 : Int32) from rfl, show nI 15 = (15 : Int32) from rfl, show nI 16 = (15 : Int32) + 1 from rfl]
  generalize nI i = a
  generalize nI j = b
  generalize nI (n - 1) = t
  rw [Int32.sub_mul, Int32.add_mul, Int32.one_mul, Int32.mul_comm 15 t]
  generalize a * 15 = u
  generalize t * 15 = w
  rw [Int32.sub_eq_add_neg, Int32.sub_eq_add_neg, Int32.sub_eq_add_neg, Int32.neg_add, Int32.sub_eq_add_neg]
  simp only [Int32.add_assoc]
  congr 2
  rw [← Int32.add_assoc, Int32.add_comm (-w) b, Int32.add_assoc]
/-- the same for a method of the JDK -/
theorem xk_ofF {l : Launch} {y : MethodName} {ws ws' : List Cond} {rm : Room} {cc : ByteArray} {maxL : Nat} {ret : Option FieldType} {D : va_G} {cyI cyZ : ClassId} {av : List Value} {wd : va_W} {sz mc ms : Nat} {own : String} {Qc : (Nat → Prop) → Array Value → State → Outcome → State → Prop}
    (hy : plainFor y = true) (hw : ws = Cond.code y cc maxL ret :: ws') (hcls : y.cls = own) (hlen : (lg_sl av).length ≤ maxL)
    (body : ∀ (p : Program) (e : Env) (s : State) (m : MethodId) (below : List Frame) (meth : Method) (c : Code) (A : Nat → Prop) (ls : Array Slot), p.tables.exec = Jvm.exec → c.code = cc → meth.sig.returnType = ret → c.maxLocals = maxL → s.vm.findClass own = some m.cls → meth.locks = false → meth.name = y.name → (∀ w ∈ ws, w.before av.toArray s = true) → (∀ q : Nat, s.heap.size ≤ q → A q) →
      va_P D vwCl wd s.heap → va_K D vwCl [(cyI, .int), (cyZ, .boolean)] s → xk_N s → va_D A wd → va_S A s.heap s.heap [] → lv_has ls maxL (lv_args 0 av) → W p l e rm s m av.toArray below meth c s.heap [] 0 0 (MQ below (Qc A) av.toArray s mc ms A) (F0 m 0 ls [])) :
    Met l y ws rm (xk_Pc D cyI cyZ av wd sz) (Qc (va_A wd sz)) mc ms (va_A wd sz) := by
  refine va_MetF (cc := cc) (maxL := maxL) (ret := ret) hy hw ?_
  intro p e s m args below meth c s₁ B hml hv
  obtain ⟨rfl, hsz, hP, hK, hN, hD0⟩ := hv
  have hts := atoms_spec (ws := ws) B.pre
  have hown : s.vm.findClass own = some m.cls := by rw [← hcls]; exact findClass_of_methodNamed B.named
  have hin : meth.name = y.name := (name_of_methodNamed B.named B.method).1
  subst hsz
  have hD := hD0.self (sz := s.heap.size)
  have hl := lv_entry av (n := maxL) hlen
  rw [lg_entry_eq]
  exact body p e s m below meth c _ _ B.exec B.bytes B.returns hml hown B.notSynchronized hin hts (fun q h => Or.inr h) hP hK hN hD va_S.rf hl
