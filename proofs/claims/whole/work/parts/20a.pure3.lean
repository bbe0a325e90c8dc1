/-! More values. -/
theorem jin_tt {z : Int32} {n : Nat} (h1 : ¬ z < 0) (h2 : z < nI n) : jin z n = true := by
  simp only [jin, decide_eq_true_eq]
  rw [Int32.lt_iff_toInt_lt] at h1
  refine ⟨?_, h2⟩
  rw [Int32.le_iff_toInt_le]
  omega
theorem jin_ff1 {z : Int32} {n : Nat} (h1 : z < 0) : jin z n = false := by
  simp only [jin, decide_eq_false_iff_not]
  rw [Int32.lt_iff_toInt_lt] at h1
  rw [Int32.le_iff_toInt_le]
  omega
theorem jin_ff2 {z : Int32} {n : Nat} (h2 : ¬ z < nI n) : jin z n = false := by
  simp only [jin, decide_eq_false_iff_not]
  exact fun h => h2 h.2
def jbec (S : JS) (z : Int32) : Option Nat := if jin z 14 = true then jB S z.toNatClampNeg else none
theorem jbec_f1 {S : JS} {z : Int32} (h : z < 0) : jeI (jbec S z) = -1 := by rw [jbec, jin_ff1 h]; rfl
theorem jbec_f2 {S : JS} {z : Int32} (h : ¬ z < nI 14) : jeI (jbec S z) = -1 := by rw [jbec, jin_ff2 h]; rfl
theorem jbec_t {S : JS} {j : Nat} (h : j < 14) : jbec S (nI j) = jB S j := by
  rw [jbec, jin_nI (by omega) (by omega), nI_clamp (by omega)]
  simp [h]
/-- a run begins at x -/
def jsr (S : JS) (x : Nat) : Bool := x == 0 || jany (fun c => jU S x c != jU S (x - 1) c) (jN S)
/-- the first from e on, of k, that has P no more -/
def jene (P : Nat → Bool) : Nat → Nat → Nat
  | 0, e => e
  | k + 1, e => if P e then jene P k (e + 1) else e
def jend (S : JS) (x c : Nat) : Nat := jene (fun e => jU S e c == jU S x c) (60 - (x + 1)) (x + 1)
theorem jz_eq {a : Nat} (h : a < 2 ^ 31) : nI a = 0 ↔ a = 0 := by rw [← nI_0]; exact nI_eq h (by omega)
theorem jz_lt {a : Nat} (h : a < 2 ^ 31) : nI a < 0 ↔ a < 0 := by rw [← nI_0]; exact nI_ltI h (by omega)
theorem jz_ge {a : Nat} (h : a < 2 ^ 31) : 0 ≤ nI a ↔ 0 ≤ a := by rw [← nI_0]; exact nI_leI (by omega) h
theorem jz_gt {a : Nat} (h : a < 2 ^ 31) : 0 < nI a ↔ 0 < a := by rw [← nI_0]; exact nI_ltI (by omega) h
theorem jz_le {a : Nat} (h : a < 2 ^ 31) : nI a ≤ 0 ↔ a ≤ 0 := by rw [← nI_0]; exact nI_leI h (by omega)
