/-! Values of the sums. -/
theorem jund_le (S : JS) (x c : Nat) : jundS S x c ≤ jN S := jct_le _ _
theorem jfork_le (S : JS) (x c : Nat) : jfork (jN S) (jM S) (jU S x) c ≤ jN S := jct_le _ _
theorem jbits_set {S : JS} {x i B : Nat} (h : ∀ c, B.testBit c = (decide (c < i) && jmatS S x c)) (hm : jmatS S x i = true) (c : Nat) : (B ||| 2 ^ i).testBit c = (decide (c < i + 1) && jmatS S x c) := by
  rw [jbit_or, h c]
  by_cases q : i = c
  · subst q; simp [hm]
  · rw [show decide (c < i + 1) = decide (c < i) by simp; omega]
    simp [q]
theorem jbits_not {S : JS} {x i B : Nat} (h : ∀ c, B.testBit c = (decide (c < i) && jmatS S x c)) (hm : jmatS S x i = false) (c : Nat) : B.testBit c = (decide (c < i + 1) && jmatS S x c) := by
  rw [h c]
  by_cases q : i = c
  · subst q; simp [hm]
  · rw [show decide (c < i + 1) = decide (c < i) by simp; omega]
theorem jor_lt {B i : Nat} (h : B < 16384) (hi : i < 14) : B ||| 2 ^ i < 16384 := Nat.or_lt_two_pow (n := 14) h (Nat.pow_lt_pow_right (by omega) hi)
theorem jmat_t1 {S : JS} {x c : Nat} (h : jM S c = true) : jmatS S x c = true := by simp [jmatS, jmat, h]
theorem jmat_t2 {S : JS} {x c : Nat} (h : ¬ jfork (jN S) (jM S) (jU S x) c < 2) : jmatS S x c = true := by simp [jmatS, jmat]; right; omega
theorem jmat_f {S : JS} {x c : Nat} (h1 : jM S c = false) (h2 : jfork (jN S) (jM S) (jU S x) c < 2) : jmatS S x c = false := by simp [jmatS, jmat, h1]; omega
theorem jarT_none {S : JS} {x c : Nat} (h : jU S x c = none) : jarT S x c = 0 := by simp [jarT, h]
theorem jarT_pos {S : JS} {x c p : Nat} (h : jU S x c = some p) (h2 : 0 < jundS S x c ∧ jundS S x c < jct (jM S) (jN S)) : jarT S x c = nI (jT S p) - nI (jT S c) := by simp [jarT, h, h2]
theorem jarT_neg {S : JS} {x c p : Nat} (h : jU S x c = some p) (h2 : ¬ (0 < jundS S x c ∧ jundS S x c < jct (jM S) (jN S))) : jarT S x c = 0 := by simp only [jarT, h, if_neg h2]
theorem jin_ff3 {z : Int32} {k : Nat} (hk : k < 2 ^ 30) (h : ¬ z ≤ nI k) : jin z (k + 1) = false := by
  simp only [jin, decide_eq_false_iff_not]
  rw [Int32.le_iff_toInt_le, nI_toInt (by omega)] at h
  rw [Int32.lt_iff_toInt_lt, nI_toInt (by omega)]
  omega
theorem jin_le {z : Int32} {k : Nat} (h1 : ¬ z < 0) (h : z ≤ nI k) (hk : k < 2 ^ 30 := by decide) : jin z (k + 1) = true := by
  simp only [jin, decide_eq_true_eq]
  rw [Int32.lt_iff_toInt_lt] at h1
  rw [Int32.le_iff_toInt_le, nI_toInt (by omega)] at h
  rw [Int32.le_iff_toInt_le, Int32.lt_iff_toInt_lt, nI_toInt (by omega)]
  omega
