/-! Values for the reference's side. -/
theorem joN_eI1 (o : Option Nat) : nI (joN o) - nI 1 = jeI o := joN_eI o
theorem joN_z {o : Option Nat} : joN o = 0 ↔ o = none := by cases o <;> simp [joN]
theorem joN_lt {o : Option Nat} {n : Nat} (h : ∀ p, o = some p → p < n) : joN o ≤ n := by
  cases o with
  | none => exact Nat.zero_le _
  | some p => have := h p rfl; simp [joN]; omega
def jho (n : Nat) (t : Nat → Nat) (o : Option Nat) : Nat := match o with
  | none => 0
  | some y => jht n t y + 1
theorem jho_up {S : JS} (h : jWf S) (x y : Nat) : jho (jN S) (jT S) (jU S x y) < jho (jN S) (jT S) (some y) := by
  cases e : jU S x y with
  | none => simp [jho]
  | some z => have := jht_up (jup_S h x) e; simp [jho]; omega
theorem jpF_S {S : JS} (h : jWf S) (x : Nat) (P : Nat → Bool) (y : Nat) : jpF (jU S x) P 14 (some y) = if P y then some y else jpF (jU S x) P 14 (jU S x y) := jpF_step (jup_S h x) h.1 P y
theorem jstay_eq (S : JS) (c : Nat) : jstay S c = (jM S c || jany (fun x => decide (1 < jfork (jN S) (jM S) (jU S x) c)) 60) := by
  cases h : jM S c with
  | true =>
    have : jstay S c = true := jstay_of (x := 0) (by omega) (jmat_t1 h)
    rw [this]; rfl
  | false =>
    simp only [jstay, jmatS, jmat, h, Bool.false_or]
def jcR (S : JS) (i : Nat) (fo o : Option Nat) : Option Nat := match fo with
  | some a => some a
  | none => match o with
    | none => none
    | some y => jcmo S i none (jpF (jU S (jP S i)) (jcmP S i) 14 (jU S (jP S i) y))
theorem jcR_0 (S : JS) (i c : Nat) : jcR S i (jL S i c) (some c) = jcome S i c := by
  rw [jcome_eq]
  cases e : jL S i c <;> simp [jcR, jcmo]
theorem jcR_1 {S : JS} {i y : Nat} (h : jU S (jP S i) y = none) : jcR S i none none = jcR S i none (some y) := by
  simp [jcR, h, jpF_none, jcmo]
theorem jcR_2 {S : JS} (hW : jWf S) {i y z : Nat} (h : jU S (jP S i) y = some z) (hm : jmatS S (jP S i) z = true) : jcR S i none none = jcR S i none (some y) := by
  simp only [jcR, h]
  rw [jpF_S hW]
  simp [jcmP, hm, jcmo]
theorem jcR_3 {S : JS} (hW : jWf S) {i y z : Nat} (h : jU S (jP S i) y = some z) (hm : jmatS S (jP S i) z = false) : jcR S i (jL S i z) (some z) = jcR S i none (some y) := by
  simp only [jcR, h]
  rw [jpF_S hW]
  cases e : jL S i z with
  | none => simp [jcmP, hm, e]
  | some a => simp [jcmP, hm, e, jcmo]
