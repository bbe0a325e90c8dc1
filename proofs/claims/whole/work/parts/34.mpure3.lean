/-! Sums of the reference. -/
def jprA (S : JS) (i a : Nat) : Nat → Nat := jct (fun b => jM S a && jM S b && jlf S i a != jlf S i b)
theorem jprs_un (S : JS) (i : Nat) (n : Nat) : jprs (jM S) (jlf S i) n = jsm (fun a => jprA S i a a) n := rfl
theorem ji_addsub (a b c : Int32) : a + (b - c) = a + b - c := by rw [Int32.sub_eq_add_neg, Int32.sub_eq_add_neg, Int32.add_assoc]
def jrn (S : JS) (x : Nat) : Nat := if x = 60 then jct (jsr S) 60 else jct (jsr S) (x + 1) - 1
theorem jsr0 (S : JS) : jsr S 0 = true := by simp [jsr]
theorem jct_pos (S : JS) (x : Nat) : 1 ≤ jct (jsr S) (x + 1) := by
  have a := jct_lt2 (P := jsr S) (c := 0) (d := x + 1) (by omega) (jsr0 S)
  omega
theorem jcut_neg {S : JS} {z : Int32} (h : ∀ k, k ≤ jct (jsr S) 60 → ¬ nI k = z) : jcut S z = none := by
  have key : ∀ k x, x + k = 60 → jcf S z k x = none := by
    intro k
    induction k with
    | zero => intro x _; simp only [jcf]; rw [if_neg (h _ (Nat.le_refl _))]
    | succ k ih =>
      intro x hx
      simp only [jcf]
      rw [if_neg (fun q => h _ (jct_le2 (by omega)) q.2)]
      exact ih (x + 1) (by omega)
  exact key 60 0 rfl
/-- a step of the way to the run's first place -/
theorem jrn_step {S : JS} {x : Nat} (hx : x < 60) : jrn S (x + 1) = jrn S x + (if x + 1 = 60 ∨ jsr S (x + 1) = true then 1 else 0) := by
  have p := jct_pos S x
  simp only [jrn]
  rw [if_neg (show ¬ x = 60 by omega)]
  by_cases q : x + 1 = 60
  · rw [if_pos q, if_pos (Or.inl q), show (60 : Nat) = x + 1 by omega]
    omega
  · rw [if_neg q]
    have e : jct (jsr S) (x + 1 + 1) = jct (jsr S) (x + 1) + (if jsr S (x + 1) = true then 1 else 0) := rfl
    by_cases q2 : jsr S (x + 1) = true
    · rw [if_pos (Or.inr q2), e, if_pos q2]; omega
    · rw [if_neg (fun h => h.elim q q2), e, if_neg q2]; omega
theorem jcf_skip {S : JS} {x i0 : Nat} (hx : x < 60) (hr : jrn S x < i0) (hi : i0 < 2 ^ 31) : jcf S (nI i0) (60 - (x + 1)) (x + 1) = jcf S (nI i0) (60 - x) x := by
  rw [show 60 - x = (60 - (x + 1)) + 1 by omega]
  simp only [jcf]
  rw [if_neg]
  rintro ⟨h1, h2⟩
  have b := jct_le (jsr S) x
  rw [nI_eq (by omega) hi] at h2
  simp only [jrn] at hr
  rw [if_neg (by omega)] at hr
  have e : jct (jsr S) (x + 1) = jct (jsr S) x + (if jsr S x = true then 1 else 0) := rfl
  rw [if_pos h1] at e
  omega
theorem jcf_here {S : JS} {x i0 : Nat} (hx : x ≤ 60) (hr : jrn S x = i0) (hs : x < 60 → jsr S x = true) : jcf S (nI i0) (60 - x) x = some x := by
  by_cases q : x = 60
  · subst q
    simp only [jrn, if_pos] at hr
    rw [Nat.sub_self]
    simp only [jcf]
    rw [hr, if_pos rfl]
  · rw [show 60 - x = (59 - x) + 1 by omega]
    simp only [jcf]
    have h1 := hs (by omega)
    have e : jct (jsr S) (x + 1) = jct (jsr S) x + (if jsr S x = true then 1 else 0) := rfl
    rw [if_pos h1] at e
    simp only [jrn] at hr
    rw [if_neg q] at hr
    rw [if_pos ⟨h1, by rw [show jct (jsr S) x = i0 by omega]⟩]
theorem jbes_ct {S : JS} {i j p0 c0 : Nat} (h : jbes S i j p0 c0 = false) : jct (fun d => jU S (i + d) c0 == none) (j - i) = jaU S i j c0 (some p0) := by
  refine jct_congr (fun d hd => ?_)
  have a : ¬ (jU S (i + d) c0 != none && jU S (i + d) c0 != some p0) = true := fun q => by
    have h2 : jbes S i j p0 c0 = true := jany_iff.mpr ⟨d, hd, q⟩
    rw [h] at h2
    cases h2
  cases e : jU S (i + d) c0 with
  | none => rfl
  | some y =>
    rw [e] at a
    simp at a
    subst a
    simp
theorem jspec_m (S : JS) (z : Int32) : jspec S z = jsm (fun i => jct (fun a => a != jA S i && decide (nI 1 ≤ z) && decide (nI (jtal (jM S) (jlf S i) (jN S) a) = z)) 4) (jK S) := by
  rw [jspec]
  split
  · rename_i h
    exact jsm_congr (fun i _ => jct_congr (fun a _ => by simp [h]))
  · rename_i h
    refine (jsm_zero (fun i _ => ?_)).symm
    rw [jct_sm]
    exact jsm_zero (fun a _ => by simp [h])
