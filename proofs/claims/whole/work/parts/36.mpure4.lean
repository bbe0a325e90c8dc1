/-! Edges, found by the reference. -/
def jfd (S : JS) (z : Int32) (v : JM) (pre : List (Nat × Nat)) : Prop := ∀ j x c, pre[j]? = some (x, c) → nI j = z → jm1 v = nI x ∧ jm4 v = nI c ∧ jm3 v = jeI (jU S x c)
theorem jfd_0 (S : JS) (z : Int32) (v : JM) : jfd S z v [] := fun j x c h => by simp at h
theorem jfd_skip {S : JS} {z : Int32} {v : JM} {pre : List (Nat × Nat)} {y : Nat × Nat} (h : jfd S z v pre) (hz : ¬ nI pre.length = z) : jfd S z v (pre ++ [y]) := by
  intro j x c e1 e2
  by_cases q : j < pre.length
  · rw [List.getElem?_append_left q] at e1
    exact h j x c e1 e2
  · have : j - pre.length < 1 := by
      have := (List.getElem?_eq_some_iff.mp e1).1
      simp at this
      omega
    exact absurd (by rw [show pre.length = j by omega]; exact e2) hz
theorem jfd_hit {S : JS} {z : Int32} {v : JM} {pre : List (Nat × Nat)} {x p c : Nat} (hb : pre.length < 840) (hz : nI pre.length = z) (hp : jU S x c = some p) : jfd S z (jms4 (jms3 (jms1 v (nI x)) (nI p)) (nI c)) (pre ++ [(x, c)]) := by
  intro j x' c' e1 e2
  have hj := (List.getElem?_eq_some_iff.mp e1).1
  simp at hj
  subst hz
  rw [nI_eq (by omega) (by omega)] at e2
  subst e2
  simp at e1
  obtain ⟨rfl, rfl⟩ := e1
  exact ⟨rfl, rfl, by rw [hp]; rfl⟩
def jpP (S : JS) (t : Nat) : Nat → List (Nat × Nat) := jfl (fun p => if jT S p == t then jeP (jN S) (jU S) p else [])
def jpT (S : JS) : Nat → List (Nat × Nat) := jfl (fun k => jeT (jN S) (jT S) (jU S) k)
def jpC (S : JS) (p : Nat) : Nat → List (Nat × Nat) := jfl (fun c1 => jfl (fun x1 => jeX (jU S) p c1 x1) 60)
def jpX (S : JS) (p c : Nat) : Nat → List (Nat × Nat) := jfl (fun x1 => jeX (jU S) p c x1)
theorem jpT_end (S : JS) : jpT S 1001 = jes S := rfl
theorem jpT_s (S : JS) (t : Nat) : jpT S (t + 1) = jpT S t ++ jpP S t (jN S) := rfl
theorem jpP_t {S : JS} {t p : Nat} (h : jT S p = t) : jpP S t (p + 1) = jpP S t p ++ jpC S p (jN S) := by
  show jpP S t p ++ (if jT S p == t then jeP (jN S) (jU S) p else []) = _
  rw [if_pos (by simpa using h)]
  rfl
theorem jpP_f {S : JS} {t p : Nat} (h : ¬ jT S p = t) : jpP S t (p + 1) = jpP S t p := by
  show jpP S t p ++ (if jT S p == t then jeP (jN S) (jU S) p else []) = _
  rw [if_neg (by simpa using h)]
  simp
theorem jpC_s (S : JS) (p c : Nat) : jpC S p (c + 1) = jpC S p c ++ jpX S p c 60 := rfl
theorem jpX_t {S : JS} {p c x : Nat} (h1 : jU S x c = some p) (h2 : jst (jU S) x c = true) : jpX S p c (x + 1) = jpX S p c x ++ [(x, c)] := by
  show jpX S p c x ++ jeX (jU S) p c x = _
  rw [jeX_t h1 h2]
theorem jpX_f1 {S : JS} {p c x : Nat} (h1 : ¬ jU S x c = some p) : jpX S p c (x + 1) = jpX S p c x := by
  show jpX S p c x ++ jeX (jU S) p c x = _
  rw [jeX_f1 h1]; simp
theorem jpX_f2 {S : JS} {p c x : Nat} (h2 : jst (jU S) x c = false) : jpX S p c (x + 1) = jpX S p c x := by
  show jpX S p c x ++ jeX (jU S) p c x = _
  rw [jeX_f2 h2]; simp
theorem jpre_le {S : JS} (h : jWf S) {t p c x : Nat} (ht : t < 1001) (hp : p < jN S) (hc : c < jN S) (hx : x < 60) (e : jT S p = t) (h1 : jU S x c = some p) (h2 : jst (jU S) x c = true) : (jpT S t ++ jpP S t p ++ jpC S p c ++ jpX S p c x).length < 840 := by
  obtain ⟨r1, e1⟩ := jfl_cut (f := fun k => jeT (jN S) (jT S) (jU S) k) ht
  obtain ⟨r2, e2⟩ := jfl_cut (f := fun p => if jT S p == t then jeP (jN S) (jU S) p else []) hp
  obtain ⟨r3, e3⟩ := jfl_cut (f := fun c1 => jfl (fun x1 => jeX (jU S) p c1 x1) 60) hc
  obtain ⟨r4, e4⟩ := jfl_cut (f := fun x1 => jeX (jU S) p c x1) hx
  rw [if_pos (by simpa using e)] at e2
  rw [jeX_t h1 h2] at e4
  have a := jes_le h
  have a1 : (jpT S 1001).length = (jpT S t).length + ((jpP S t (jN S)).length + r1.length) := by
    have h9 := congrArg List.length e1
    rw [List.length_append, List.length_append] at h9
    exact h9
  have a2 : (jpP S t (jN S)).length = (jpP S t p).length + ((jpC S p (jN S)).length + r2.length) := by
    have h9 := congrArg List.length e2
    rw [List.length_append, List.length_append] at h9
    exact h9
  have a3 : (jpC S p (jN S)).length = (jpC S p c).length + ((jpX S p c 60).length + r3.length) := by
    have h9 := congrArg List.length e3
    rw [List.length_append, List.length_append] at h9
    exact h9
  have a4 : (jpX S p c 60).length = (jpX S p c x).length + (1 + r4.length) := by
    have h9 := congrArg List.length e4
    rw [List.length_append, List.length_append] at h9
    exact h9
  rw [jpT_end] at a1
  simp only [List.length_append]
  omega
