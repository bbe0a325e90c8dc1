/-! A call that is not refused keeps the value well formed. -/
theorem jin_v {z : Int32} {n : Nat} (h : jin z n = true) (hn : n < 2 ^ 31) : jv z < n ∧ z = nI (jv z) := by
  obtain ⟨j, hj, rfl⟩ := jin_of h hn
  rw [jv_nI (by omega)]
  exact ⟨hj, rfl⟩
theorem jwf_N {S : JS} (h : jWf S) {z : Int32} {b : Bool} (hc : jcN S z = 0) : jWf (jaddN S z b) := by
  have hn := h.1
  simp only [jcN] at hc
  split at hc
  · rename_i h1
    split at hc
    · cases hc
    · rename_i h2
      obtain ⟨j, hj, rfl⟩ := jin_of h1 (by omega)
      exact jaddN_wf h (by omega) hj
  · cases hc
theorem jwf_P {S : JS} (h : jWf S) {a b c : Int32} (hc : jcP S a b c = 0) : jWf (jsetU S (jv a) (jv b) (jv c) none) := by
  have hn := h.1
  simp only [jcP] at hc
  split at hc
  · rename_i h1
    simp only [Bool.and_eq_true] at h1
    exact jsetU_wf h (jin_v h1.2 (by omega)).1 (fun p e => by cases e)
  · cases hc
theorem jwf_J {S : JS} (h : jWf S) {a b p c : Int32} (hc : jcJ S a b p c = 0) : jWf (jsetU S (jv a) (jv b) (jv c) (some (jv p))) := by
  have hn := h.1
  simp only [jcJ] at hc
  split at hc
  · rename_i h1
    simp only [Bool.and_eq_true] at h1
    split at hc
    · cases hc
    · rename_i h2
      exact jsetU_wf h (jin_v h1.2 (by omega)).1 (fun p9 e => by cases e; exact ⟨(jin_v h1.1.2 (by omega)).1, by omega⟩)
  · cases hc
theorem jwf_S {S : JS} (h : jWf S) {x a : Int32} (hc : jcS S x a = 0) : jWf (jaddS S x a) := by
  have hk := h.2.2.2.1
  simp only [jcS] at hc
  split at hc
  · rename_i h1
    split at hc
    · rename_i h2
      simp only [Bool.and_eq_true] at h2
      split at hc
      · cases hc
      · rename_i h3
        obtain ⟨x0, hx, rfl⟩ := jin_of h1 (by omega)
        obtain ⟨a0, ha, rfl⟩ := jin_of h2.1 (by omega)
        exact jaddS_wf h (by omega) hx ha
    · cases hc
  · cases hc
theorem jwf_M {S : JS} (h : jWf S) {i c z : Int32} (hc : jcM S i c z = 0) : jWf (jsetL S (jv i) (jv c) (jlo z)) := by
  have hn := h.1
  have hk := h.2.2.2.1
  simp only [jcM] at hc
  split at hc
  · rename_i h1
    simp only [Bool.and_eq_true] at h1
    split at hc
    · cases hc
    · rename_i h2
      have h3 : ¬ z < -1 := fun q => h2 (Or.inl q)
      have h4 : z < nI 4 := by
        have q : ¬ nI 4 ≤ z := fun q => h2 (Or.inr q)
        rw [Int32.lt_iff_toInt_lt]
        rw [Int32.le_iff_toInt_le] at q
        omega
      obtain ⟨o, rfl, ho⟩ := jlo_of h3 h4
      rw [jlo_eI ho]
      exact jsetL_wf h (jin_v h1.1 (by omega)).1 (jin_v h1.2 (by omega)).1 ho
  · cases hc
