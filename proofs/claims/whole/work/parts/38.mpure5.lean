/-! The reference's edge, as values. -/
theorem jes_ct {S : JS} (h : jWf S) : (jes S).length = jsm (fun x => jct (fun c => jst (jU S) x c) (jN S)) 60 := jeA_len h.2.1 h.2.2.1
theorem jged_n1 {S : JS} (h : jWf S) {z w : Int32} (hz : z < 0) : jged S z w = none := jged_0 (by rw [jge, jin_ff1 hz]; rfl)
theorem jged_n2 {S : JS} {z w : Int32} (hz : ¬ z < nI (jes S).length) : jged S z w = none := jged_0 (by rw [jge, jin_ff2 hz]; rfl)
theorem jend_at {S : JS} {x c : Nat} (hx : x < 60) : jene (fun e => jU S e c == jU S x c) (60 - x) x = jend S x c := by
  rw [show 60 - x = (60 - (x + 1)) + 1 by omega]
  simp [jene, jend]
