/-! The list of edges, read by numbers. -/
def jes (S : JS) : List (Nat × Nat) := jeA (jN S) (jT S) (jU S)
def jge (S : JS) (z : Int32) : Option (Nat × Nat) := if jin z (jes S).length = true then (jes S)[jv z]? else none
def jgn (S : JS) (z : Int32) : Option Nat := (jge S z).map (fun y => y.1 * 14 + y.2)
theorem jes_le {S : JS} (h : jWf S) : (jes S).length ≤ 840 := by
  rw [jes, jeA_len h.2.1 h.2.2.1]
  have a := jsm_le (f := fun x => jct (fun c => jst (jU S) x c) (jN S)) (n := 60) (m := 14) (fun k _ => Nat.le_trans (jct_le _ _) h.1)
  omega
theorem jes_mem {S : JS} {x c : Nat} (h : (x, c) ∈ jes S) : x < 60 ∧ c < jN S ∧ ∃ p, jU S x c = some p := by
  simp only [jes, jeA, jeT] at h
  obtain ⟨k, -, h1⟩ := jfl_mem.mp h
  obtain ⟨p, -, h2⟩ := jfl_mem.mp h1
  split at h2
  · obtain ⟨c', hc, h3⟩ := jfl_mem.mp h2
    obtain ⟨x', hx, h4⟩ := jfl_mem.mp h3
    simp only [jeX] at h4
    split at h4
    · rename_i q
      simp only [List.mem_singleton, Prod.mk.injEq] at h4
      obtain ⟨rfl, rfl⟩ := h4
      simp only [Bool.and_eq_true, beq_iff_eq] at q
      exact ⟨hx, hc, p, q.1⟩
    · simp at h4
  · simp at h2
theorem jge_mem {S : JS} {z : Int32} {y : Nat × Nat} (h : jge S z = some y) : y.1 < 60 ∧ y.2 < jN S ∧ ∃ p, jU S y.1 y.2 = some p := by
  simp only [jge] at h
  split at h
  · obtain ⟨x, c⟩ := y
    exact jes_mem (List.mem_of_getElem? h)
  · cases h
theorem jgn_b {S : JS} (hW : jWf S) {z : Int32} {y : Nat} (h : jgn S z = some y) : y < 840 := by
  simp only [jgn, Option.map_eq_some_iff] at h
  obtain ⟨a, h1, h2⟩ := h
  have h3 := jge_mem h1
  have := hW.1
  omega
theorem jge_at {S : JS} (h : jWf S) {pre r : List (Nat × Nat)} {y : Nat × Nat} (e : jes S = pre ++ y :: r) : jge S (nI pre.length) = some y := by
  have a := jes_le h
  have b : pre.length < (jes S).length := by rw [e]; simp
  rw [jge, jin_nI (by omega) (by omega), if_pos (by simpa using b), jv_nI (by omega), e]
  simp
theorem jge_none {S : JS} (h : jWf S) {z : Int32} (e : ∀ j, j < (jes S).length → ¬ nI j = z) : jge S z = none := by
  rw [jge]
  split
  · rename_i q
    have a := jes_le h
    obtain ⟨j, hj, rfl⟩ := jin_of q (by omega)
    exact absurd rfl (e j hj)
  · rfl
theorem jfl_cut {α : Type} {f : Nat → List α} : ∀ {n i : Nat}, i < n → ∃ r, jfl f n = jfl f i ++ (f i ++ r) := by
  intro n
  induction n with
  | zero => intro i h; omega
  | succ n ih =>
    intro i h
    by_cases q : i = n
    · subst q; exact ⟨[], by simp [jfl]⟩
    · obtain ⟨r, hr⟩ := ih (i := i) (by omega)
      exact ⟨r ++ f n, by simp [jfl, hr]⟩
theorem jeX_t {up : Nat → Nat → Option Nat} {p c x : Nat} (h1 : up x c = some p) (h2 : jst up x c = true) : jeX up p c x = [(x, c)] := by simp [jeX, h1, h2]
theorem jeX_f1 {up : Nat → Nat → Option Nat} {p c x : Nat} (h1 : ¬ up x c = some p) : jeX up p c x = [] := by simp [jeX, h1]
theorem jeX_f2 {up : Nat → Nat → Option Nat} {p c x : Nat} (h2 : jst up x c = false) : jeX up p c x = [] := by simp [jeX, h2]
/-- the row of one edge stands where the walk is -/
theorem jed_here {S : JS} {d p c x : Nat} {pre : List (Nat × Nat)} (e : jes S = pre ++ jeR (jN S) (jT S) (jU S) (d + 1) (some p)) (hc : c < jN S) (hx : x < 60) (h1 : jU S x c = some p) (h2 : jst (jU S) x c = true) : ∃ r, jes S = (pre ++ jfl (fun c1 => jfl (fun x1 => jeX (jU S) p c1 x1) 60) c ++ jfl (fun x1 => jeX (jU S) p c x1) x) ++ (x, c) :: r := by
  obtain ⟨r1, e1⟩ := jfl_cut (f := fun c1 => jfl (fun x1 => jeX (jU S) p c1 x1) 60) hc
  obtain ⟨r2, e2⟩ := jfl_cut (f := fun x1 => jeX (jU S) p c x1) hx
  rw [jeX_t h1 h2] at e2
  refine ⟨r2 ++ (r1 ++ jeR (jN S) (jT S) (jU S) d (jnx (jT S) (some p) (jN S))), ?_⟩
  rw [e]
  simp only [jeR, jeP]
  rw [e1, e2]
  simp
def jedv (S : JS) (y : Nat × Nat) (w : Int32) : Int32 := if w = nI 0 then nI y.1 else if w = nI 1 then nI (jend S y.1 y.2) else if w = nI 2 then jeI (jU S y.1 y.2) else nI y.2
def jged (S : JS) (z w : Int32) : Option Int32 := if jin w 4 = true then (jge S z).map (fun y => jedv S y w) else none
theorem jged_0 {S : JS} {z w : Int32} (h : jge S z = none) : jged S z w = none := by rw [jged, h]; split <;> rfl
theorem jged_1 {S : JS} {z w : Int32} (h : jin w 4 = false) : jged S z w = none := by rw [jged, h]; rfl
theorem jged_2 {S : JS} {z w : Int32} {y : Nat × Nat} (h : jge S z = some y) (hw : jin w 4 = true) : jged S z w = some (jedv S y w) := by rw [jged, if_pos hw, h]; rfl
