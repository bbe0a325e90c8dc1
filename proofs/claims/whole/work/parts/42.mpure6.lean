/-! The making smaller on the reference's side: its stages, as values. -/
def jsetB (S : JS) (b : Nat → Option Nat) : JS := (jN S, jT S, jM S, jU S, jK S, jP S, jA S, jL S, b)
theorem jsetB_wf {S : JS} (h : jWf S) {b : Nat → Option Nat} (hb : ∀ c a, b c = some a → a < 14) : jWf (jsetB S b) := by
  obtain ⟨wn, wt, wu, wk, wp, wl, wb⟩ := h
  exact ⟨wn, wt, wu, wk, wp, wl, hb⟩
def jbA (S : JS) (i c : Nat) : Option Nat := if c < i then jB (jsmall S) c else jB S c
theorem jbA_lt {S : JS} (h : jWf S) (i : Nat) : ∀ c a, jbA S i c = some a → a < 14 := fun c a e => by
  simp only [jbA] at e
  split at e
  · exact (jsmall_wf h).2.2.2.2.2.2 c a e
  · exact h.2.2.2.2.2.2 c a e
def jrA (S : JS) (i : Nat) : Nat := jct (fun c => decide (c < jN S) && jstay S c) i
theorem jrA_le {S : JS} {i : Nat} (h : i ≤ jN S) : jrA S i = jrk S i := jct_congr (fun k hk => by simp; omega)
theorem jrA_14 (S : JS) (i : Nat) (h : i ≤ 14) : jrA S i ≤ 14 := Nat.le_trans (jct_le _ _) h
theorem jrA_end {S : JS} (hW : jWf S) : jrA S 14 = jrk S (jN S) := by
  rw [jrA, jct_trunc hW.1 (fun k h1 _ => by simp; omega)]
  exact jrA_le (Nat.le_refl _)
theorem jrA_s {S : JS} {i : Nat} (h : i < jN S) (hs : jstay S i = true) : jrA S (i + 1) = jrA S i + 1 := by
  show jct _ i + _ = _
  simp [h, hs, jrA]
theorem jrA_n {S : JS} {i : Nat} (h : ¬ (i < jN S ∧ jstay S i = true)) : jrA S (i + 1) = jrA S i := by
  show jct _ i + _ = _
  rw [if_neg (by simpa using h)]
  rfl
theorem jsetB_stay (S : JS) (b : Nat → Option Nat) (c : Nat) : jstay (jsetB S b) c = jstay S c := rfl
theorem jsetB_mat (S : JS) (b : Nat → Option Nat) (x c : Nat) : jmatS (jsetB S b) x c = jmatS S x c := rfl
theorem jsetB_near (S : JS) (b : Nat → Option Nat) (x c : Nat) : jnear (jsetB S b) x c = jnear S x c := rfl
theorem jsetB_come (S : JS) (b : Nat → Option Nat) (x c : Nat) : jcome (jsetB S b) x c = jcome S x c := rfl
theorem jR1_B0 {S : JS} {u : JM} (h : jmR1 S u) (z : Int32) : jmR1 (jsetB S (jbA S 0)) (jmsF u z) := by
  obtain ⟨rN, rT, rM, rU, rK, rP, rA, rL, rB⟩ := h
  refine ⟨rN, rT, rM, rU, rK, rP, rA, rL, fun c hc => ?_⟩
  show _ = jeI (if c < 0 then jB (jsmall S) c else jB S c)
  rw [if_neg (Nat.not_lt_zero _)]
  exact rB c hc
theorem jR1_B1 {S : JS} {v : JM} {i : Nat} {z : Int32} (h : jmR1 (jsetB S (jbA S i)) v) (hz : z = jeI (jB (jsmall S) i)) : jmR1 (jsetB S (jbA S (i + 1))) (jmsB v (upd (jmB v) i z)) := by
  obtain ⟨rN, rT, rM, rU, rK, rP, rA, rL, rB⟩ := h
  refine ⟨rN, rT, rM, rU, rK, rP, rA, rL, fun c hc => ?_⟩
  show upd (jmB v) i z c = jeI (if c < i + 1 then jB (jsmall S) c else jB S c)
  by_cases q : c = i
  · subst q
    rw [pk_us, if_pos (by omega)]; exact hz
  · rw [pk_un q, rB c hc]
    show jeI (if c < i then jB (jsmall S) c else jB S c) = _
    by_cases q2 : c < i
    · rw [if_pos q2, if_pos (by omega)]
    · rw [if_neg q2, if_neg (by omega)]
abbrev jS1 (S : JS) : JS := jsetB S (jB (jsmall S))
theorem jS1_wf {S : JS} (h : jWf S) : jWf (jS1 S) := jsetB_wf h (jsmall_wf h).2.2.2.2.2.2
theorem jR1_B2 {S : JS} {v : JM} {i : Nat} (h : jmR1 (jsetB S (jbA S i)) v) (hi : 14 ≤ i) : jmR1 (jS1 S) v := by
  obtain ⟨rN, rT, rM, rU, rK, rP, rA, rL, rB⟩ := h
  refine ⟨rN, rT, rM, rU, rK, rP, rA, rL, fun c hc => ?_⟩
  rw [rB c hc]
  show jeI (if c < i then jB (jsmall S) c else jB S c) = _
  rw [if_pos (by omega)]; rfl
def jmx (S : JS) (i c : Nat) : Option Nat := if i < jK S then jmuN S i c else none
def jmQ (S : JS) (c x i : Nat) (v : JM) : Prop := jmR1 (jS1 S) v ∧ jmF v = nI 0 ∧ (∀ c1, c1 < c → jstay S c1 = true → (∀ x1, x1 < 60 → jmV v (60 * jrk S c1 + x1) = nI (joN (jupN S x1 c1))) ∧ (∀ i1, i1 < 8 → jmW v (14 * i1 + jrk S c1) = nI (joN (jmx S i1 c1)))) ∧ (jstay S c = true → (∀ x1, x1 < x → jmV v (60 * jrk S c + x1) = nI (joN (jupN S x1 c))) ∧ (∀ i1, i1 < i → jmW v (14 * i1 + jrk S c) = nI (joN (jmx S i1 c))))
theorem jmQ_V {S : JS} {c x i : Nat} {v : JM} {z : Int32} (h : jmQ S c x i v) (hx : x < 60) (hz : z = nI (joN (jupN S x c))) : jmQ S c (x + 1) i (jmsV v (upd (jmV v) (60 * jrk S c + x) z)) := by
  obtain ⟨h1, h2, h3, h4⟩ := h
  refine ⟨h1, h2, fun c1 l1 s1 => ⟨fun x1 l2 => ?_, (h3 c1 l1 s1).2⟩, fun s1 => ⟨fun x1 l2 => ?_, (h4 s1).2⟩⟩
  · show upd (jmV v) (60 * jrk S c + x) z (60 * jrk S c1 + x1) = _
    have a : jrk S c1 < jrk S c := jct_lt2 l1 s1
    rw [pk_un (by omega)]
    exact (h3 c1 l1 s1).1 x1 l2
  · show upd (jmV v) (60 * jrk S c + x) z (60 * jrk S c + x1) = _
    by_cases q : x1 = x
    · subst q; rw [pk_us]; exact hz
    · rw [pk_un (by omega)]; exact (h4 s1).1 x1 (by omega)
theorem jmQ_W {S : JS} {c x i : Nat} {v : JM} {z : Int32} (h : jmQ S c x i v) (hc : jrk S c < 14) (hz : z = nI (joN (jmx S i c))) : jmQ S c x (i + 1) (jmsW v (upd (jmW v) (14 * i + jrk S c) z)) := by
  obtain ⟨h1, h2, h3, h4⟩ := h
  refine ⟨h1, h2, fun c1 l1 s1 => ⟨(h3 c1 l1 s1).1, fun x1 l2 => ?_⟩, fun s1 => ⟨(h4 s1).1, fun x1 l2 => ?_⟩⟩
  · show upd (jmW v) (14 * i + jrk S c) z (14 * x1 + jrk S c1) = _
    have a : jrk S c1 < jrk S c := jct_lt2 l1 s1
    rw [pk_un (by omega)]
    exact (h3 c1 l1 s1).2 x1 l2
  · show upd (jmW v) (14 * i + jrk S c) z (14 * x1 + jrk S c) = _
    by_cases q : x1 = i
    · subst q; rw [pk_us]; exact hz
    · rw [pk_un (by omega)]; exact (h4 s1).2 x1 (by omega)
theorem jmQ_n {S : JS} {c x i : Nat} {v : JM} (h : jmQ S c x i v) (hs : jstay S c = false) (x' i' : Nat) : jmQ S c x' i' v := ⟨h.1, h.2.1, h.2.2.1, fun s1 => by rw [hs] at s1; cases s1⟩
theorem jmQ_end {S : JS} {c : Nat} {v : JM} (h : jmQ S c 60 8 v) : jmQ S (c + 1) 0 0 v := by
  obtain ⟨h1, h2, h3, h4⟩ := h
  refine ⟨h1, h2, fun c1 l1 s1 => ?_, fun s1 => ⟨fun x1 l2 => absurd l2 (Nat.not_lt_zero _), fun x1 l2 => absurd l2 (Nat.not_lt_zero _)⟩⟩
  by_cases q : c1 = c
  · subst q; exact h4 s1
  · exact h3 c1 (by omega) s1
theorem jmQ_0 {S : JS} {v : JM} (h : jmR1 (jS1 S) v) (hF : jmF v = nI 0) : jmQ S 0 0 0 v := ⟨h, hF, fun c1 l1 => absurd l1 (Nat.not_lt_zero _), fun s1 => ⟨fun x1 l2 => absurd l2 (Nat.not_lt_zero _), fun x1 l2 => absurd l2 (Nat.not_lt_zero _)⟩⟩
theorem jupN_0 {S : JS} {x c : Nat} (h : jmatS S x c = false) : nI 0 = nI (joN (jupN S x c)) := by rw [jupN, h]; rfl
theorem jupN_1 {S : JS} {x c : Nat} (h : jnear S x c = none) : nI 0 = nI (joN (jupN S x c)) := by
  rw [jupN, h]
  cases jmatS S x c <;> rfl
theorem jupN_2 {S : JS} {x c y : Nat} (hm : jmatS S x c = true) (h : jnear S x c = some y) : nI (jrk S y + 1) = nI (joN (jupN S x c)) := by rw [jupN, h, hm]; rfl
theorem jmx_0 {S : JS} {i c : Nat} (h : jK S ≤ i) : nI 0 = nI (joN (jmx S i c)) := by rw [jmx, if_neg (by omega)]; rfl
theorem jmx_1 {S : JS} {i c : Nat} (h : jmatS S (jP S i) c = false) : nI 0 = nI (joN (jmx S i c)) := by
  rw [jmx, jmuN, h]
  by_cases q : i < jK S
  · rw [if_pos q]; rfl
  · rw [if_neg q]; rfl
theorem jmx_2 {S : JS} {i c : Nat} (hi : i < jK S) (h : jmatS S (jP S i) c = true) : nI (joN (jcome S i c)) = nI (joN (jmx S i c)) := by rw [jmx, if_pos hi, jmuN, h]; rfl
theorem jinv_ex {P : Nat → Bool} {k : Nat} : ∀ {n : Nat}, k < jct P n → ∃ c, jinv P n k = some c := by
  intro n
  induction n with
  | zero => intro h; exact absurd h (Nat.not_lt_zero _)
  | succ n ih =>
    intro h
    simp only [jinv]
    by_cases q : (P n && jct P n == k) = true
    · exact ⟨n, by rw [if_pos q]⟩
    · rw [if_neg q]
      apply ih
      simp only [jct] at h
      simp only [Bool.and_eq_true, beq_iff_eq, not_and] at q
      by_cases q1 : P n = true
      · have := q q1
        rw [if_pos q1] at h
        omega
      · rw [if_neg q1] at h
        omega
theorem jmQ_fin {S : JS} {v : JM} {ta sa pa mu : Nat → Int32} (h : jmQ S (jN S) 0 0 v) (hn : jxPn S (jN S) (jxsM (jxsT v ta) sa)) (hp : ∀ j, j < 60 * jrk S (jN S) → pa j = jmV v j) (hw : ∀ j, j < 112 → j % 14 < jrk S (jN S) → mu j = jmW v j) (hr : jrk S (jN S) ≤ 14) : jmR1 (jsmall S) (jmsL (jmsU (jmsN (jmsM (jmsT v ta) sa) (nI (jrk S (jN S)))) pa) mu) := by
  obtain ⟨⟨rN, rT, rM, rU, rK, rP, rA, rL, rB⟩, h2, h3, h4⟩ := h
  have ex : ∀ k, k < jrk S (jN S) → ∃ c1, jold S k = some c1 ∧ c1 < jN S ∧ jstay S c1 = true ∧ jrk S c1 = k := fun k hk => by
    obtain ⟨c1, e⟩ := jinv_ex (P := jstay S) (n := jN S) hk
    exact ⟨c1, e, jinv_some e⟩
  refine ⟨rfl, fun k hk => hn.1 k hk, fun k hk => hn.2.1 k hk, fun x c hx hc => ?_, rK, rP, rA, fun i c hi hc => ?_, rB⟩
  · replace hc : c < jrk S (jN S) := hc
    obtain ⟨c1, e, l1, s1, r1⟩ := ex c hc
    show pa (60 * c + x) = nI (joN (if x < 60 then (jold S c).bind (jupN S x) else none))
    rw [if_pos hx, e, hp _ (by omega), ← r1]
    exact (h3 c1 l1 s1).1 x hx
  · replace hc : c < jrk S (jN S) := hc
    obtain ⟨c1, e, l1, s1, r1⟩ := ex c hc
    show mu (14 * i + c) = nI (joN (if i < jK S then (jold S c).bind (jmuN S i) else none))
    rw [e, hw _ (by omega) (by omega), ← r1]
    exact (h3 c1 l1 s1).2 i hi
