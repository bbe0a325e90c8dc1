/-! Codes of the reference's calls; its new values. -/
def jc1 (b : Bool) : Nat := if b then 0 else 1
theorem jmR1_addN {S : JS} {u : JM} {t0 : Nat} {b : Bool} {pa mu : Nat → Int32} (hW : jWf S) (h : jmR1 S u) (ht : t0 < 1001) (hn : jN S < 14) (hp1 : ∀ k, (k < 60 * jN S ∨ 60 * jN S + 60 ≤ k) → pa k = jmU u k) (hp2 : ∀ x, x < 60 → pa (60 * jN S + x) = nI 0) (hm1 : ∀ i c, i < 8 → c < jN S → mu (14 * i + c) = jmL u (14 * i + c)) (hm2 : ∀ i, i < 8 → mu (14 * i + jN S) = nI 0) (z : Int32) : jmR1 (jaddN S (nI t0) b) (jmsN (jmsL (jmsU (jmsM (jmsT (jmsF u z) (upd (jmT u) (jN S) (nI t0))) (upd (jmM u) (jN S) (jbI b))) pa) mu) (nI (jN S + 1))) := by
  obtain ⟨rN, rT, rM, rU, rK, rP, rA, rL, rB⟩ := h
  refine ⟨rfl, fun i hi => ?_, fun i hi => ?_, fun x c hx hc => ?_, rK, rP, rA, fun i c hi hc => ?_, rB⟩
  · show upd (jmT u) (jN S) (nI t0) i = nI (if i = jN S then jv (nI t0) else jT S i)
    replace hi : i < jN S + 1 := hi
    by_cases q : i = jN S
    · rw [if_pos q, q, jv_nI (by omega)]; exact pk_us
    · rw [if_neg q, pk_un q]; exact rT i (by omega)
  · show upd (jmM u) (jN S) (jbI b) i = jbI (if i = jN S then b else jM S i)
    replace hi : i < jN S + 1 := hi
    by_cases q : i = jN S
    · rw [if_pos q, q]; exact pk_us
    · rw [if_neg q, pk_un q]; exact rM i (by omega)
  · show pa (60 * c + x) = nI (joN (jU S x c))
    replace hc : c < jN S + 1 := hc
    by_cases q : c = jN S
    · subst q
      have e : jU S x (jN S) = none := by
        cases e : jU S x (jN S) with
        | none => rfl
        | some p => have := (hW.2.2.1 x _ p e).1; omega
      rw [e, hp2 x hx]; rfl
    · rw [hp1 _ (by omega)]; exact rU x c hx (by omega)
  · show mu (14 * i + c) = nI (joN (jL S i c))
    replace hc : c < jN S + 1 := hc
    by_cases q : c = jN S
    · subst q
      have e : jL S i (jN S) = none := by
        cases e : jL S i (jN S) with
        | none => rfl
        | some p => have := (hW.2.2.2.2.2.1 i _ p e).2.1; omega
      rw [e, hm2 i hi]; rfl
    · rw [hm1 i c hi (by omega)]; exact rL i c hi (by omega)
theorem jmR1_addS {S : JS} {u : JM} {x0 a0 : Nat} (h : jmR1 S u) (hx : x0 < 60) (ha : a0 < 4) (z : Int32) : jmR1 (jaddS S (nI x0) (nI a0)) (jmsK (jmsA (jmsP (jmsF u z) (upd (jmP u) (jK S) (nI x0))) (upd (jmA u) (jK S) (nI a0))) (nI (jK S + 1))) := by
  obtain ⟨rN, rT, rM, rU, rK, rP, rA, rL, rB⟩ := h
  refine ⟨rN, rT, rM, rU, rfl, fun i hi => ?_, fun i hi => ?_, rL, rB⟩
  · show upd (jmP u) (jK S) (nI x0) i = nI (if i = jK S then jv (nI x0) else jP S i)
    replace hi : i < jK S + 1 := hi
    by_cases q : i = jK S
    · rw [if_pos q, q, jv_nI (by omega)]; exact pk_us
    · rw [if_neg q, pk_un q]; exact rP i (by omega)
  · show upd (jmA u) (jK S) (nI a0) i = nI (if i = jK S then jv (nI a0) else jA S i)
    replace hi : i < jK S + 1 := hi
    by_cases q : i = jK S
    · rw [if_pos q, q, jv_nI (by omega)]; exact pk_us
    · rw [if_neg q, pk_un q]; exact rA i (by omega)
theorem jmR1_setL {S : JS} {u : JM} {i c0 : Nat} {o : Option Nat} (h : jmR1 S u) (hn : jN S ≤ 14) (hi : i < 8) (hc : c0 < jN S) (z : Int32) : jmR1 (jsetL S i c0 o) (jmsL (jmsF u z) (upd (jmL u) (14 * i + c0) (nI (joN o)))) := by
  obtain ⟨rN, rT, rM, rU, rK, rP, rA, rL, rB⟩ := h
  refine ⟨rN, rT, rM, rU, rK, rP, rA, fun i1 c1 h1 h2 => ?_, rB⟩
  replace h2 : c1 < jN S := h2
  show upd (jmL u) (14 * i + c0) (nI (joN o)) (14 * i1 + c1) = nI (joN (if i1 = i ∧ c1 = c0 then o else jL S i1 c1))
  by_cases q : i1 = i ∧ c1 = c0
  · rw [if_pos q, q.1, q.2]; exact pk_us
  · rw [if_neg q, pk_un (by omega)]; exact rL i1 c1 h1 h2
theorem jmR1_setU {S : JS} {u : JM} {i j c0 : Nat} {o : Option Nat} {pa : Nat → Int32} (h : jmR1 S u) (hp : ∀ x1 c1, x1 < 60 → c1 < jN S → pa (60 * c1 + x1) = nI (joN (if c1 = c0 ∧ i ≤ x1 ∧ x1 < j then o else jU S x1 c1))) (z : Int32) : jmR1 (jsetU S i j c0 o) (jmsU (jmsF u z) pa) := ⟨h.1, h.2.1, h.2.2.1, hp, h.2.2.2.2.1, h.2.2.2.2.2.1, h.2.2.2.2.2.2.1, h.2.2.2.2.2.2.2.1, h.2.2.2.2.2.2.2.2⟩
theorem jeI_joN (o : Option Nat) : jeI o + nI 1 = nI (joN o) := by
  cases o with
  | none => decide
  | some p => exact nI_1 p
