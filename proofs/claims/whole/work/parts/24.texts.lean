/-! What the throws need: words, texts; numbers of the arguments; codes, new values. -/
def jzs : List Cond := lw_tbl.filter jzw
def jtx : List (String × Nat × String) := [(RX0, 59, "time is not 0 .. 1000"), (RX0, 66, "there are 14 nodes"), (RX0, 79, "no such places or node"), (RX0, 82, "the parent's time is not greater"), (RX0, 88, "the child has another parent"), (RX0, 97, "no such place"), (RX0, 102, "no letter, or the place has a site"), (RX0, 104, "there are 8 sites"), (RX0, 109, "no such site or node"), (RX0, 111, "letter is not -1 .. 3"), (RX0, 123, "no such node"), (RX0, 129, "no such edge, or nothing that an edge has"), (RX0, 138, "no such place or node"), (RX0, 147, "no such run")]
abbrev jEO : String := "java/lang/IndexOutOfBoundsException"
abbrev jEA : String := "java/lang/IllegalArgumentException"
abbrev jES : String := "java/lang/IllegalStateException"
abbrev jnm : List String := ["java/lang/RuntimeException", "java/lang/Exception"]
set_option maxRecDepth 20000 in
theorem jvA1 : ∀ w ∈ (vx_atS RX0 61 jEA jnm).filter goodWord, w ∈ jW0 := by decide +kernel
set_option maxRecDepth 20000 in
theorem jvA2 : ∀ w ∈ (vx_atS RX0 61 jEA jnm).filter (fun w => !goodWord w), w ∈ jzs := by decide +kernel
set_option maxRecDepth 20000 in
theorem jvA3 : ∀ w ∈ Cond.classLink RX0 57 jEA :: Cond.initialized jEA :: vx_atS RX0 61 jEA jnm, vx_ot w = true := by decide +kernel
set_option maxRecDepth 20000 in
theorem jvS1 : ∀ w ∈ (vx_atS RX0 68 jES jnm).filter goodWord, w ∈ jW0 := by decide +kernel
set_option maxRecDepth 20000 in
theorem jvS2 : ∀ w ∈ (vx_atS RX0 68 jES jnm).filter (fun w => !goodWord w), w ∈ jzs := by decide +kernel
set_option maxRecDepth 20000 in
theorem jvS3 : ∀ w ∈ Cond.classLink RX0 64 jES :: Cond.initialized jES :: vx_atS RX0 68 jES jnm, vx_ot w = true := by decide +kernel
set_option maxRecDepth 20000 in
theorem jvO1 : ∀ w ∈ (vx_atS RX0 81 jEO jnm).filter goodWord, w ∈ jW0 := by decide +kernel
set_option maxRecDepth 20000 in
theorem jvO2 : ∀ w ∈ (vx_atS RX0 81 jEO jnm).filter (fun w => !goodWord w), w ∈ jzs := by decide +kernel
set_option maxRecDepth 20000 in
theorem jvO3 : ∀ w ∈ Cond.classLink RX0 77 jEO :: Cond.initialized jEO :: vx_atS RX0 81 jEO jnm, vx_ot w = true := by decide +kernel
def jv (z : Int32) : Nat := z.toNatClampNeg
theorem jv_nI {n : Nat} (h : n < 2 ^ 31) : jv (nI n) = n := nI_clamp h
def jcN (S : JS) (z : Int32) : Nat := if jin z 1001 = true then (if jN S = 14 then 2 else 0) else 1
def jaddN (S : JS) (z : Int32) (b : Bool) : JS := (jN S + 1, fun i => if i = jN S then jv z else jT S i, fun i => if i = jN S then b else jM S i, jU S, jK S, jP S, jA S, jL S, jB S)
def jsetU (S : JS) (i j c0 : Nat) (o : Option Nat) : JS := (jN S, jT S, jM S, fun x1 c1 => if c1 = c0 ∧ i ≤ x1 ∧ x1 < j then o else jU S x1 c1, jK S, jP S, jA S, jL S, jB S)
def jbes (S : JS) (i j p0 c0 : Nat) : Bool := jany (fun d => jU S (i + d) c0 != none && jU S (i + d) c0 != some p0) (j - i)
def jcJ (S : JS) (a b p c : Int32) : Nat := if (jrun a b && jin p (jN S) && jin c (jN S)) = true then (if jT S (jv p) ≤ jT S (jv c) then 2 else if jbes S (jv a) (jv b) (jv p) (jv c) = true then 3 else 0) else 1
def jaU (S : JS) (i j c0 : Nat) (o : Option Nat) : Nat := jct (fun d => jU S (i + d) c0 != o) (j - i)
def jcP (S : JS) (a b c : Int32) : Nat := if (jrun a b && jin c (jN S)) = true then 0 else 1
def jtaken (S : JS) (x : Nat) : Bool := jany (fun j => jP S j == x) (jK S)
def jcS (S : JS) (x a : Int32) : Nat := if jin x 60 = true then (if (jin a 4 && !jtaken S (jv x)) = true then (if jK S = 8 then 3 else 0) else 2) else 1
def jaddS (S : JS) (x a : Int32) : JS := (jN S, jT S, jM S, jU S, jK S + 1, fun i => if i = jK S then jv x else jP S i, fun i => if i = jK S then jv a else jA S i, jL S, jB S)
def jlo (z : Int32) : Option Nat := if z = -1 then none else some (jv z)
def jcM (S : JS) (i c z : Int32) : Nat := if (jin i (jK S) && jin c (jN S)) = true then (if z < -1 ∨ nI 4 ≤ z then 2 else 0) else 1
def jsetL (S : JS) (i c0 : Nat) (o : Option Nat) : JS := (jN S, jT S, jM S, jU S, jK S, jP S, jA S, fun i1 c1 => if i1 = i ∧ c1 = c0 then o else jL S i1 c1, jB S)
theorem jlo_of {z : Int32} (h1 : ¬ z < -1) (h2 : z < nI 4) : ∃ o, z = jeI o ∧ ∀ a, o = some a → a < 4 := by
  by_cases q : z = -1
  · exact ⟨none, q, fun a h => by cases h⟩
  · have e1 : (-1 : Int32).toInt = -1 := by decide
    have g1 : ¬ z.toInt < -1 := by rw [Int32.lt_iff_toInt_lt, e1] at h1; exact h1
    have g2 : z.toInt < 4 := by rw [Int32.lt_iff_toInt_lt, nI_toInt (by omega)] at h2; exact h2
    have g3 : ¬ z.toInt = -1 := fun e => q (Int32.toInt_inj.mp (by rw [e1]; exact e))
    obtain ⟨j, hj, rfl⟩ := jin_of (z := z) (n := 4) (jin_tt (by rw [Int32.lt_iff_toInt_lt, Int32.toInt_zero]; omega) h2) (by omega)
    exact ⟨some j, rfl, fun a h => by cases h; exact hj⟩
theorem jlo_eI {o : Option Nat} (h : ∀ a, o = some a → a < 4) : jlo (jeI o) = o := by
  cases o with
  | none => rfl
  | some a =>
    have ha := h a rfl
    show (if jeI (some a) = -1 then none else some (jv (jeI (some a)))) = some a
    rw [if_neg (show ¬ jeI (some a) = -1 from jnI_ne (by omega))]
    exact congrArg some (jv_nI (by omega))
def jcf (S : JS) (z : Int32) : Nat → Nat → Option Nat
  | 0, _ => if nI (jct (jsr S) 60) = z then some 60 else none
  | k + 1, x => if jsr S x = true ∧ nI (jct (jsr S) x) = z then some x else jcf S z k (x + 1)
def jcut (S : JS) (z : Int32) : Option Nat := jcf S z 60 0
/-- the new values hold what they must -/
theorem jaddN_wf {S : JS} (h : jWf S) {t0 : Nat} {b : Bool} (hn : jN S < 14) (ht : t0 < 1001) : jWf (jaddN S (nI t0) b) := by
  obtain ⟨wn, wt, wu, wk, wp, wl, wb⟩ := h
  refine ⟨by show jN S + 1 ≤ 14; omega, fun i hi => ?_, fun x c p e => ?_, wk, wp, fun i c a e => ?_, wb⟩
  · show (if i = jN S then jv (nI t0) else jT S i) ≤ 1000
    replace hi : i < jN S + 1 := hi
    split
    · rw [jv_nI (by omega)]; omega
    · exact wt i (by omega)
  · obtain ⟨h1, h2, h3⟩ := wu x c p e
    refine ⟨by show c < jN S + 1; omega, by show p < jN S + 1; omega, ?_⟩
    show (if c = jN S then jv (nI t0) else jT S c) < (if p = jN S then jv (nI t0) else jT S p)
    rw [if_neg (by omega), if_neg (by omega)]
    exact h3
  · obtain ⟨h1, h2, h3⟩ := wl i c a e
    exact ⟨h1, by show c < jN S + 1; omega, h3⟩
theorem jsetU_wf {S : JS} (h : jWf S) {i j c0 : Nat} {o : Option Nat} (hc : c0 < jN S) (ho : ∀ p, o = some p → p < jN S ∧ jT S c0 < jT S p) : jWf (jsetU S i j c0 o) := by
  obtain ⟨wn, wt, wu, wk, wp, wl, wb⟩ := h
  refine ⟨wn, wt, fun x c p e => ?_, wk, wp, wl, wb⟩
  replace e : (if c = c0 ∧ i ≤ x ∧ x < j then o else jU S x c) = some p := e
  split at e
  · rename_i q
    rw [q.1]
    exact ⟨hc, ho p e⟩
  · exact wu x c p e
theorem jaddS_wf {S : JS} (h : jWf S) {x0 a0 : Nat} (hk : jK S < 8) (hx : x0 < 60) (ha : a0 < 4) : jWf (jaddS S (nI x0) (nI a0)) := by
  obtain ⟨wn, wt, wu, wk, wp, wl, wb⟩ := h
  refine ⟨wn, wt, wu, by show jK S + 1 ≤ 8; omega, fun i hi => ?_, fun i c a e => ?_, wb⟩
  · replace hi : i < jK S + 1 := hi
    show (if i = jK S then jv (nI x0) else jP S i) < 60 ∧ (if i = jK S then jv (nI a0) else jA S i) < 4
    split
    · rw [jv_nI (by omega), jv_nI (by omega)]; exact ⟨hx, ha⟩
    · exact wp i (by omega)
  · obtain ⟨h1, h2, h3⟩ := wl i c a e
    exact ⟨by show i < jK S + 1; omega, h2, h3⟩
theorem jsetL_wf {S : JS} (h : jWf S) {i c0 : Nat} {o : Option Nat} (hi : i < jK S) (hc : c0 < jN S) (ho : ∀ a, o = some a → a < 4) : jWf (jsetL S i c0 o) := by
  obtain ⟨wn, wt, wu, wk, wp, wl, wb⟩ := h
  refine ⟨wn, wt, wu, wk, wp, fun i1 c1 a e => ?_, wb⟩
  replace e : (if i1 = i ∧ c1 = c0 then o else jL S i1 c1) = some a := e
  split at e
  · rename_i q
    rw [q.1, q.2]
    exact ⟨hi, hc, ho a e⟩
  · exact wl i1 c1 a e
theorem jxR1_addN {S : JS} {u : JX} {t0 : Nat} {b : Bool} (h : jxR1 S u) (ht : t0 < 1001) : jxR1 (jaddN S (nI t0) b) (jxsN (jxsM (jxsT u (upd (jxT u) (jN S) (nI t0))) (upd (jxM u) (jN S) (jbI b))) (nI (jN S + 1))) := by
  obtain ⟨rN, rT, rM, rU, rK, rP, rA, rL, rB⟩ := h
  refine ⟨rfl, fun i hi => ?_, fun i hi => ?_, rU, rK, rP, rA, rL, rB⟩
  · show upd (jxT u) (jN S) (nI t0) i = nI (if i = jN S then jv (nI t0) else jT S i)
    replace hi : i < jN S + 1 := hi
    by_cases q : i = jN S
    · rw [if_pos q, q, jv_nI (by omega)]; exact pk_us
    · rw [if_neg q, pk_un q]; exact rT i (by omega)
  · show upd (jxM u) (jN S) (jbI b) i = jbI (if i = jN S then b else jM S i)
    replace hi : i < jN S + 1 := hi
    by_cases q : i = jN S
    · rw [if_pos q, q]; exact pk_us
    · rw [if_neg q, pk_un q]; exact rM i (by omega)
theorem jxR1_addS {S : JS} {u : JX} {x0 a0 : Nat} (h : jxR1 S u) (hx : x0 < 60) (ha : a0 < 4) : jxR1 (jaddS S (nI x0) (nI a0)) (jxsK (jxsA (jxsP u (upd (jxP u) (jK S) (nI x0))) (upd (jxA u) (jK S) (nI a0))) (nI (jK S + 1))) := by
  obtain ⟨rN, rT, rM, rU, rK, rP, rA, rL, rB⟩ := h
  refine ⟨rN, rT, rM, rU, rfl, fun i hi => ?_, fun i hi => ?_, rL, rB⟩
  · show upd (jxP u) (jK S) (nI x0) i = nI (if i = jK S then jv (nI x0) else jP S i)
    replace hi : i < jK S + 1 := hi
    by_cases q : i = jK S
    · rw [if_pos q, q, jv_nI (by omega)]; exact pk_us
    · rw [if_neg q, pk_un q]; exact rP i (by omega)
  · show upd (jxA u) (jK S) (nI a0) i = nI (if i = jK S then jv (nI a0) else jA S i)
    replace hi : i < jK S + 1 := hi
    by_cases q : i = jK S
    · rw [if_pos q, q, jv_nI (by omega)]; exact pk_us
    · rw [if_neg q, pk_un q]; exact rA i (by omega)
theorem jxR1_setU {S : JS} {u : JX} {i j c0 : Nat} {o : Option Nat} {pa : Nat → Int32} (h : jxR1 S u) (hp : ∀ x1 c1, x1 < 60 → c1 < 14 → pa (x1 * 14 + c1) = jeI (if c1 = c0 ∧ i ≤ x1 ∧ x1 < j then o else jU S x1 c1)) : jxR1 (jsetU S i j c0 o) (jxsU u pa) := ⟨h.1, h.2.1, h.2.2.1, hp, h.2.2.2.2.1, h.2.2.2.2.2.1, h.2.2.2.2.2.2.1, h.2.2.2.2.2.2.2.1, h.2.2.2.2.2.2.2.2⟩
theorem jxR1_setL {S : JS} {u : JX} {i c0 : Nat} {o : Option Nat} (h : jxR1 S u) (hi : i < 8) (hc : c0 < 14) : jxR1 (jsetL S i c0 o) (jxsL u (upd (jxL u) (i * 14 + c0) (jeI o))) := by
  obtain ⟨rN, rT, rM, rU, rK, rP, rA, rL, rB⟩ := h
  refine ⟨rN, rT, rM, rU, rK, rP, rA, fun i1 c1 h1 h2 => ?_, rB⟩
  show upd (jxL u) (i * 14 + c0) (jeI o) (i1 * 14 + c1) = jeI (if i1 = i ∧ c1 = c0 then o else jL S i1 c1)
  by_cases q : i1 = i ∧ c1 = c0
  · rw [if_pos q, q.1, q.2]; exact pk_us
  · rw [if_neg q, pk_un (by omega)]; exact rL i1 c1 h1 h2
