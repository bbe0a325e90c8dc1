/-! The making smaller on the component's side: its stages, as values. -/
def jxPh (S : JS) (i x : Nat) (u : JX) : Prop := jxN u = nI (jN S) ∧ (∀ i, i < jN S → jxT u i = nI (jT S i)) ∧ (∀ i, i < jN S → jxM u i = jbI (jM S i)) ∧ (∀ x1 c, x1 < 60 → c < 14 → jxU u (x1 * 14 + c) = jeI (if x1 < x then jU (jsmall S) x1 c else jU S x1 c)) ∧ jxK u = nI (jK S) ∧ (∀ i, i < jK S → jxP u i = nI (jP S i)) ∧ (∀ i, i < jK S → jxA u i = nI (jA S i)) ∧ (∀ i1 c, i1 < 8 → c < 14 → jxL u (i1 * 14 + c) = jeI (if i1 < i then jL (jsmall S) i1 c else jL S i1 c)) ∧ (∀ c, c < 14 → jxB u c = jeI (jB (jsmall S) c)) ∧ (∀ x1, x1 < 60 → ∃ B, jxG u x1 = nI B ∧ jbt S x1 B)
def jcmo (S : JS) (i : Nat) (own o : Option Nat) : Option Nat := match own with
  | some a => some a
  | none => match o with
    | none => none
    | some y => if jmatS S (jP S i) y then none else jL S i y
def jcmP (S : JS) (i y : Nat) : Bool := jmatS S (jP S i) y || (jL S i y).isSome
theorem jcome_eq (S : JS) (i c : Nat) : jcome S i c = jcmo S i (jL S i c) (jpF (jU S (jP S i)) (jcmP S i) 14 (jU S (jP S i) c)) := by
  simp only [jcome, jcmo, jcmP]
  cases jL S i c <;> rfl
theorem jcmo_step {S : JS} {i d y : Nat} (hm : jmatS S (jP S i) y = false) : jcmo S i (jL S i y) (jpF (jU S (jP S i)) (jcmP S i) d (jU S (jP S i) y)) = jcmo S i none (jpF (jU S (jP S i)) (jcmP S i) (d + 1) (some y)) := by
  cases e : jL S i y with
  | none => simp [jpF, jcmP, hm, e]
  | some a => simp [jpF, jcmP, hm, e, jcmo]
def jrowU (S : JS) (x : Nat) : Nat → Nat → Option Nat
  | 0, _ => none
  | c + 1, k => if jmatS S x c = true ∧ jrk S c = k then (jnear S x c).map (jrk S) else jrowU S x c k
def jrowL (S : JS) (i : Nat) : Nat → Nat → Option Nat
  | 0, _ => none
  | c + 1, k => if jmatS S (jP S i) c = true ∧ jrk S c = k then jcome S i c else jrowL S i c k
theorem jinv_lt {P : Nat → Bool} {m k : Nat} (hP : P m = true) (hk : jct P m = k) : jinv P m k = none := jinv_none (by omega)
theorem jrowU_eq {S : JS} {x : Nat} (hx : x < 60) (m k : Nat) : jrowU S x m k = (jinv (jstay S) m k).bind (jupN S x) := by
  induction m with
  | zero => rfl
  | succ m ih =>
    simp only [jrowU, jinv]
    by_cases hm : jmatS S x m = true
    · have hs := jstay_of hx hm
      by_cases q : jrk S m = k
      · rw [if_pos ⟨hm, q⟩, if_pos (by simp [hs]; exact q)]
        simp [jupN, hm]
      · rw [if_neg (fun h => q h.2), if_neg (by simp [hs]; exact q), ih]
    · rw [if_neg (fun h => hm h.1)]
      by_cases q : (jstay S m && jct (jstay S) m == k) = true
      · rw [if_pos q, ih]
        simp only [Bool.and_eq_true, beq_iff_eq] at q
        rw [jinv_lt q.1 q.2]
        simp [jupN, hm]
      · rw [if_neg q, ih]
theorem jrowL_eq {S : JS} {i : Nat} (hi : jP S i < 60) (m k : Nat) : jrowL S i m k = (jinv (jstay S) m k).bind (jmuN S i) := by
  induction m with
  | zero => rfl
  | succ m ih =>
    simp only [jrowL, jinv]
    by_cases hm : jmatS S (jP S i) m = true
    · have hs := jstay_of hi hm
      by_cases q : jrk S m = k
      · rw [if_pos ⟨hm, q⟩, if_pos (by simp [hs]; exact q)]
        simp [jmuN, hm]
      · rw [if_neg (fun h => q h.2), if_neg (by simp [hs]; exact q), ih]
    · rw [if_neg (fun h => hm h.1)]
      by_cases q : (jstay S m && jct (jstay S) m == k) = true
      · rw [if_pos q, ih]
        simp only [Bool.and_eq_true, beq_iff_eq] at q
        rw [jinv_lt q.1 q.2]
        simp [jmuN, hm]
      · rw [if_neg q, ih]
theorem jsm_U {S : JS} {x k : Nat} (hx : x < 60) : jU (jsmall S) x k = jrowU S x (jN S) k := by
  rw [jrowU_eq hx]
  show (if x < 60 then (jold S k).bind (jupN S x) else none) = _
  rw [if_pos hx]
  rfl
theorem jsm_L {S : JS} (h : jWf S) {i k : Nat} (hi : i < jK S) : jL (jsmall S) i k = jrowL S i (jN S) k := by
  rw [jrowL_eq (h.2.2.2.2.1 i hi).1]
  show (if i < jK S then (jold S k).bind (jmuN S i) else none) = _
  rw [if_pos hi]
  rfl
theorem jsm_B {S : JS} {c : Nat} (hc : c < jN S) (hs : jstay S c = true) : jB (jsmall S) c = some (jrk S c) := by
  show (if c < jN S ∧ jstay S c = true then some (jrk S c) else none) = _
  rw [if_pos ⟨hc, hs⟩]
theorem jsm_Bn {S : JS} {c : Nat} (hs : ¬ (c < jN S ∧ jstay S c = true)) : jB (jsmall S) c = none := by
  show (if c < jN S ∧ jstay S c = true then some (jrk S c) else none) = _
  rw [if_neg hs]
theorem jrk_lt {S : JS} (h : jWf S) {c : Nat} (hc : c < jN S) (hs : jstay S c = true) : jrk S c < 14 := by
  have a := jct_lt2 hc hs
  have b : jct (jstay S) (jN S) ≤ jN S := jct_le _ _
  have := h.1
  show jct (jstay S) c < 14
  omega
theorem jrk_le (S : JS) (c : Nat) : jrk S c ≤ c := jct_le _ _
/-- who stays, by bits -/
theorem jstayB {S : JS} (h : jWf S) {B : Nat} (hB : ∀ c, B.testBit c = (decide (c < jN S) && jstay S c)) : (∀ c, c ≤ jN S → jct (fun c1 => B.testBit c1) c = jrk S c) ∧ jct (fun c1 => B.testBit c1) 14 = jrk S (jN S) := by
  have a : ∀ c, c ≤ jN S → jct (fun c1 => B.testBit c1) c = jrk S c := fun c hc => jct_congr (fun k hk => by rw [hB]; simp; omega)
  refine ⟨a, ?_⟩
  rw [jct_trunc h.1 (fun k h1 _ => by rw [hB]; simp; omega)]
  exact a _ (Nat.le_refl _)
theorem jbt_at {S : JS} {x B c : Nat} (h : jbt S x B) (hc : c < jN S) : B.testBit c = jmatS S x c := by rw [h.2 c]; simp [hc]
/-- what the way up leaves behind it: a number below the height -/
theorem jup_h {S : JS} (h : jWf S) {x c y : Nat} (e : jU S x c = some y) (hc : c < jN S) : jht (jN S) (jT S) y < 13 := by
  have a := jht_up (jup_S h x) e
  have b := jht_lt (t := jT S) hc
  have := h.1
  omega
theorem jPh_L {S : JS} (h : jWf S) {i : Nat} {u : JX} {mu : Nat → Int32} (H : jxPh S i 0 u) (hi : i < jK S) (hm : ∀ k, k < 112 → mu k = if i * 14 ≤ k ∧ k < i * 14 + 14 then jeI (jrowL S i (jN S) (k - i * 14)) else jxL u k) (ro : Nat → Int32) : jxPh S (i + 1) 0 (jxsL (jxsR u ro) mu) := by
  obtain ⟨rN, rT, rM, rU, rK, rP, rA, rL, rB, rG⟩ := H
  refine ⟨rN, rT, rM, rU, rK, rP, rA, fun i1 c1 h1 h2 => ?_, rB, rG⟩
  show mu (i1 * 14 + c1) = _
  rw [hm _ (by omega)]
  by_cases q : i1 = i
  · subst q
    rw [if_pos (by omega), if_pos (by omega), jsm_L h hi, show i1 * 14 + c1 - i1 * 14 = c1 by omega]
  · rw [if_neg (by omega), rL i1 c1 h1 h2]
    by_cases q2 : i1 < i
    · rw [if_pos q2, if_pos (by omega)]
    · rw [if_neg q2, if_neg (by omega)]
theorem jPh_U {S : JS} {k x : Nat} {u : JX} {pa : Nat → Int32} (H : jxPh S k x u) (hx : x < 60) (hm : ∀ k, k < 840 → pa k = if x * 14 ≤ k ∧ k < x * 14 + 14 then jeI (jrowU S x (jN S) (k - x * 14)) else jxU u k) (ro : Nat → Int32) : jxPh S k (x + 1) (jxsU (jxsR u ro) pa) := by
  obtain ⟨rN, rT, rM, rU, rK, rP, rA, rL, rB, rG⟩ := H
  refine ⟨rN, rT, rM, fun x1 c1 h1 h2 => ?_, rK, rP, rA, rL, rB, rG⟩
  show pa (x1 * 14 + c1) = _
  rw [hm _ (by omega)]
  by_cases q : x1 = x
  · subst q
    rw [if_pos (by omega), if_pos (by omega), jsm_U hx, show x1 * 14 + c1 - x1 * 14 = c1 by omega]
  · rw [if_neg (by omega), rU x1 c1 h1 h2]
    by_cases q2 : x1 < x
    · rw [if_pos q2, if_pos (by omega)]
    · rw [if_neg q2, if_neg (by omega)]
theorem jcpy {f g : Nat → Int32} {d k : Nat} : va_cpy f g 0 d 14 k = if d ≤ k ∧ k < d + 14 then f (k - d) else g k := by
  simp only [va_cpy, Nat.zero_add]
theorem jcpy_row {f g F : Nat → Int32} {d k : Nat} (hf : ∀ j, j < 14 → f j = F j) : va_cpy f g 0 d 14 k = if d ≤ k ∧ k < d + 14 then F (k - d) else g k := by
  rw [jcpy]
  by_cases q : d ≤ k ∧ k < d + 14
  · rw [if_pos q, if_pos q, hf _ (by omega)]
  · rw [if_neg q, if_neg q]
/-- nodes that move down -/
def jxPn (S : JS) (i : Nat) (u : JX) : Prop := (∀ k, k < jrk S i → jxT u k = nI (jT (jsmall S) k)) ∧ (∀ k, k < jrk S i → jxM u k = jbI (jM (jsmall S) k)) ∧ (∀ k, i ≤ k → k < jN S → jxT u k = nI (jT S k)) ∧ (∀ k, i ≤ k → k < jN S → jxM u k = jbI (jM S k))
theorem jPn_0 {S : JS} {u : JX} (h1 : ∀ i, i < jN S → jxT u i = nI (jT S i)) (h2 : ∀ i, i < jN S → jxM u i = jbI (jM S i)) : jxPn S 0 u := ⟨fun k hk => absurd hk (Nat.not_lt_zero _), fun k hk => absurd hk (Nat.not_lt_zero _), fun k _ hk => h1 k hk, fun k _ hk => h2 k hk⟩
theorem jPn_stay {S : JS} {i : Nat} {u : JX} (h : jxPn S i u) (hi : i < jN S) (hs : jstay S i = true) {ti mi : Int32} (ht : ti = nI (jT S i)) (hm : mi = jbI (jM S i)) : jxPn S (i + 1) (jxsM (jxsT u (upd (jxT u) (jrk S i) ti)) (upd (jxM u) (jrk S i) mi)) := by
  obtain ⟨a, b, c, d⟩ := h
  subst ht
  subst hm
  have r1 : jrk S (i + 1) = jrk S i + 1 := by show jct (jstay S) i + _ = _; simp [hs]; rfl
  have ro := jold_of hi hs
  have le := jrk_le S i
  refine ⟨fun k hk => ?_, fun k hk => ?_, fun k h1 h2 => ?_, fun k h1 h2 => ?_⟩
  · show upd (jxT u) (jrk S i) (nI (jT S i)) k = _
    by_cases q : k = jrk S i
    · subst q
      rw [pk_us]
      show _ = nI (((jold S (jrk S i)).map (jT S)).getD 0)
      rw [ro]; rfl
    · rw [pk_un q]; exact a k (by omega)
  · show upd (jxM u) (jrk S i) (jbI (jM S i)) k = _
    by_cases q : k = jrk S i
    · subst q
      rw [pk_us]
      show _ = jbI (((jold S (jrk S i)).map (jM S)).getD false)
      rw [ro]; rfl
    · rw [pk_un q]; exact b k (by omega)
  · show upd (jxT u) (jrk S i) (nI (jT S i)) k = _
    rw [pk_un (by omega)]; exact c k (by omega) h2
  · show upd (jxM u) (jrk S i) (jbI (jM S i)) k = _
    rw [pk_un (by omega)]; exact d k (by omega) h2
theorem jPn_go {S : JS} {i : Nat} {u : JX} (h : jxPn S i u) (hs : jstay S i = false) : jxPn S (i + 1) u := by
  obtain ⟨a, b, c, d⟩ := h
  have r1 : jrk S (i + 1) = jrk S i := by show jct (jstay S) i + _ = _; simp [hs]; rfl
  exact ⟨fun k hk => a k (by omega), fun k hk => b k (by omega), fun k h1 h2 => c k (by omega) h2, fun k h1 h2 => d k (by omega) h2⟩
theorem jrowU_at {S : JS} {x c : Nat} (h : jmatS S x c = true) : jrowU S x (c + 1) (jrk S c) = (jnear S x c).map (jrk S) := by simp only [jrowU]; rw [if_pos ⟨h, trivial⟩]
theorem jrowU_ne {S : JS} {x c k : Nat} (h : ¬ k = jrk S c) : jrowU S x (c + 1) k = jrowU S x c k := by simp only [jrowU]; rw [if_neg (fun q => h q.2.symm)]
theorem jrowU_no {S : JS} {x c k : Nat} (h : jmatS S x c = false) : jrowU S x (c + 1) k = jrowU S x c k := by simp only [jrowU]; rw [if_neg (by simp [h])]
theorem jrowL_at {S : JS} {i c : Nat} (h : jmatS S (jP S i) c = true) : jrowL S i (c + 1) (jrk S c) = jcome S i c := by simp only [jrowL]; rw [if_pos ⟨h, trivial⟩]
theorem jrowL_ne {S : JS} {i c k : Nat} (h : ¬ k = jrk S c) : jrowL S i (c + 1) k = jrowL S i c k := by simp only [jrowL]; rw [if_neg (fun q => h q.2.symm)]
theorem jrowL_no {S : JS} {i c k : Nat} (h : jmatS S (jP S i) c = false) : jrowL S i (c + 1) k = jrowL S i c k := by simp only [jrowL]; rw [if_neg (by simp [h])]
theorem jPh_end {S : JS} (h : jWf S) {i x : Nat} {u : JX} {ta sa : Nat → Int32} (H : jxPh S i x u) (hi : jK S ≤ i) (hx : 60 ≤ x) (hn : jxPn S (jN S) (jxsM (jxsT u ta) sa)) : jxR1 (jsmall S) (jxsN (jxsM (jxsT u ta) sa) (nI (jrk S (jN S)))) := by
  obtain ⟨rN, rT, rM, rU, rK, rP, rA, rL, rB, rG⟩ := H
  refine ⟨rfl, fun k hk => hn.1 k hk, fun k hk => hn.2.1 k hk, fun x1 c1 h1 h2 => ?_, rK, rP, rA, fun i1 c1 h1 h2 => ?_, rB⟩
  · have h9 := rU x1 c1 h1 h2
    rw [if_pos (by omega)] at h9
    exact h9
  · have h9 := rL i1 c1 h1 h2
    by_cases q : i1 < i
    · rw [if_pos q] at h9; exact h9
    · rw [if_neg q] at h9
      have e1 : jL S i1 c1 = none := by
        cases e : jL S i1 c1 with
        | none => rfl
        | some a => have := (h.2.2.2.2.2.1 i1 c1 a e).1; omega
      have e2 : jL (jsmall S) i1 c1 = none := by
        cases e : jL (jsmall S) i1 c1 with
        | none => rfl
        | some a => have := ((jsmall_wf h).2.2.2.2.2.1 i1 c1 a e).1; have e3 : jK (jsmall S) = jK S := rfl; omega
      rw [e1] at h9
      rw [e2]
      exact h9
