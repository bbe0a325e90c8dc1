/-! The making smaller, as a value. -/
def jany (P : Nat → Bool) : Nat → Bool
  | 0 => false
  | k + 1 => jany P k || P k
theorem jany_iff {P : Nat → Bool} {n : Nat} : jany P n = true ↔ ∃ k, k < n ∧ P k = true := by
  induction n with
  | zero => simp [jany]
  | succ n ih =>
    simp only [jany, Bool.or_eq_true, ih]
    constructor
    · rintro (⟨k, h1, h2⟩ | h)
      · exact ⟨k, by omega, h2⟩
      · exact ⟨n, by omega, h⟩
    · rintro ⟨k, h1, h2⟩
      by_cases e : k = n
      · subst e; exact Or.inr h2
      · exact Or.inl ⟨k, by omega, h2⟩
def jinv (P : Nat → Bool) : Nat → Nat → Option Nat
  | 0, _ => none
  | c + 1, k => if P c && jct P c == k then some c else jinv P c k
theorem jct_lt2 {P : Nat → Bool} {c d : Nat} (h : c < d) (hP : P c = true) : jct P c < jct P d := by
  obtain ⟨e, rfl⟩ : ∃ e, d = c + 1 + e := ⟨d - c - 1, by omega⟩
  rw [jct_add]
  simp only [jct, hP, if_true]
  omega
theorem jct_le2 {P : Nat → Bool} {c d : Nat} (h : c ≤ d) : jct P c ≤ jct P d := by
  obtain ⟨e, rfl⟩ : ∃ e, d = c + e := ⟨d - c, by omega⟩
  rw [jct_add]
  omega
theorem jct_inj {P : Nat → Bool} {c d : Nat} (hc : P c = true) (hd : P d = true) (h : jct P c = jct P d) : c = d := by
  rcases Nat.lt_trichotomy c d with h1 | h1 | h1
  · have := jct_lt2 h1 hc; omega
  · exact h1
  · have := jct_lt2 h1 hd; omega
theorem jinv_some {P : Nat → Bool} : ∀ {n k c : Nat}, jinv P n k = some c → c < n ∧ P c = true ∧ jct P c = k := by
  intro n
  induction n with
  | zero => intro k c h; simp [jinv] at h
  | succ n ih =>
    intro k c h
    simp only [jinv] at h
    split at h
    · rename_i h1
      cases h
      simp only [Bool.and_eq_true, beq_iff_eq] at h1
      exact ⟨by omega, h1.1, h1.2⟩
    · obtain ⟨h1, h2, h3⟩ := ih h
      exact ⟨by omega, h2, h3⟩
theorem jinv_of {P : Nat → Bool} : ∀ {n c : Nat}, c < n → P c = true → jinv P n (jct P c) = some c := by
  intro n
  induction n with
  | zero => intro c h; omega
  | succ n ih =>
    intro c h hP
    simp only [jinv]
    by_cases e : c = n
    · subst e; simp [hP]
    · rw [if_neg, ih (by omega) hP]
      simp only [Bool.and_eq_true, beq_iff_eq, not_and]
      intro hn q
      exact e (jct_inj hP hn q.symm)
theorem jinv_none {P : Nat → Bool} {n k : Nat} (h : jct P n ≤ k) : jinv P n k = none := by
  cases hj : jinv P n k with
  | none => rfl
  | some c =>
    obtain ⟨h1, h2, h3⟩ := jinv_some hj
    have := jct_lt2 h1 h2
    omega
def jmatS (S : JS) (x c : Nat) : Bool := jmat (jN S) (jM S) (jU S x) c
def jstay (S : JS) (c : Nat) : Bool := jany (fun x => jmatS S x c) 60
def jnear (S : JS) (x c : Nat) : Option Nat := jpF (jU S x) (jmatS S x) 14 (jU S x c)
def jcome (S : JS) (i c : Nat) : Option Nat := match jL S i c with
  | some a => some a
  | none => match jpF (jU S (jP S i)) (fun y => jmatS S (jP S i) y || (jL S i y).isSome) 14 (jU S (jP S i) c) with
    | none => none
    | some y => if jmatS S (jP S i) y then none else jL S i y
def jrk (S : JS) (c : Nat) : Nat := jct (jstay S) c
def jold (S : JS) (k : Nat) : Option Nat := jinv (jstay S) (jN S) k
def jupN (S : JS) (x c : Nat) : Option Nat := if jmatS S x c then (jnear S x c).map (jrk S) else none
def jmuN (S : JS) (i c : Nat) : Option Nat := if jmatS S (jP S i) c then jcome S i c else none
def jsmall (S : JS) : JS :=
  (jrk S (jN S), fun k => ((jold S k).map (jT S)).getD 0, fun k => ((jold S k).map (jM S)).getD false,
   fun x k => if x < 60 then (jold S k).bind (jupN S x) else none, jK S, jP S, jA S,
   fun i k => if i < jK S then (jold S k).bind (jmuN S i) else none, fun c => if c < jN S ∧ jstay S c = true then some (jrk S c) else none)
theorem jstay_of {S : JS} {x c : Nat} (hx : x < 60) (h : jmatS S x c = true) : jstay S c = true := jany_iff.mpr ⟨x, hx, h⟩
theorem jup_S {S : JS} (h : jWf S) (x : Nat) : jup (jN S) (jT S) (jU S x) := fun c p e => h.2.2.1 x c p e
theorem jpF_time {n : Nat} {t : Nat → Nat} {up : Nat → Option Nat} (h : jup n t up) {P : Nat → Bool} : ∀ {k : Nat} {c y x : Nat}, up c = some y → jpF up P k (some y) = some x → t c < t x := by
  intro k
  induction k with
  | zero => intro c y x _ h2; simp [jpF] at h2
  | succ k ih =>
    intro c y x h1 h2
    have a := (h c y h1).2.2
    simp only [jpF] at h2
    split at h2
    · cases h2; exact a
    · cases e : up y with
      | none => rw [e, jpF_none] at h2; cases h2
      | some z =>
        rw [e] at h2
        have b := ih e h2
        omega
theorem jnear_of {S : JS} (h : jWf S) {x c d : Nat} (e : jnear S x c = some d) : d < jN S ∧ jmatS S x d = true ∧ jT S c < jT S d := by
  have hu := jup_S h x
  simp only [jnear] at e
  cases hc : jU S x c with
  | none => rw [hc, jpF_none] at e; cases e
  | some y =>
    rw [hc] at e
    exact ⟨jpF_lt hu (fun z hz => by cases hz; exact (hu c y hc).2.1) e, jpF_P e, jpF_time hu hc e⟩
theorem jold_of {S : JS} {c : Nat} (hc : c < jN S) (hs : jstay S c = true) : jold S (jrk S c) = some c := jinv_of hc hs
theorem jcome_lt {S : JS} (h : jWf S) {i c a : Nat} (e : jcome S i c = some a) : i < jK S ∧ a < 4 := by
  simp only [jcome] at e
  split at e
  · rename_i b hb
    cases e
    exact ⟨(h.2.2.2.2.2.1 i c a hb).1, (h.2.2.2.2.2.1 i c a hb).2.2⟩
  · split at e
    · cases e
    · rename_i y hy
      split at e
      · cases e
      · exact ⟨(h.2.2.2.2.2.1 i y a e).1, (h.2.2.2.2.2.1 i y a e).2.2⟩
theorem jsmall_wf {S : JS} (h : jWf S) : jWf (jsmall S) := by
  obtain ⟨wn, wt, wu, wk, wp, wl, wb⟩ := id h
  have hn : jrk S (jN S) ≤ jN S := jct_le _ _
  have hold : ∀ {k c : Nat}, jold S k = some c → c < jN S ∧ jstay S c = true ∧ jrk S c = k ∧ k < jrk S (jN S) := fun {k c} e => by
    obtain ⟨h1, h2, h3⟩ := jinv_some e
    refine ⟨h1, h2, h3, ?_⟩
    have := jct_lt2 h1 h2
    show k < jct (jstay S) (jN S)
    omega
  refine ⟨by show jrk S (jN S) ≤ 14; omega, fun i _ => ?_, fun x k j e => ?_, wk, wp, fun i k a e => ?_, fun c a e => ?_⟩
  · show ((jold S i).map (jT S)).getD 0 ≤ 1000
    cases e : jold S i with
    | none => simp
    | some c => simpa using wt c (hold e).1
  · replace e : (if x < 60 then (jold S k).bind (jupN S x) else none) = some j := e
    split at e
    · rename_i hx
      cases ek : jold S k with
      | none => rw [ek] at e; cases e
      | some c =>
        rw [ek] at e
        replace e : jupN S x c = some j := e
        simp only [jupN] at e
        split at e
        · cases en : jnear S x c with
          | none => rw [en] at e; cases e
          | some d =>
            rw [en] at e
            replace e : some (jrk S d) = some j := e
            cases e
            obtain ⟨d1, d2, d3⟩ := jnear_of h en
            have ds := jstay_of hx d2
            have hd := jold_of d1 ds
            obtain ⟨c1, c2, c3, c4⟩ := hold ek
            refine ⟨c4, (hold hd).2.2.2, ?_⟩
            show ((jold S k).map (jT S)).getD 0 < ((jold S (jrk S d)).map (jT S)).getD 0
            rw [ek, hd]
            exact d3
        · cases e
    · cases e
  · replace e : (if i < jK S then (jold S k).bind (jmuN S i) else none) = some a := e
    split at e
    · cases ek : jold S k with
      | none => rw [ek] at e; cases e
      | some c =>
        rw [ek] at e
        replace e : jmuN S i c = some a := e
        simp only [jmuN] at e
        split at e
        · exact ⟨(jcome_lt h e).1, (hold ek).2.2.2, (jcome_lt h e).2⟩
        · cases e
    · cases e
  · replace e : (if c < jN S ∧ jstay S c = true then some (jrk S c) else none) = some a := e
    split at e
    · rename_i hc
      cases e
      have := jct_lt2 hc.1 hc.2
      show jct (jstay S) c < 14
      have h9 : jct (jstay S) (jN S) ≤ jN S := jct_le _ _
      omega
    · cases e
