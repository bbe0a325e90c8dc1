section
/-! The state of the system as a value, and the two pictures of it: the cells of the component (jx) and of the reference (jm). -/
def jeI : Option Nat → Int32
  | none => -1
  | some p => nI p
def jbI : Bool → Int32
  | true => 1
  | false => 0
def joN : Option Nat → Nat
  | none => 0
  | some p => p + 1
theorem jeI_none : jeI none = -1 := rfl
theorem jeI_some (p : Nat) : jeI (some p) = nI p := rfl
theorem jnI_ne {p : Nat} (h : p < 2 ^ 31) : ¬ nI p = -1 := fun q => by
  have a := nI_toInt h
  rw [q] at a
  have b : (-1 : Int32).toInt = -1 := by decide
  rw [b] at a
  omega
theorem jeI_m1 {o : Option Nat} (h : ∀ p, o = some p → p < 2 ^ 31) : jeI o = -1 ↔ o = none := by
  cases o with
  | none => simp [jeI]
  | some p => exact ⟨fun q => absurd q (jnI_ne (h p rfl)), fun q => by cases q⟩
theorem jeI_inj {o o' : Option Nat} (h : ∀ p, o = some p → p < 2 ^ 31) (h' : ∀ p, o' = some p → p < 2 ^ 31) : jeI o = jeI o' ↔ o = o' := by
  cases o with
  | none =>
    cases o' with
    | none => simp
    | some p => exact ⟨fun q => absurd q.symm (jnI_ne (h' p rfl)), fun q => by cases q⟩
  | some p =>
    cases o' with
    | none => exact ⟨fun q => absurd q (jnI_ne (h p rfl)), fun q => by cases q⟩
    | some p' =>
      refine ⟨fun q => ?_, fun q => by rw [q]⟩
      rw [(nI_eq (h p rfl) (h' p' rfl)).mp q]
theorem joN_eI (o : Option Nat) : nI (joN o) - 1 = jeI o := by
  cases o with
  | none => decide
  | some p => exact nI_pred p
theorem jeI_lt0 {o : Option Nat} (h : ∀ p, o = some p → p < 2 ^ 31) : jeI o < 0 ↔ o = none := by
  cases o with
  | none => exact ⟨fun _ => rfl, fun _ => by decide⟩
  | some p => exact ⟨fun q => absurd q (nI_pos (h p rfl)), fun q => by cases q⟩
theorem jeI_ge0 {o : Option Nat} (h : ∀ p, o = some p → p < 2 ^ 31) : 0 ≤ jeI o ↔ ¬ o = none := by
  cases o with
  | none => exact ⟨fun q => absurd q (by decide), fun q => absurd rfl q⟩
  | some p => exact ⟨fun _ q => (by cases q), fun _ => nI_pos' (h p rfl)⟩
theorem jbI_ne (b : Bool) : jbI b = 0 ↔ b = false := by cases b <;> decide
theorem jbI_nar (b : Bool) : vp_nar .boolean (jbI b) = jbI b := by cases b <;> rfl
theorem jbI_narrow (b : Bool) : narrow .boolean (.int (jbI b)) = .int (jbI b) := by cases b <;> rfl
/-- nodes, times, samples, parents (place, node), sites, their places, ancestral letters, mutations (site, node), new numbers -/
abbrev JS : Type := Nat × (Nat → Nat) × (Nat → Bool) × (Nat → Nat → Option Nat) × Nat × (Nat → Nat) × (Nat → Nat) × (Nat → Nat → Option Nat) × (Nat → Option Nat)
def jN (S : JS) : Nat := S.1
def jT (S : JS) : Nat → Nat := S.2.1
def jM (S : JS) : Nat → Bool := S.2.2.1
def jU (S : JS) : Nat → Nat → Option Nat := S.2.2.2.1
def jK (S : JS) : Nat := S.2.2.2.2.1
def jP (S : JS) : Nat → Nat := S.2.2.2.2.2.1
def jA (S : JS) : Nat → Nat := S.2.2.2.2.2.2.1
def jL (S : JS) : Nat → Nat → Option Nat := S.2.2.2.2.2.2.2.1
def jB (S : JS) : Nat → Option Nat := S.2.2.2.2.2.2.2.2
def jWf (S : JS) : Prop := jN S ≤ 14 ∧ (∀ i, i < jN S → jT S i ≤ 1000) ∧ (∀ x c p, jU S x c = some p → c < jN S ∧ p < jN S ∧ jT S c < jT S p) ∧ jK S ≤ 8 ∧ (∀ i, i < jK S → jP S i < 60 ∧ jA S i < 4) ∧ (∀ i c a, jL S i c = some a → i < jK S ∧ c < jN S ∧ a < 4) ∧ (∀ c a, jB S c = some a → a < 14)
/-- how many k below n have P -/
def jct (P : Nat → Bool) : Nat → Nat
  | 0 => 0
  | k + 1 => jct P k + (if P k then 1 else 0)
theorem jct_le (P : Nat → Bool) (n : Nat) : jct P n ≤ n := by
  induction n with
  | zero => exact Nat.le_refl _
  | succ n ih => simp only [jct]; split <;> omega
theorem jct_mono {P P' : Nat → Bool} {n : Nat} (h : ∀ k, k < n → P k = true → P' k = true) : jct P n ≤ jct P' n := by
  induction n with
  | zero => exact Nat.le_refl _
  | succ n ih =>
    have a := ih (fun k hk => h k (by omega))
    have b := h n (by omega)
    simp only [jct]
    cases hp : P n <;> cases hq : P' n <;> simp_all <;> omega
theorem jct_lt {P P' : Nat → Bool} {n j : Nat} (h : ∀ k, k < n → P k = true → P' k = true) (hj : j < n) (h1 : P j = false) (h2 : P' j = true) : jct P n < jct P' n := by
  induction n with
  | zero => omega
  | succ n ih =>
    simp only [jct]
    by_cases e : j = n
    · subst e
      have a := jct_mono (n := j) (fun k hk => h k (by omega))
      simp [h1, h2]
      omega
    · have a := ih (fun k hk => h k (by omega)) (by omega)
      have b := h n (by omega)
      cases hp : P n <;> cases hq : P' n <;> simp_all <;> omega
/-- the first on the way up, of at most k steps, that has P -/
def jpF (up : Nat → Option Nat) (P : Nat → Bool) : Nat → Option Nat → Option Nat
  | 0, _ => none
  | _ + 1, none => none
  | k + 1, some x => if P x then some x else jpF up P k (up x)
theorem jpF_none (up : Nat → Option Nat) (P : Nat → Bool) (k : Nat) : jpF up P k none = none := by cases k <;> rfl
/-- parents are younger than the next: at most n nodes, each later than the one below it -/
def jup (n : Nat) (t : Nat → Nat) (up : Nat → Option Nat) : Prop := ∀ c p, up c = some p → c < n ∧ p < n ∧ t c < t p
def jht (n : Nat) (t : Nat → Nat) (x : Nat) : Nat := jct (fun y => decide (t x < t y)) n
theorem jht_up {n : Nat} {t : Nat → Nat} {up : Nat → Option Nat} (h : jup n t up) {c p : Nat} (e : up c = some p) : jht n t p < jht n t c := by
  obtain ⟨h1, h2, h3⟩ := h c p e
  refine jct_lt (j := p) (fun k _ hk => ?_) h2 (by simp) (by simpa using h3)
  simp only [decide_eq_true_eq] at hk ⊢
  omega
theorem jht_lt {n : Nat} {t : Nat → Nat} {x : Nat} (hx : x < n) : jht n t x < n := by
  have a : jct (fun y => decide (t x < t y)) n < jct (fun _ => true) n := jct_lt (j := x) (fun _ _ _ => rfl) hx (by simp) rfl
  exact Nat.lt_of_lt_of_le a (jct_le _ _)
theorem jpF_more {n : Nat} {t : Nat → Nat} {up : Nat → Option Nat} (h : jup n t up) (P : Nat → Bool) : ∀ (k x : Nat), jht n t x < k → jpF up P (k + 1) (some x) = jpF up P k (some x) := by
  intro k
  induction k with
  | zero => intro x hx; omega
  | succ k ih =>
    intro x hx
    simp only [jpF]
    split
    · rfl
    · cases e : up x with
      | none => cases k <;> rfl
      | some p =>
        have a := jht_up h e
        exact ih p (by omega)
/-- a step of the way up, where its length doesn't matter -/
theorem jpF_step {n : Nat} {t : Nat → Nat} {up : Nat → Option Nat} (h : jup n t up) (hn : n ≤ 14) (P : Nat → Bool) (x : Nat) : jpF up P 14 (some x) = if P x then some x else jpF up P 14 (up x) := by
  show (if P x then some x else jpF up P 13 (up x)) = _
  split
  · rfl
  · cases e : up x with
    | none => rfl
    | some p =>
      have a := jht_up h e
      have b := jht_lt (t := t) (h x p e).1
      exact (jpF_more h P 13 p (by omega)).symm
theorem jpF_P {up : Nat → Option Nat} {P : Nat → Bool} : ∀ {k : Nat} {o : Option Nat} {x : Nat}, jpF up P k o = some x → P x = true := by
  intro k
  induction k with
  | zero => intro o x h; simp [jpF] at h
  | succ k ih =>
    intro o x h
    cases o with
    | none => simp [jpF] at h
    | some y =>
      simp only [jpF] at h
      split at h
      · rename_i hp
        cases h
        exact hp
      · exact ih h
theorem jpF_lt {n : Nat} {t : Nat → Nat} {up : Nat → Option Nat} (h : jup n t up) {P : Nat → Bool} : ∀ {k : Nat} {o : Option Nat} {x : Nat}, (∀ y, o = some y → y < n) → jpF up P k o = some x → x < n := by
  intro k
  induction k with
  | zero => intro o x _ h; simp [jpF] at h
  | succ k ih =>
    intro o x ho hx
    cases o with
    | none => simp [jpF] at hx
    | some y =>
      simp only [jpF] at hx
      split at hx
      · cases hx
        exact ho _ rfl
      · exact ih (fun z hz => (h y z hz).2.1) hx
def jhold (up : Nat → Option Nat) (x c : Nat) : Bool := (jpF up (fun y => y == x) 14 (some c)).isSome
def junder (n : Nat) (sm : Nat → Bool) (up : Nat → Option Nat) (x : Nat) : Nat := jct (fun c => sm c && jhold up x c) n
def jfork (n : Nat) (sm : Nat → Bool) (up : Nat → Option Nat) (x : Nat) : Nat := jct (fun c => up c == some x && decide (0 < junder n sm up c)) n
def jmat (n : Nat) (sm : Nat → Bool) (up : Nat → Option Nat) (x : Nat) : Bool := sm x || decide (1 < jfork n sm up x)
def jmeet (up : Nat → Option Nat) (a b : Nat) : Option Nat := jpF up (fun x => jhold up x b) 14 (some a)
def jlet (up : Nat → Option Nat) (mu : Nat → Option Nat) (an c : Nat) : Nat := match jpF up (fun x => (mu x).isSome) 14 (some c) with
  | none => an
  | some x => (mu x).getD 0
theorem jbI_nz (b : Bool) : (¬ jbI b = 0) ↔ b = true := by cases b <;> decide
theorem ja_inc (i : Nat) : nI i + Int32.ofInt 1 = nI (i + 1) := (nI_succ i).symm
/-- a number of something that there are n of -/
def jin (z : Int32) (n : Nat) : Bool := decide (0 ≤ z ∧ z < nI n)
theorem jin_of {z : Int32} {n : Nat} (h : jin z n = true) (hn : n < 2 ^ 31) : ∃ j, j < n ∧ z = nI j := by
  simp only [jin, decide_eq_true_eq] at h
  rcases pk_ix z hn with h1 | h1 | h1
  · rw [Int32.lt_iff_toInt_lt] at h1
    have h2 := Int32.le_iff_toInt_le.mp h.1
    omega
  · have h2 := Int32.lt_iff_toInt_lt.mp h.2
    rw [Int32.le_iff_toInt_le] at h1
    omega
  · exact h1
theorem jin_nI {j n : Nat} (hj : j < 2 ^ 31) (hn : n < 2 ^ 31) : jin (nI j) n = decide (j < n) := by
  simp only [jin]
  congr 1
  rw [nI_ltI hj hn]
  simp [nI_pos' hj]
def jrun (a b : Int32) : Bool := decide (0 ≤ a ∧ a < b ∧ b ≤ nI 60)
theorem jrun_of {a b : Int32} (h : jrun a b = true) : ∃ i j, i < j ∧ j ≤ 60 ∧ a = nI i ∧ b = nI j := by
  simp only [jrun, decide_eq_true_eq] at h
  obtain ⟨h1, h2, h3⟩ := h
  have g1 := Int32.le_iff_toInt_le.mp h1
  have g2 := Int32.lt_iff_toInt_lt.mp h2
  have g3 := Int32.le_iff_toInt_le.mp h3
  have e60 : (nI 60).toInt = 60 := nI_toInt (by omega)
  have e0 : (0 : Int32).toInt = 0 := by decide
  rw [e60] at g3
  rw [e0] at g1
  have ja : jin a 61 = true := by
    simp only [jin, decide_eq_true_eq]
    refine ⟨h1, Int32.lt_iff_toInt_lt.mpr ?_⟩
    rw [nI_toInt (by omega)]
    omega
  have jb : jin b 61 = true := by
    simp only [jin, decide_eq_true_eq]
    refine ⟨Int32.le_iff_toInt_le.mpr ?_, Int32.lt_iff_toInt_lt.mpr ?_⟩
    · rw [e0]; omega
    · rw [nI_toInt (by omega)]; omega
  obtain ⟨i, hi, rfl⟩ := jin_of ja (by omega)
  obtain ⟨j, hj, rfl⟩ := jin_of jb (by omega)
  rw [nI_toInt (by omega)] at g2 g3
  rw [nI_toInt (by omega)] at g2
  exact ⟨i, j, by omega, by omega, rfl, rfl⟩
/-- sums and lists by counting up -/
def jsm (f : Nat → Nat) : Nat → Nat
  | 0 => 0
  | k + 1 => jsm f k + f k
theorem jsm_congr {f g : Nat → Nat} {n : Nat} (h : ∀ k, k < n → f k = g k) : jsm f n = jsm g n := by
  induction n with
  | zero => rfl
  | succ n ih => simp only [jsm]; rw [ih (fun k hk => h k (by omega)), h n (by omega)]
theorem jsm_zero {f : Nat → Nat} {n : Nat} (h : ∀ k, k < n → f k = 0) : jsm f n = 0 := by
  induction n with
  | zero => rfl
  | succ n ih => simp only [jsm]; rw [ih (fun k hk => h k (by omega)), h n (by omega)]
theorem jsm_add (f g : Nat → Nat) (n : Nat) : jsm (fun k => f k + g k) n = jsm f n + jsm g n := by
  induction n with
  | zero => rfl
  | succ n ih => simp only [jsm]; rw [ih]; omega
theorem jsm_swap (f : Nat → Nat → Nat) (a b : Nat) : jsm (fun i => jsm (fun k => f i k) b) a = jsm (fun k => jsm (fun i => f i k) a) b := by
  induction a with
  | zero => exact (jsm_zero (fun _ _ => rfl)).symm
  | succ a ih =>
    simp only [jsm]
    rw [ih, ← jsm_add]
theorem jsm_le {f : Nat → Nat} {n m : Nat} (h : ∀ k, k < n → f k ≤ m) : jsm f n ≤ n * m := by
  induction n with
  | zero => simp [jsm]
  | succ n ih =>
    have a := ih (fun k hk => h k (by omega))
    have b := h n (by omega)
    simp only [jsm]
    rw [Nat.succ_mul]
    omega
theorem jct_sm (P : Nat → Bool) (n : Nat) : jct P n = jsm (fun k => if P k then 1 else 0) n := by
  induction n with
  | zero => rfl
  | succ n ih => simp only [jct, jsm]; rw [ih]
theorem jct_congr {P P' : Nat → Bool} {n : Nat} (h : ∀ k, k < n → P k = P' k) : jct P n = jct P' n := by
  induction n with
  | zero => rfl
  | succ n ih => simp only [jct]; rw [ih (fun k hk => h k (by omega)), h n (by omega)]
def jfl {α : Type} (f : Nat → List α) : Nat → List α
  | 0 => []
  | k + 1 => jfl f k ++ f k
theorem jfl_len {α : Type} (f : Nat → List α) (n : Nat) : (jfl f n).length = jsm (fun k => (f k).length) n := by
  induction n with
  | zero => rfl
  | succ n ih => simp only [jfl, jsm, List.length_append]; rw [ih]
theorem jin_t {z : Int32} {n : Nat} (h1 : ¬ z < 0) (h2 : ¬ nI n ≤ z) : jbI (jin z n) = nI 1 := by
  have a : jin z n = true := by
    simp only [jin, decide_eq_true_eq]
    rw [Int32.lt_iff_toInt_lt] at h1
    rw [Int32.le_iff_toInt_le] at h2
    rw [Int32.le_iff_toInt_le, Int32.lt_iff_toInt_lt]
    omega
  rw [a]; decide
theorem jin_f1 {z : Int32} {n : Nat} (h1 : z < 0) : jbI (jin z n) = nI 0 := by
  have a : jin z n = false := by
    simp only [jin, decide_eq_false_iff_not]
    rw [Int32.lt_iff_toInt_lt] at h1
    rw [Int32.le_iff_toInt_le]
    omega
  rw [a]; decide
theorem jin_f2 {z : Int32} {n : Nat} (h2 : nI n ≤ z) : jbI (jin z n) = nI 0 := by
  have a : jin z n = false := by
    simp only [jin, decide_eq_false_iff_not]
    rw [Int32.le_iff_toInt_le] at h2
    rw [Int32.lt_iff_toInt_lt]
    omega
  rw [a]; decide
theorem jrun_t {a b : Int32} (h1 : ¬ a < 0) (h2 : ¬ b ≤ a) (h3 : ¬ nI 60 < b) : jbI (jrun a b) = nI 1 := by
  have e : jrun a b = true := by
    simp only [jrun, decide_eq_true_eq]
    rw [Int32.lt_iff_toInt_lt] at h1 h3
    rw [Int32.le_iff_toInt_le] at h2
    rw [Int32.le_iff_toInt_le, Int32.lt_iff_toInt_lt, Int32.le_iff_toInt_le]
    omega
  rw [e]; decide
theorem jrun_f1 {a b : Int32} (h1 : a < 0) : jbI (jrun a b) = nI 0 := by
  have e : jrun a b = false := by
    simp only [jrun, decide_eq_false_iff_not]
    rw [Int32.lt_iff_toInt_lt] at h1
    rw [Int32.le_iff_toInt_le]
    omega
  rw [e]; decide
theorem jrun_f2 {a b : Int32} (h2 : b ≤ a) : jbI (jrun a b) = nI 0 := by
  have e : jrun a b = false := by
    simp only [jrun, decide_eq_false_iff_not]
    rw [Int32.le_iff_toInt_le] at h2
    rw [Int32.lt_iff_toInt_lt]
    omega
  rw [e]; decide
theorem jrun_f3 {a b : Int32} (h3 : nI 60 < b) : jbI (jrun a b) = nI 0 := by
  have e : jrun a b = false := by
    simp only [jrun, decide_eq_false_iff_not]
    rw [Int32.lt_iff_toInt_lt] at h3
    rw [Int32.le_iff_toInt_le (x := b)]
    omega
  rw [e]; decide
theorem jb1 {b : Bool} (h : b = true) : jbI b = nI 1 := by rw [h]; decide
theorem jb0 {b : Bool} (h : b = false) : jbI b = nI 0 := by rw [h]; decide
theorem ja_nz1 : narrow .boolean (.int (nI 1)) = .int (nI 1) := by first | rfl | decide
theorem ja_nz0 : narrow .boolean (.int (nI 0)) = .int (nI 0) := by first | rfl | decide
end
section
/-! Numbers and lists: what the sums and the orders of both sides come to. -/
theorem jct_add (P : Nat → Bool) (m k : Nat) : jct P (m + k) = jct P m + jct (fun c => P (m + c)) k := by
  induction k with
  | zero => rfl
  | succ k ih => show jct P (m + k) + (if P (m + k) then 1 else 0) = _; rw [ih]; simp only [jct]; omega
theorem jct_trunc {P : Nat → Bool} {n m : Nat} (hn : n ≤ m) (h : ∀ k, n ≤ k → k < m → P k = false) : jct P m = jct P n := by
  obtain ⟨d, rfl⟩ : ∃ d, m = n + d := ⟨m - n, by omega⟩
  rw [jct_add]
  have a : jct (fun c => P (n + c)) d = 0 := by
    rw [jct_sm]
    exact jsm_zero (fun k hk => by simp [h (n + k) (by omega) (by omega)])
  omega
theorem jsm_trunc {f : Nat → Nat} {n m : Nat} (hn : n ≤ m) (h : ∀ k, n ≤ k → k < m → f k = 0) : jsm f m = jsm f n := by
  induction m with
  | zero => rw [Nat.le_zero.mp hn]
  | succ m ih =>
    by_cases e : n = m + 1
    · rw [e]
    · simp only [jsm]
      rw [ih (by omega) (fun k h1 h2 => h k h1 (by omega)), h m (by omega) (by omega)]
      rfl
theorem jct_rows (P : Nat → Bool) (b a : Nat) : jct P (a * b) = jsm (fun i => jct (fun c => P (i * b + c)) b) a := by
  induction a with
  | zero => rw [Nat.zero_mul]; rfl
  | succ a ih => rw [Nat.succ_mul, jct_add, ih]; rfl
theorem jct_one {P : Nat → Bool} {n j : Nat} (hj : j < n) (hP : P j = true) (h : ∀ k, k < n → P k = true → k = j) : jct P n = 1 := by
  induction n with
  | zero => omega
  | succ n ih =>
    simp only [jct]
    by_cases e : j = n
    · subst e
      have a : jct P j = 0 := by
        rw [jct_sm]
        refine jsm_zero (fun k hk => ?_)
        cases hq : P k with
        | false => rfl
        | true => have := h k (by omega) hq; omega
      rw [a, hP]
      rfl
    · have a := ih (by omega) (fun k hk => h k (by omega))
      have b : P n = false := by
        cases hq : P n with
        | false => rfl
        | true => have := h n (by omega) hq; omega
      rw [a, b]
      rfl
/-- all mutations: over the rows of the component, and over what there is -/
def jcm (S : JS) : Nat := jsm (fun i => jct (fun c => (jL S i c).isSome) (jN S)) (jK S)
theorem jcm_eq {S : JS} (h : jWf S) : jct (fun i => (jL S (i / 14) (i % 14)).isSome) 112 = jcm S := by
  obtain ⟨wn, -, -, wk, -, wl, -⟩ := h
  have e : jct (fun i => (jL S (i / 14) (i % 14)).isSome) (8 * 14) = _ := jct_rows (fun i => (jL S (i / 14) (i % 14)).isSome) 14 8
  rw [show (112 : Nat) = 8 * 14 from rfl, e]
  have e2 : jsm (fun i => jct (fun c => (jL S ((i * 14 + c) / 14) ((i * 14 + c) % 14)).isSome) 14) 8 = jsm (fun i => jct (fun c => (jL S i c).isSome) (jN S)) 8 := by
    refine jsm_congr (fun i _ => ?_)
    rw [show jct (fun c => (jL S ((i * 14 + c) / 14) ((i * 14 + c) % 14)).isSome) 14 = jct (fun c => (jL S i c).isSome) 14 from jct_congr (fun c hc => by rw [show (i * 14 + c) / 14 = i by omega, show (i * 14 + c) % 14 = c by omega])]
    refine jct_trunc wn (fun k h1 _ => ?_)
    cases hl : jL S i k with
    | none => rfl
    | some a => have := (wl i k a hl).2.1; omega
  rw [e2]
  refine jsm_trunc wk (fun i h1 _ => ?_)
  rw [jct_sm]
  refine jsm_zero (fun k _ => ?_)
  cases hl : jL S i k with
  | none => rfl
  | some a => have := (wl i k a hl).1; omega
/-- pairs of different letters, by a tally -/
def jtal (sm : Nat → Bool) (f : Nat → Nat) (n a : Nat) : Nat := jct (fun c => sm c && f c == a) n
def jprs (sm : Nat → Bool) (f : Nat → Nat) (n : Nat) : Nat := jsm (fun a => jct (fun b => sm a && sm b && f a != f b) a) n
theorem jtal_ne (sm : Nat → Bool) (f : Nat → Nat) (hf : ∀ c, sm c = true → f c < 4) (n a : Nat) : jct (fun b => sm b && a != f b) n + jtal sm f n a = jtal sm f n 0 + jtal sm f n 1 + jtal sm f n 2 + jtal sm f n 3 ∨ 4 ≤ a := by
  by_cases ha : 4 ≤ a
  · exact Or.inr ha
  · refine Or.inl ?_
    induction n with
    | zero => rfl
    | succ n ih =>
      simp only [jtal, jct] at ih ⊢
      by_cases hs : sm n = true
      · have h4 := hf n hs
        have h5 : f n = 0 ∨ f n = 1 ∨ f n = 2 ∨ f n = 3 := by omega
        have h6 : a = 0 ∨ a = 1 ∨ a = 2 ∨ a = 3 := by omega
        rcases h5 with h5 | h5 | h5 | h5 <;> rcases h6 with h6 | h6 | h6 | h6 <;> subst h6 <;> simp [hs, h5] <;> omega
      · simp only [Bool.not_eq_true] at hs
        simp [hs]
        omega
theorem jprs_eq (sm : Nat → Bool) (f : Nat → Nat) (hf : ∀ c, sm c = true → f c < 4) (n : Nat) : jprs sm f n = jtal sm f n 0 * jtal sm f n 1 + (jtal sm f n 0 + jtal sm f n 1) * jtal sm f n 2 + (jtal sm f n 0 + jtal sm f n 1 + jtal sm f n 2) * jtal sm f n 3 := by
  induction n with
  | zero => rfl
  | succ n ih =>
    have e : jprs sm f (n + 1) = jprs sm f n + jct (fun b => sm n && sm b && f n != f b) n := rfl
    have t : ∀ a, jtal sm f (n + 1) a = jtal sm f n a + (if (sm n && f n == a) = true then 1 else 0) := fun a => rfl
    rw [e, ih, t, t, t, t]
    by_cases hs : sm n = true
    · have h4 := hf n hs
      rcases jtal_ne sm f hf n (f n) with h | h
      · simp only [hs, Bool.true_and]
        generalize jct (fun b => sm b && f n != f b) n = g at h ⊢
        generalize e0 : jtal sm f n 0 = t0 at h ⊢
        generalize e1 : jtal sm f n 1 = t1 at h ⊢
        generalize e2 : jtal sm f n 2 = t2 at h ⊢
        generalize e3 : jtal sm f n 3 = t3 at h ⊢
        have h5 : f n = 0 ∨ f n = 1 ∨ f n = 2 ∨ f n = 3 := by omega
        rcases h5 with h5 | h5 | h5 | h5 <;> simp only [h5, e0, e1, e2, e3] at h ⊢ <;> simp [Nat.add_mul, Nat.mul_add] <;> omega
      · omega
    · simp only [Bool.not_eq_true] at hs
      simp only [hs]
      have z : jct (fun b => false && sm b && f n != f b) n = 0 := by
        rw [jct_sm]
        exact jsm_zero (fun k _ => by simp)
      rw [z]
      simp
/-- where an edge begins; the edges of a parent; all edges in their order -/
def jst (up : Nat → Nat → Option Nat) (x c : Nat) : Bool := (up x c).isSome && (x == 0 || up (x - 1) c != up x c)
def jeX (up : Nat → Nat → Option Nat) (p c x : Nat) : List (Nat × Nat) := if up x c == some p && jst up x c then [(x, c)] else []
def jeP (n : Nat) (up : Nat → Nat → Option Nat) (p : Nat) : List (Nat × Nat) := jfl (fun c => jfl (fun x => jeX up p c x) 60) n
def jeT (n : Nat) (t : Nat → Nat) (up : Nat → Nat → Option Nat) (k : Nat) : List (Nat × Nat) := jfl (fun p => if t p == k then jeP n up p else []) n
def jeA (n : Nat) (t : Nat → Nat) (up : Nat → Nat → Option Nat) : List (Nat × Nat) := jfl (fun k => jeT n t up k) 1001
def jlt (t : Nat → Nat) (a b : Nat) : Bool := decide (t a < t b) || (t a == t b && decide (a < b))
def jnx (t : Nat → Nat) (o : Option Nat) : Nat → Option Nat
  | 0 => none
  | m + 1 => if o.all (fun a => jlt t a m) && (jnx t o m).all (fun b => jlt t m b) then some m else jnx t o m
def jeR (n : Nat) (t : Nat → Nat) (up : Nat → Nat → Option Nat) : Nat → Option Nat → List (Nat × Nat)
  | 0, _ => []
  | _ + 1, none => []
  | k + 1, some p => jeP n up p ++ jeR n t up k (jnx t (some p) n)
def jod (n : Nat) (t : Nat → Nat) : List Nat := jfl (fun k => jfl (fun p => if t p == k then [p] else []) n) 1001
theorem jfl_mem {α : Type} {f : Nat → List α} {n : Nat} {a : α} : a ∈ jfl f n ↔ ∃ k, k < n ∧ a ∈ f k := by
  induction n with
  | zero => simp [jfl]
  | succ n ih =>
    simp only [jfl, List.mem_append, ih]
    constructor
    · rintro (⟨k, h1, h2⟩ | h)
      · exact ⟨k, by omega, h2⟩
      · exact ⟨n, by omega, h⟩
    · rintro ⟨k, h1, h2⟩
      by_cases e : k = n
      · subst e; exact Or.inr h2
      · exact Or.inl ⟨k, by omega, h2⟩
theorem jfl_pw {α : Type} {R : α → α → Prop} {f : Nat → List α} {n : Nat} (h1 : ∀ k, k < n → (f k).Pairwise R) (h2 : ∀ i j, i < j → j < n → ∀ a ∈ f i, ∀ b ∈ f j, R a b) : (jfl f n).Pairwise R := by
  induction n with
  | zero => simp [jfl]
  | succ n ih =>
    simp only [jfl, List.pairwise_append]
    refine ⟨ih (fun k hk => h1 k (by omega)) (fun i j hi hj => h2 i j hi (by omega)), h1 n (by omega), fun a ha b hb => ?_⟩
    obtain ⟨k, hk, hka⟩ := jfl_mem.mp ha
    exact h2 k n hk (by omega) a hka b hb
theorem jfl_flat {α β : Type} (g : α → List β) (f : Nat → List α) (n : Nat) : (jfl f n).flatMap g = jfl (fun k => (f k).flatMap g) n := by
  induction n with
  | zero => rfl
  | succ n ih => simp only [jfl, List.flatMap_append, ih]
theorem jfl_congr {α : Type} {f g : Nat → List α} {n : Nat} (h : ∀ k, k < n → f k = g k) : jfl f n = jfl g n := by
  induction n with
  | zero => rfl
  | succ n ih => simp only [jfl]; rw [ih (fun k hk => h k (by omega)), h n (by omega)]
theorem jod_flat (n : Nat) (t : Nat → Nat) (up : Nat → Nat → Option Nat) : (jod n t).flatMap (jeP n up) = jeA n t up := by
  simp only [jod, jeA, jeT]
  rw [jfl_flat]
  refine jfl_congr (fun k _ => ?_)
  rw [jfl_flat]
  refine jfl_congr (fun p _ => ?_)
  split <;> simp
theorem jod_mem {n : Nat} {t : Nat → Nat} (ht : ∀ i, i < n → t i ≤ 1000) {p : Nat} : p ∈ jod n t ↔ p < n := by
  simp only [jod, jfl_mem]
  constructor
  · rintro ⟨k, -, p', h1, h2⟩
    split at h2
    · simp only [List.mem_singleton] at h2
      omega
    · simp at h2
  · intro h
    exact ⟨t p, by have := ht p h; omega, p, h, by simp⟩
theorem jod_pw (n : Nat) (t : Nat → Nat) : (jod n t).Pairwise (fun a b => jlt t a b = true) := by
  refine jfl_pw (fun k _ => ?_) (fun i j hij _ a ha b hb => ?_)
  · refine jfl_pw (fun p _ => by split <;> simp) (fun i j hij _ a ha b hb => ?_)
    split at ha
    · split at hb
      · rename_i h1 h2
        simp only [List.mem_singleton] at ha hb
        subst ha; subst hb
        simp only [beq_iff_eq] at h1 h2
        simp [jlt, h1, h2, hij]
      · simp at hb
    · simp at ha
  · obtain ⟨p, -, h1⟩ := jfl_mem.mp ha
    obtain ⟨p', -, h2⟩ := jfl_mem.mp hb
    split at h1
    · split at h2
      · rename_i e1 e2
        simp only [List.mem_singleton] at h1 h2
        subst h1; subst h2
        simp only [beq_iff_eq] at e1 e2
        simp [jlt]
        omega
      · simp at h2
    · simp at h1
theorem jlt_asym {t : Nat → Nat} {a b : Nat} (h : jlt t a b = true) : jlt t b a = false := by
  simp only [jlt, Bool.or_eq_true, Bool.and_eq_true, decide_eq_true_eq, beq_iff_eq] at h
  cases hb : jlt t b a with
  | false => rfl
  | true =>
    simp only [jlt, Bool.or_eq_true, Bool.and_eq_true, decide_eq_true_eq, beq_iff_eq] at hb
    omega
theorem jlt_irr (t : Nat → Nat) (a : Nat) : jlt t a a = false := by simp [jlt]
theorem jlt_trans {t : Nat → Nat} {a b c : Nat} (h1 : jlt t a b = true) (h2 : jlt t b c = true) : jlt t a c = true := by
  simp only [jlt, Bool.or_eq_true, Bool.and_eq_true, decide_eq_true_eq, beq_iff_eq] at h1 h2 ⊢
  omega
theorem jlt_tot {t : Nat → Nat} {a b : Nat} (h : a ≠ b) : jlt t a b = true ∨ jlt t b a = true := by
  simp only [jlt, Bool.or_eq_true, Bool.and_eq_true, decide_eq_true_eq, beq_iff_eq]
  omega
/-- the least behind o, of those below m -/
theorem jnx_spec (t : Nat → Nat) (o : Option Nat) (m : Nat) : (∀ b, jnx t o m = some b → b < m ∧ o.all (fun a => jlt t a b) = true ∧ ∀ x, x < m → o.all (fun a => jlt t a x) = true → x = b ∨ jlt t b x = true) ∧ (jnx t o m = none → ∀ x, x < m → o.all (fun a => jlt t a x) = false) := by
  induction m with
  | zero => exact ⟨fun b h => by simp [jnx] at h, fun _ x hx => by omega⟩
  | succ m ih =>
    obtain ⟨i1, i2⟩ := ih
    simp only [jnx]
    cases ho : o.all (fun a => jlt t a m) with
    | false =>
      simp only [Bool.false_and, Bool.false_eq_true, if_false]
      refine ⟨fun b hb => ?_, fun hn x hx => ?_⟩
      · obtain ⟨h1, h2, h3⟩ := i1 b hb
        refine ⟨by omega, h2, fun x hx hxo => ?_⟩
        by_cases e : x = m
        · subst e; rw [ho] at hxo; cases hxo
        · exact h3 x (by omega) hxo
      · by_cases e : x = m
        · subst e; exact ho
        · exact i2 hn x (by omega)
    | true =>
      cases hn : jnx t o m with
      | none =>
        simp only [Option.all_none, Bool.and_self, if_true]
        refine ⟨fun b hb => ?_, fun h => by cases h⟩
        cases hb
        refine ⟨by omega, ho, fun x hx hxo => ?_⟩
        by_cases e : x = m
        · exact Or.inl e
        · rw [i2 hn x (by omega)] at hxo; cases hxo
      | some b0 =>
        obtain ⟨h1, h2, h3⟩ := i1 b0 hn
        cases hc : jlt t m b0 with
        | true =>
          simp only [Option.all_some, hc, Bool.and_self, if_true]
          refine ⟨fun b hb => ?_, fun h => by cases h⟩
          cases hb
          refine ⟨by omega, ho, fun x hx hxo => ?_⟩
          by_cases e : x = m
          · exact Or.inl e
          · rcases h3 x (by omega) hxo with rfl | h4
            · exact Or.inr hc
            · exact Or.inr (jlt_trans hc h4)
        | false =>
          simp only [Option.all_some, hc, Bool.and_false, Bool.false_eq_true, if_false]
          refine ⟨fun b hb => ?_, fun h => by cases h⟩
          cases hb
          refine ⟨by omega, h2, fun x hx hxo => ?_⟩
          by_cases e : x = m
          · subst e
            rcases jlt_tot (t := t) (show x ≠ b0 by omega) with h4 | h4
            · rw [hc] at h4; cases h4
            · exact Or.inr h4
          · exact h3 x (by omega) hxo
theorem jnx_next {n : Nat} {t : Nat → Nat} {o : Option Nat} {suf : List Nat} (hs : suf.Pairwise (fun a b => jlt t a b = true)) (h1 : ∀ x, x ∈ suf ↔ x < n ∧ o.all (fun a => jlt t a x) = true) : jnx t o n = suf.head? := by
  obtain ⟨i1, i2⟩ := jnx_spec t o n
  cases hj : jnx t o n with
  | none =>
    cases suf with
    | nil => rfl
    | cons a r =>
      obtain ⟨h2, h3⟩ := (h1 a).mp List.mem_cons_self
      rw [i2 hj a h2] at h3
      cases h3
  | some b =>
    obtain ⟨h2, h3, h4⟩ := i1 b hj
    cases suf with
    | nil => exact absurd ((h1 b).mpr ⟨h2, h3⟩) List.not_mem_nil
    | cons a r =>
      have hb := (h1 b).mpr ⟨h2, h3⟩
      obtain ⟨ha, hao⟩ := (h1 a).mp List.mem_cons_self
      rcases List.mem_cons.mp hb with rfl | hb
      · rfl
      · have h5 := (List.pairwise_cons.mp hs).1 b hb
        rcases h4 a ha hao with rfl | h6
        · rw [jlt_irr] at h5; cases h5
        · rw [jlt_asym h5] at h6; cases h6
theorem jeR_run {n : Nat} {t : Nat → Nat} (ht : ∀ i, i < n → t i ≤ 1000) (up : Nat → Nat → Option Nat) : ∀ (k : Nat) (pre suf : List Nat), jod n t = pre ++ suf → suf.length ≤ k → jeR n t up k suf.head? = suf.flatMap (jeP n up) := by
  intro k
  induction k with
  | zero =>
    intro pre suf _ h2
    rw [List.length_eq_zero_iff.mp (Nat.le_zero.mp h2)]
    rfl
  | succ k ih =>
    intro pre suf h1 h2
    cases suf with
    | nil => rfl
    | cons p r =>
      have pw := jod_pw n t
      rw [h1] at pw
      obtain ⟨p1, p2, p3⟩ := List.pairwise_append.mp pw
      obtain ⟨p4, p5⟩ := List.pairwise_cons.mp p2
      have e : jnx t (some p) n = r.head? := by
        refine jnx_next p5 (fun x => ?_)
        simp only [Option.all_some]
        constructor
        · intro hx
          refine ⟨(jod_mem ht).mp (h1 ▸ List.mem_append_right _ (List.mem_cons_of_mem _ hx)), p4 x hx⟩
        · rintro ⟨hx, hl⟩
          have hm : x ∈ pre ++ p :: r := h1 ▸ (jod_mem ht).mpr hx
          rcases List.mem_append.mp hm with h3 | h3
          · have h4 := p3 x h3 p List.mem_cons_self
            rw [jlt_asym h4] at hl
            cases hl
          · rcases List.mem_cons.mp h3 with rfl | h3
            · rw [jlt_irr] at hl; cases hl
            · exact h3
      simp only [List.head?_cons, jeR, List.flatMap_cons]
      rw [e, ih (pre ++ [p]) r (by rw [h1]; simp) (by simp at h2; omega)]
theorem jod_len {n : Nat} {t : Nat → Nat} (ht : ∀ i, i < n → t i ≤ 1000) : (jod n t).length = n := by
  simp only [jod, jfl_len]
  have e : jsm (fun k => jsm (fun p => (if t p == k then [p] else [] : List Nat).length) n) 1001 = jsm (fun p => jsm (fun k => (if t p == k then [p] else [] : List Nat).length) 1001) n := jsm_swap _ _ _
  rw [e]
  have e2 : jsm (fun p => jsm (fun k => (if t p == k then [p] else [] : List Nat).length) 1001) n = jsm (fun _ => 1) n := by
    refine jsm_congr (fun p hp => ?_)
    have e3 : jsm (fun k => (if t p == k then [p] else [] : List Nat).length) 1001 = jct (fun k => t p == k) 1001 := by
      rw [jct_sm]
      exact jsm_congr (fun k _ => by split <;> simp)
    rw [e3]
    exact jct_one (j := t p) (by have := ht p hp; omega) (by simp) (fun k _ hk => (eq_of_beq hk).symm)
  rw [e2]
  clear e e2 ht
  induction n with
  | zero => rfl
  | succ n ih => simp only [jsm, ih]
/-- the order of the component and that of the reference are one -/
theorem jeR_eq {n : Nat} {t : Nat → Nat} (hn : n ≤ 14) (ht : ∀ i, i < n → t i ≤ 1000) (up : Nat → Nat → Option Nat) : jeR n t up 14 (jnx t none n) = jeA n t up := by
  have e : jnx t none n = (jod n t).head? := jnx_next (jod_pw n t) (fun x => by rw [jod_mem ht]; simp)
  rw [e, jeR_run ht up 14 [] (jod n t) (List.nil_append _).symm (by rw [jod_len ht]; exact hn), jod_flat]
/-- how many edges there are -/
theorem jeA_len {n : Nat} {t : Nat → Nat} {up : Nat → Nat → Option Nat} (ht : ∀ i, i < n → t i ≤ 1000) (hu : ∀ x c p, up x c = some p → c < n ∧ p < n ∧ t c < t p) : (jeA n t up).length = jsm (fun x => jct (fun c => jst up x c) n) 60 := by
  have h1 : (jeA n t up).length = jsm (fun k => jsm (fun p => if t p == k then (jeP n up p).length else 0) n) 1001 := by
    simp only [jeA, jeT, jfl_len]
    refine jsm_congr (fun k _ => jsm_congr (fun p _ => ?_))
    split <;> rfl
  have h2 : jsm (fun k => jsm (fun p => if t p == k then (jeP n up p).length else 0) n) 1001 = jsm (fun p => (jeP n up p).length) n := by
    rw [jsm_swap]
    refine jsm_congr (fun p hp => ?_)
    have a : ∀ m, jsm (fun k => if t p == k then (jeP n up p).length else 0) m = jct (fun k => t p == k) m * (jeP n up p).length := by
      intro m
      induction m with
      | zero => simp [jsm, jct]
      | succ m ih =>
        simp only [jsm, jct, ih]
        split <;> simp [Nat.add_mul]
    rw [a, jct_one (j := t p) (by have := ht p hp; omega) (by simp) (fun k _ hk => (eq_of_beq hk).symm), Nat.one_mul]
  have h3 : jsm (fun p => (jeP n up p).length) n = jsm (fun p => jsm (fun c => jsm (fun x => (jeX up p c x).length) 60) n) n := by
    refine jsm_congr (fun p _ => ?_)
    simp only [jeP, jfl_len]
  rw [h1, h2, h3, jsm_swap]
  have h4 : jsm (fun c => jsm (fun p => jsm (fun x => (jeX up p c x).length) 60) n) n = jsm (fun c => jsm (fun x => if jst up x c then 1 else 0) 60) n := by
    refine jsm_congr (fun c _ => ?_)
    rw [jsm_swap]
    refine jsm_congr (fun x _ => ?_)
    cases hs : jst up x c with
    | false => exact jsm_zero (fun p _ => by simp [jeX, hs])
    | true =>
      have hs2 := hs
      simp only [jst, Bool.and_eq_true] at hs2
      obtain ⟨p, hp⟩ := Option.isSome_iff_exists.mp hs2.1
      have e3 : jsm (fun p => (jeX up p c x).length) n = jct (fun p' => p' == p) n := by
        rw [jct_sm]
        refine jsm_congr (fun p' _ => ?_)
        simp only [jeX, hs, hp, Bool.and_true]
        by_cases e : p' = p
        · subst e; simp
        · simp [e, Ne.symm e]
      rw [e3]
      exact jct_one (j := p) (hu x c p hp).2.1 (by simp) (fun k _ hk => by simpa using hk)
  rw [h4, jsm_swap]
  exact jsm_congr (fun x _ => (jct_sm _ _).symm)
end
section
/-! The making smaller, as a value. -/
def jany (P : Nat → Bool) : Nat → Bool
  | 0 => false
  | k + 1 => jany P k || P k
theorem jany_iff {P : Nat → Bool} {n : Nat} : jany P n = true ↔ ∃ k, k < n ∧ P k = true := by
  induction n with
  | zero => simp [jany]
  | succ n ih =>
    simp only [jany, Bool.or_eq_true, ih]
    constructor
    · rintro (⟨k, h1, h2⟩ | h)
      · exact ⟨k, by omega, h2⟩
      · exact ⟨n, by omega, h⟩
    · rintro ⟨k, h1, h2⟩
      by_cases e : k = n
      · subst e; exact Or.inr h2
      · exact Or.inl ⟨k, by omega, h2⟩
def jinv (P : Nat → Bool) : Nat → Nat → Option Nat
  | 0, _ => none
  | c + 1, k => if P c && jct P c == k then some c else jinv P c k
theorem jct_lt2 {P : Nat → Bool} {c d : Nat} (h : c < d) (hP : P c = true) : jct P c < jct P d := by
  obtain ⟨e, rfl⟩ : ∃ e, d = c + 1 + e := ⟨d - c - 1, by omega⟩
  rw [jct_add]
  simp only [jct, hP, if_true]
  omega
theorem jct_le2 {P : Nat → Bool} {c d : Nat} (h : c ≤ d) : jct P c ≤ jct P d := by
  obtain ⟨e, rfl⟩ : ∃ e, d = c + e := ⟨d - c, by omega⟩
  rw [jct_add]
  omega
theorem jct_inj {P : Nat → Bool} {c d : Nat} (hc : P c = true) (hd : P d = true) (h : jct P c = jct P d) : c = d := by
  rcases Nat.lt_trichotomy c d with h1 | h1 | h1
  · have := jct_lt2 h1 hc; omega
  · exact h1
  · have := jct_lt2 h1 hd; omega
theorem jinv_some {P : Nat → Bool} : ∀ {n k c : Nat}, jinv P n k = some c → c < n ∧ P c = true ∧ jct P c = k := by
  intro n
  induction n with
  | zero => intro k c h; simp [jinv] at h
  | succ n ih =>
    intro k c h
    simp only [jinv] at h
    split at h
    · rename_i h1
      cases h
      simp only [Bool.and_eq_true, beq_iff_eq] at h1
      exact ⟨by omega, h1.1, h1.2⟩
    · obtain ⟨h1, h2, h3⟩ := ih h
      exact ⟨by omega, h2, h3⟩
theorem jinv_of {P : Nat → Bool} : ∀ {n c : Nat}, c < n → P c = true → jinv P n (jct P c) = some c := by
  intro n
  induction n with
  | zero => intro c h; omega
  | succ n ih =>
    intro c h hP
    simp only [jinv]
    by_cases e : c = n
    · subst e; simp [hP]
    · rw [if_neg, ih (by omega) hP]
      simp only [Bool.and_eq_true, beq_iff_eq, not_and]
      intro hn q
      exact e (jct_inj hP hn q.symm)
theorem jinv_none {P : Nat → Bool} {n k : Nat} (h : jct P n ≤ k) : jinv P n k = none := by
  cases hj : jinv P n k with
  | none => rfl
  | some c =>
    obtain ⟨h1, h2, h3⟩ := jinv_some hj
    have := jct_lt2 h1 h2
    omega
def jmatS (S : JS) (x c : Nat) : Bool := jmat (jN S) (jM S) (jU S x) c
def jstay (S : JS) (c : Nat) : Bool := jany (fun x => jmatS S x c) 60
def jnear (S : JS) (x c : Nat) : Option Nat := jpF (jU S x) (jmatS S x) 14 (jU S x c)
def jcome (S : JS) (i c : Nat) : Option Nat := match jL S i c with
  | some a => some a
  | none => match jpF (jU S (jP S i)) (fun y => jmatS S (jP S i) y || (jL S i y).isSome) 14 (jU S (jP S i) c) with
    | none => none
    | some y => if jmatS S (jP S i) y then none else jL S i y
def jrk (S : JS) (c : Nat) : Nat := jct (jstay S) c
def jold (S : JS) (k : Nat) : Option Nat := jinv (jstay S) (jN S) k
def jupN (S : JS) (x c : Nat) : Option Nat := if jmatS S x c then (jnear S x c).map (jrk S) else none
def jmuN (S : JS) (i c : Nat) : Option Nat := if jmatS S (jP S i) c then jcome S i c else none
def jsmall (S : JS) : JS :=
  (jrk S (jN S), fun k => ((jold S k).map (jT S)).getD 0, fun k => ((jold S k).map (jM S)).getD false,
   fun x k => if x < 60 then (jold S k).bind (jupN S x) else none, jK S, jP S, jA S,
   fun i k => if i < jK S then (jold S k).bind (jmuN S i) else none, fun c => if c < jN S ∧ jstay S c = true then some (jrk S c) else none)
theorem jstay_of {S : JS} {x c : Nat} (hx : x < 60) (h : jmatS S x c = true) : jstay S c = true := jany_iff.mpr ⟨x, hx, h⟩
theorem jup_S {S : JS} (h : jWf S) (x : Nat) : jup (jN S) (jT S) (jU S x) := fun c p e => h.2.2.1 x c p e
theorem jpF_time {n : Nat} {t : Nat → Nat} {up : Nat → Option Nat} (h : jup n t up) {P : Nat → Bool} : ∀ {k : Nat} {c y x : Nat}, up c = some y → jpF up P k (some y) = some x → t c < t x := by
  intro k
  induction k with
  | zero => intro c y x _ h2; simp [jpF] at h2
  | succ k ih =>
    intro c y x h1 h2
    have a := (h c y h1).2.2
    simp only [jpF] at h2
    split at h2
    · cases h2; exact a
    · cases e : up y with
      | none => rw [e, jpF_none] at h2; cases h2
      | some z =>
        rw [e] at h2
        have b := ih e h2
        omega
theorem jnear_of {S : JS} (h : jWf S) {x c d : Nat} (e : jnear S x c = some d) : d < jN S ∧ jmatS S x d = true ∧ jT S c < jT S d := by
  have hu := jup_S h x
  simp only [jnear] at e
  cases hc : jU S x c with
  | none => rw [hc, jpF_none] at e; cases e
  | some y =>
    rw [hc] at e
    exact ⟨jpF_lt hu (fun z hz => by cases hz; exact (hu c y hc).2.1) e, jpF_P e, jpF_time hu hc e⟩
theorem jold_of {S : JS} {c : Nat} (hc : c < jN S) (hs : jstay S c = true) : jold S (jrk S c) = some c := jinv_of hc hs
theorem jcome_lt {S : JS} (h : jWf S) {i c a : Nat} (e : jcome S i c = some a) : i < jK S ∧ a < 4 := by
  simp only [jcome] at e
  split at e
  · rename_i b hb
    cases e
    exact ⟨(h.2.2.2.2.2.1 i c a hb).1, (h.2.2.2.2.2.1 i c a hb).2.2⟩
  · split at e
    · cases e
    · rename_i y hy
      split at e
      · cases e
      · exact ⟨(h.2.2.2.2.2.1 i y a e).1, (h.2.2.2.2.2.1 i y a e).2.2⟩
theorem jsmall_wf {S : JS} (h : jWf S) : jWf (jsmall S) := by
  obtain ⟨wn, wt, wu, wk, wp, wl, wb⟩ := id h
  have hn : jrk S (jN S) ≤ jN S := jct_le _ _
  have hold : ∀ {k c : Nat}, jold S k = some c → c < jN S ∧ jstay S c = true ∧ jrk S c = k ∧ k < jrk S (jN S) := fun {k c} e => by
    obtain ⟨h1, h2, h3⟩ := jinv_some e
    refine ⟨h1, h2, h3, ?_⟩
    have := jct_lt2 h1 h2
    show k < jct (jstay S) (jN S)
    omega
  refine ⟨by show jrk S (jN S) ≤ 14; omega, fun i _ => ?_, fun x k j e => ?_, wk, wp, fun i k a e => ?_, fun c a e => ?_⟩
  · show ((jold S i).map (jT S)).getD 0 ≤ 1000
    cases e : jold S i with
    | none => simp
    | some c => simpa using wt c (hold e).1
  · replace e : (if x < 60 then (jold S k).bind (jupN S x) else none) = some j := e
    split at e
    · rename_i hx
      cases ek : jold S k with
      | none => rw [ek] at e; cases e
      | some c =>
        rw [ek] at e
        replace e : jupN S x c = some j := e
        simp only [jupN] at e
        split at e
        · cases en : jnear S x c with
          | none => rw [en] at e; cases e
          | some d =>
            rw [en] at e
            replace e : some (jrk S d) = some j := e
            cases e
            obtain ⟨d1, d2, d3⟩ := jnear_of h en
            have ds := jstay_of hx d2
            have hd := jold_of d1 ds
            obtain ⟨c1, c2, c3, c4⟩ := hold ek
            refine ⟨c4, (hold hd).2.2.2, ?_⟩
            show ((jold S k).map (jT S)).getD 0 < ((jold S (jrk S d)).map (jT S)).getD 0
            rw [ek, hd]
            exact d3
        · cases e
    · cases e
  · replace e : (if i < jK S then (jold S k).bind (jmuN S i) else none) = some a := e
    split at e
    · cases ek : jold S k with
      | none => rw [ek] at e; cases e
      | some c =>
        rw [ek] at e
        replace e : jmuN S i c = some a := e
        simp only [jmuN] at e
        split at e
        · exact ⟨(jcome_lt h e).1, (hold ek).2.2.2, (jcome_lt h e).2⟩
        · cases e
    · cases e
  · replace e : (if c < jN S ∧ jstay S c = true then some (jrk S c) else none) = some a := e
    split at e
    · rename_i hc
      cases e
      have := jct_lt2 hc.1 hc.2
      show jct (jstay S) c < 14
      have h9 : jct (jstay S) (jN S) ≤ jN S := jct_le _ _
      omega
    · cases e
end
section
-- ===== PART A: goes FIRST, ahead of the names: the tables' words, and 'selects' of the private methods out of them =====
/-- a private method of a class that the tables say can be made, by its rows of tables_1 -/
def lw_okq (q : MethodName × Nat) : Prop := (q.1.cls ≠ "java/lang/invoke/MethodHandle" ∧ q.1.cls ≠ "java/lang/invoke/VarHandle") ∧ Cond.instantiable q.1.cls q.2 ∈ tables_1 ∧ Cond.privateMethod q.1 ∈ tables_1 ∧ Cond.instanceMethod q.1 ∈ tables_1
theorem lw_p0 : lw_okq (⟨"LineageTables", "countSamples", "()I"⟩, 13) := ⟨⟨by decide +kernel, by decide +kernel⟩, List.mem_of_getElem? (i := 12) (by decide +kernel), List.mem_of_getElem? (i := 69) (by decide +kernel), List.mem_of_getElem? (i := 70) (by decide +kernel)⟩
theorem lw_p1 : lw_okq (⟨"LineageTables", "countEdges", "()I"⟩, 13) := ⟨⟨by decide +kernel, by decide +kernel⟩, List.mem_of_getElem? (i := 12) (by decide +kernel), List.mem_of_getElem? (i := 73) (by decide +kernel), List.mem_of_getElem? (i := 74) (by decide +kernel)⟩
theorem lw_p2 : lw_okq (⟨"LineageTables", "startsEdge", "(II)Z"⟩, 13) := ⟨⟨by decide +kernel, by decide +kernel⟩, List.mem_of_getElem? (i := 12) (by decide +kernel), List.mem_of_getElem? (i := 77) (by decide +kernel), List.mem_of_getElem? (i := 78) (by decide +kernel)⟩
theorem lw_p3 : lw_okq (⟨"LineageTables", "parentAt", "(II)I"⟩, 13) := ⟨⟨by decide +kernel, by decide +kernel⟩, List.mem_of_getElem? (i := 12) (by decide +kernel), List.mem_of_getElem? (i := 81) (by decide +kernel), List.mem_of_getElem? (i := 82) (by decide +kernel)⟩
theorem lw_p4 : lw_okq (⟨"LineageTables", "countMutations", "()I"⟩, 13) := ⟨⟨by decide +kernel, by decide +kernel⟩, List.mem_of_getElem? (i := 12) (by decide +kernel), List.mem_of_getElem? (i := 85) (by decide +kernel), List.mem_of_getElem? (i := 86) (by decide +kernel)⟩
theorem lw_p5 : lw_okq (⟨"LineageTables", "startsRun", "(I)Z"⟩, 13) := ⟨⟨by decide +kernel, by decide +kernel⟩, List.mem_of_getElem? (i := 12) (by decide +kernel), List.mem_of_getElem? (i := 93) (by decide +kernel), List.mem_of_getElem? (i := 94) (by decide +kernel)⟩
theorem lw_p6 : lw_okq (⟨"LineageTables", "tallyLetters", "(I)V"⟩, 13) := ⟨⟨by decide +kernel, by decide +kernel⟩, List.mem_of_getElem? (i := 12) (by decide +kernel), List.mem_of_getElem? (i := 101) (by decide +kernel), List.mem_of_getElem? (i := 102) (by decide +kernel)⟩
theorem lw_p7 : lw_okq (⟨"LineageTables", "letterAt", "(II)I"⟩, 13) := ⟨⟨by decide +kernel, by decide +kernel⟩, List.mem_of_getElem? (i := 12) (by decide +kernel), List.mem_of_getElem? (i := 105) (by decide +kernel), List.mem_of_getElem? (i := 106) (by decide +kernel)⟩
theorem lw_p8 : lw_okq (⟨"LineageTables", "countCarried", "(I)V"⟩, 13) := ⟨⟨by decide +kernel, by decide +kernel⟩, List.mem_of_getElem? (i := 12) (by decide +kernel), List.mem_of_getElem? (i := 117) (by decide +kernel), List.mem_of_getElem? (i := 118) (by decide +kernel)⟩
theorem lw_p9 : lw_okq (⟨"LineageTables", "findMattering", "(I)I"⟩, 13) := ⟨⟨by decide +kernel, by decide +kernel⟩, List.mem_of_getElem? (i := 12) (by decide +kernel), List.mem_of_getElem? (i := 125) (by decide +kernel), List.mem_of_getElem? (i := 126) (by decide +kernel)⟩
theorem lw_p10 : lw_okq (⟨"LineageTables", "countLiveChildren", "(II)I"⟩, 13) := ⟨⟨by decide +kernel, by decide +kernel⟩, List.mem_of_getElem? (i := 12) (by decide +kernel), List.mem_of_getElem? (i := 129) (by decide +kernel), List.mem_of_getElem? (i := 130) (by decide +kernel)⟩
theorem lw_p11 : lw_okq (⟨"LineageTables", "renumber", "(I)I"⟩, 13) := ⟨⟨by decide +kernel, by decide +kernel⟩, List.mem_of_getElem? (i := 12) (by decide +kernel), List.mem_of_getElem? (i := 133) (by decide +kernel), List.mem_of_getElem? (i := 134) (by decide +kernel)⟩
theorem lw_p12 : lw_okq (⟨"LineageTables", "moveMutations", "(I)V"⟩, 13) := ⟨⟨by decide +kernel, by decide +kernel⟩, List.mem_of_getElem? (i := 12) (by decide +kernel), List.mem_of_getElem? (i := 137) (by decide +kernel), List.mem_of_getElem? (i := 138) (by decide +kernel)⟩
theorem lw_p13 : lw_okq (⟨"LineageTables", "matters", "(II)Z"⟩, 13) := ⟨⟨by decide +kernel, by decide +kernel⟩, List.mem_of_getElem? (i := 12) (by decide +kernel), List.mem_of_getElem? (i := 141) (by decide +kernel), List.mem_of_getElem? (i := 142) (by decide +kernel)⟩
theorem lw_p14 : lw_okq (⟨"LineageTables", "mutationComingTo", "(II)I"⟩, 13) := ⟨⟨by decide +kernel, by decide +kernel⟩, List.mem_of_getElem? (i := 12) (by decide +kernel), List.mem_of_getElem? (i := 145) (by decide +kernel), List.mem_of_getElem? (i := 146) (by decide +kernel)⟩
theorem lw_p15 : lw_okq (⟨"LineageTables", "moveParents", "(I)V"⟩, 13) := ⟨⟨by decide +kernel, by decide +kernel⟩, List.mem_of_getElem? (i := 12) (by decide +kernel), List.mem_of_getElem? (i := 152) (by decide +kernel), List.mem_of_getElem? (i := 153) (by decide +kernel)⟩
def lw_privs_1 : List (MethodName × Nat) := [(⟨"LineageTables", "countSamples", "()I"⟩, 13), (⟨"LineageTables", "countEdges", "()I"⟩, 13), (⟨"LineageTables", "startsEdge", "(II)Z"⟩, 13), (⟨"LineageTables", "parentAt", "(II)I"⟩, 13), (⟨"LineageTables", "countMutations", "()I"⟩, 13), (⟨"LineageTables", "startsRun", "(I)Z"⟩, 13), (⟨"LineageTables", "tallyLetters", "(I)V"⟩, 13), (⟨"LineageTables", "letterAt", "(II)I"⟩, 13), (⟨"LineageTables", "countCarried", "(I)V"⟩, 13), (⟨"LineageTables", "findMattering", "(I)I"⟩, 13), (⟨"LineageTables", "countLiveChildren", "(II)I"⟩, 13), (⟨"LineageTables", "renumber", "(I)I"⟩, 13), (⟨"LineageTables", "moveMutations", "(I)V"⟩, 13), (⟨"LineageTables", "matters", "(II)Z"⟩, 13), (⟨"LineageTables", "mutationComingTo", "(II)I"⟩, 13), (⟨"LineageTables", "moveParents", "(I)V"⟩, 13)]
theorem lw_r1 : ∀ q ∈ lw_privs_1, lw_okq q := List.forall_mem_cons.mpr ⟨lw_p0, List.forall_mem_cons.mpr ⟨lw_p1, List.forall_mem_cons.mpr ⟨lw_p2, List.forall_mem_cons.mpr ⟨lw_p3, List.forall_mem_cons.mpr ⟨lw_p4, List.forall_mem_cons.mpr ⟨lw_p5, List.forall_mem_cons.mpr ⟨lw_p6, List.forall_mem_cons.mpr ⟨lw_p7, List.forall_mem_cons.mpr ⟨lw_p8, List.forall_mem_cons.mpr ⟨lw_p9, List.forall_mem_cons.mpr ⟨lw_p10, List.forall_mem_cons.mpr ⟨lw_p11, List.forall_mem_cons.mpr ⟨lw_p12, List.forall_mem_cons.mpr ⟨lw_p13, List.forall_mem_cons.mpr ⟨lw_p14, List.forall_mem_cons.mpr ⟨lw_p15, fun _ h => absurd h List.not_mem_nil⟩⟩⟩⟩⟩⟩⟩⟩⟩⟩⟩⟩⟩⟩⟩⟩
theorem lw_p16 : lw_okq (⟨"LineageTables", "nearestMatteringAbove", "(II)I"⟩, 13) := ⟨⟨by decide +kernel, by decide +kernel⟩, List.mem_of_getElem? (i := 12) (by decide +kernel), List.mem_of_getElem? (i := 156) (by decide +kernel), List.mem_of_getElem? (i := 157) (by decide +kernel)⟩
theorem lw_p17 : lw_okq (⟨"LineageTables", "moveNodes", "()V"⟩, 13) := ⟨⟨by decide +kernel, by decide +kernel⟩, List.mem_of_getElem? (i := 12) (by decide +kernel), List.mem_of_getElem? (i := 160) (by decide +kernel), List.mem_of_getElem? (i := 161) (by decide +kernel)⟩
theorem lw_p18 : lw_okq (⟨"java/lang/Throwable", "fillInStackTrace", "(I)Ljava/lang/Throwable;"⟩, 6) := ⟨⟨by decide +kernel, by decide +kernel⟩, List.mem_of_getElem? (i := 215) (by decide +kernel), List.mem_of_getElem? (i := 213) (by decide +kernel), List.mem_of_getElem? (i := 214) (by decide +kernel)⟩
theorem lw_p19 : lw_okq (⟨"LineageTables", "isNode", "(I)Z"⟩, 13) := ⟨⟨by decide +kernel, by decide +kernel⟩, List.mem_of_getElem? (i := 12) (by decide +kernel), List.mem_of_getElem? (i := 272) (by decide +kernel), List.mem_of_getElem? (i := 273) (by decide +kernel)⟩
theorem lw_p20 : lw_okq (⟨"LineageTables", "hasParentBeside", "(IIII)Z"⟩, 13) := ⟨⟨by decide +kernel, by decide +kernel⟩, List.mem_of_getElem? (i := 12) (by decide +kernel), List.mem_of_getElem? (i := 293) (by decide +kernel), List.mem_of_getElem? (i := 294) (by decide +kernel)⟩
theorem lw_p21 : lw_okq (⟨"LineageTables", "setParents", "(IIII)I"⟩, 13) := ⟨⟨by decide +kernel, by decide +kernel⟩, List.mem_of_getElem? (i := 12) (by decide +kernel), List.mem_of_getElem? (i := 298) (by decide +kernel), List.mem_of_getElem? (i := 299) (by decide +kernel)⟩
theorem lw_p22 : lw_okq (⟨"LineageTables", "hasSite", "(I)Z"⟩, 13) := ⟨⟨by decide +kernel, by decide +kernel⟩, List.mem_of_getElem? (i := 12) (by decide +kernel), List.mem_of_getElem? (i := 320) (by decide +kernel), List.mem_of_getElem? (i := 321) (by decide +kernel)⟩
theorem lw_p23 : lw_okq (⟨"LineageTables", "isSite", "(I)Z"⟩, 13) := ⟨⟨by decide +kernel, by decide +kernel⟩, List.mem_of_getElem? (i := 12) (by decide +kernel), List.mem_of_getElem? (i := 333) (by decide +kernel), List.mem_of_getElem? (i := 334) (by decide +kernel)⟩
theorem lw_p24 : lw_okq (⟨"LineageTables", "findEdge", "(I)I"⟩, 13) := ⟨⟨by decide +kernel, by decide +kernel⟩, List.mem_of_getElem? (i := 12) (by decide +kernel), List.mem_of_getElem? (i := 354) (by decide +kernel), List.mem_of_getElem? (i := 355) (by decide +kernel)⟩
theorem lw_p25 : lw_okq (⟨"LineageTables", "nextByTime", "(I)I"⟩, 13) := ⟨⟨by decide +kernel, by decide +kernel⟩, List.mem_of_getElem? (i := 12) (by decide +kernel), List.mem_of_getElem? (i := 358) (by decide +kernel), List.mem_of_getElem? (i := 359) (by decide +kernel)⟩
theorem lw_p26 : lw_okq (⟨"LineageTables", "isEarlier", "(II)Z"⟩, 13) := ⟨⟨by decide +kernel, by decide +kernel⟩, List.mem_of_getElem? (i := 12) (by decide +kernel), List.mem_of_getElem? (i := 362) (by decide +kernel), List.mem_of_getElem? (i := 363) (by decide +kernel)⟩
theorem lw_p27 : lw_okq (⟨"LineageTables", "edgeEnd", "(II)I"⟩, 13) := ⟨⟨by decide +kernel, by decide +kernel⟩, List.mem_of_getElem? (i := 12) (by decide +kernel), List.mem_of_getElem? (i := 367) (by decide +kernel), List.mem_of_getElem? (i := 368) (by decide +kernel)⟩
theorem lw_p28 : lw_okq (⟨"LineageTables", "isAtOrAbove", "(III)Z"⟩, 13) := ⟨⟨by decide +kernel, by decide +kernel⟩, List.mem_of_getElem? (i := 12) (by decide +kernel), List.mem_of_getElem? (i := 386) (by decide +kernel), List.mem_of_getElem? (i := 387) (by decide +kernel)⟩
theorem lw_p29 : lw_okq (⟨"LineageTablesModel", "refused", "(I)Z"⟩, 16) := ⟨⟨by decide +kernel, by decide +kernel⟩, List.mem_of_getElem? (i := 405) (by decide +kernel), List.mem_of_getElem? (i := 468) (by decide +kernel), List.mem_of_getElem? (i := 469) (by decide +kernel)⟩
theorem lw_p30 : lw_okq (⟨"LineageTablesModel", "isNode", "(I)Z"⟩, 16) := ⟨⟨by decide +kernel, by decide +kernel⟩, List.mem_of_getElem? (i := 405) (by decide +kernel), List.mem_of_getElem? (i := 479) (by decide +kernel), List.mem_of_getElem? (i := 480) (by decide +kernel)⟩
theorem lw_p31 : lw_okq (⟨"LineageTablesModel", "up", "(II)I"⟩, 16) := ⟨⟨by decide +kernel, by decide +kernel⟩, List.mem_of_getElem? (i := 405) (by decide +kernel), List.mem_of_getElem? (i := 483) (by decide +kernel), List.mem_of_getElem? (i := 484) (by decide +kernel)⟩
def lw_privs_2 : List (MethodName × Nat) := [(⟨"LineageTables", "nearestMatteringAbove", "(II)I"⟩, 13), (⟨"LineageTables", "moveNodes", "()V"⟩, 13), (⟨"java/lang/Throwable", "fillInStackTrace", "(I)Ljava/lang/Throwable;"⟩, 6), (⟨"LineageTables", "isNode", "(I)Z"⟩, 13), (⟨"LineageTables", "hasParentBeside", "(IIII)Z"⟩, 13), (⟨"LineageTables", "setParents", "(IIII)I"⟩, 13), (⟨"LineageTables", "hasSite", "(I)Z"⟩, 13), (⟨"LineageTables", "isSite", "(I)Z"⟩, 13), (⟨"LineageTables", "findEdge", "(I)I"⟩, 13), (⟨"LineageTables", "nextByTime", "(I)I"⟩, 13), (⟨"LineageTables", "isEarlier", "(II)Z"⟩, 13), (⟨"LineageTables", "edgeEnd", "(II)I"⟩, 13), (⟨"LineageTables", "isAtOrAbove", "(III)Z"⟩, 13), (⟨"LineageTablesModel", "refused", "(I)Z"⟩, 16), (⟨"LineageTablesModel", "isNode", "(I)Z"⟩, 16), (⟨"LineageTablesModel", "up", "(II)I"⟩, 16)]
theorem lw_r2 : ∀ q ∈ lw_privs_2, lw_okq q := List.forall_mem_cons.mpr ⟨lw_p16, List.forall_mem_cons.mpr ⟨lw_p17, List.forall_mem_cons.mpr ⟨lw_p18, List.forall_mem_cons.mpr ⟨lw_p19, List.forall_mem_cons.mpr ⟨lw_p20, List.forall_mem_cons.mpr ⟨lw_p21, List.forall_mem_cons.mpr ⟨lw_p22, List.forall_mem_cons.mpr ⟨lw_p23, List.forall_mem_cons.mpr ⟨lw_p24, List.forall_mem_cons.mpr ⟨lw_p25, List.forall_mem_cons.mpr ⟨lw_p26, List.forall_mem_cons.mpr ⟨lw_p27, List.forall_mem_cons.mpr ⟨lw_p28, List.forall_mem_cons.mpr ⟨lw_p29, List.forall_mem_cons.mpr ⟨lw_p30, List.forall_mem_cons.mpr ⟨lw_p31, fun _ h => absurd h List.not_mem_nil⟩⟩⟩⟩⟩⟩⟩⟩⟩⟩⟩⟩⟩⟩⟩⟩
theorem lw_p32 : lw_okq (⟨"LineageTablesModel", "isTaken", "(I)Z"⟩, 16) := ⟨⟨by decide +kernel, by decide +kernel⟩, List.mem_of_getElem? (i := 405) (by decide +kernel), List.mem_of_getElem? (i := 498) (by decide +kernel), List.mem_of_getElem? (i := 499) (by decide +kernel)⟩
theorem lw_p33 : lw_okq (⟨"LineageTablesModel", "isSite", "(I)Z"⟩, 16) := ⟨⟨by decide +kernel, by decide +kernel⟩, List.mem_of_getElem? (i := 405) (by decide +kernel), List.mem_of_getElem? (i := 506) (by decide +kernel), List.mem_of_getElem? (i := 507) (by decide +kernel)⟩
theorem lw_p34 : lw_okq (⟨"LineageTablesModel", "samples", "()I"⟩, 16) := ⟨⟨by decide +kernel, by decide +kernel⟩, List.mem_of_getElem? (i := 405) (by decide +kernel), List.mem_of_getElem? (i := 514) (by decide +kernel), List.mem_of_getElem? (i := 515) (by decide +kernel)⟩
theorem lw_p35 : lw_okq (⟨"LineageTablesModel", "find", "(I)I"⟩, 16) := ⟨⟨by decide +kernel, by decide +kernel⟩, List.mem_of_getElem? (i := 405) (by decide +kernel), List.mem_of_getElem? (i := 518) (by decide +kernel), List.mem_of_getElem? (i := 519) (by decide +kernel)⟩
theorem lw_p36 : lw_okq (⟨"LineageTablesModel", "begins", "(II)Z"⟩, 16) := ⟨⟨by decide +kernel, by decide +kernel⟩, List.mem_of_getElem? (i := 405) (by decide +kernel), List.mem_of_getElem? (i := 522) (by decide +kernel), List.mem_of_getElem? (i := 523) (by decide +kernel)⟩
theorem lw_p37 : lw_okq (⟨"LineageTablesModel", "holds", "(III)Z"⟩, 16) := ⟨⟨by decide +kernel, by decide +kernel⟩, List.mem_of_getElem? (i := 405) (by decide +kernel), List.mem_of_getElem? (i := 542) (by decide +kernel), List.mem_of_getElem? (i := 543) (by decide +kernel)⟩
theorem lw_p38 : lw_okq (⟨"LineageTablesModel", "differs", "(I)Z"⟩, 16) := ⟨⟨by decide +kernel, by decide +kernel⟩, List.mem_of_getElem? (i := 405) (by decide +kernel), List.mem_of_getElem? (i := 550) (by decide +kernel), List.mem_of_getElem? (i := 551) (by decide +kernel)⟩
theorem lw_p39 : lw_okq (⟨"LineageTablesModel", "letterAt", "(II)I"⟩, 16) := ⟨⟨by decide +kernel, by decide +kernel⟩, List.mem_of_getElem? (i := 405) (by decide +kernel), List.mem_of_getElem? (i := 563) (by decide +kernel), List.mem_of_getElem? (i := 564) (by decide +kernel)⟩
theorem lw_p40 : lw_okq (⟨"LineageTablesModel", "under", "(II)I"⟩, 16) := ⟨⟨by decide +kernel, by decide +kernel⟩, List.mem_of_getElem? (i := 405) (by decide +kernel), List.mem_of_getElem? (i := 579) (by decide +kernel), List.mem_of_getElem? (i := 580) (by decide +kernel)⟩
theorem lw_p41 : lw_okq (⟨"LineageTablesModel", "stays", "(I)Z"⟩, 16) := ⟨⟨by decide +kernel, by decide +kernel⟩, List.mem_of_getElem? (i := 405) (by decide +kernel), List.mem_of_getElem? (i := 587) (by decide +kernel), List.mem_of_getElem? (i := 588) (by decide +kernel)⟩
theorem lw_p42 : lw_okq (⟨"LineageTablesModel", "isFork", "(II)Z"⟩, 16) := ⟨⟨by decide +kernel, by decide +kernel⟩, List.mem_of_getElem? (i := 405) (by decide +kernel), List.mem_of_getElem? (i := 591) (by decide +kernel), List.mem_of_getElem? (i := 592) (by decide +kernel)⟩
theorem lw_p43 : lw_okq (⟨"LineageTablesModel", "matters", "(II)Z"⟩, 16) := ⟨⟨by decide +kernel, by decide +kernel⟩, List.mem_of_getElem? (i := 405) (by decide +kernel), List.mem_of_getElem? (i := 595) (by decide +kernel), List.mem_of_getElem? (i := 596) (by decide +kernel)⟩
theorem lw_p44 : lw_okq (⟨"LineageTablesModel", "nearest", "(II)I"⟩, 16) := ⟨⟨by decide +kernel, by decide +kernel⟩, List.mem_of_getElem? (i := 405) (by decide +kernel), List.mem_of_getElem? (i := 599) (by decide +kernel), List.mem_of_getElem? (i := 600) (by decide +kernel)⟩
theorem lw_p45 : lw_okq (⟨"LineageTablesModel", "comes", "(II)I"⟩, 16) := ⟨⟨by decide +kernel, by decide +kernel⟩, List.mem_of_getElem? (i := 405) (by decide +kernel), List.mem_of_getElem? (i := 603) (by decide +kernel), List.mem_of_getElem? (i := 604) (by decide +kernel)⟩
def lw_privs_3 : List (MethodName × Nat) := [(⟨"LineageTablesModel", "isTaken", "(I)Z"⟩, 16), (⟨"LineageTablesModel", "isSite", "(I)Z"⟩, 16), (⟨"LineageTablesModel", "samples", "()I"⟩, 16), (⟨"LineageTablesModel", "find", "(I)I"⟩, 16), (⟨"LineageTablesModel", "begins", "(II)Z"⟩, 16), (⟨"LineageTablesModel", "holds", "(III)Z"⟩, 16), (⟨"LineageTablesModel", "differs", "(I)Z"⟩, 16), (⟨"LineageTablesModel", "letterAt", "(II)I"⟩, 16), (⟨"LineageTablesModel", "under", "(II)I"⟩, 16), (⟨"LineageTablesModel", "stays", "(I)Z"⟩, 16), (⟨"LineageTablesModel", "isFork", "(II)Z"⟩, 16), (⟨"LineageTablesModel", "matters", "(II)Z"⟩, 16), (⟨"LineageTablesModel", "nearest", "(II)I"⟩, 16), (⟨"LineageTablesModel", "comes", "(II)I"⟩, 16)]
theorem lw_r3 : ∀ q ∈ lw_privs_3, lw_okq q := List.forall_mem_cons.mpr ⟨lw_p32, List.forall_mem_cons.mpr ⟨lw_p33, List.forall_mem_cons.mpr ⟨lw_p34, List.forall_mem_cons.mpr ⟨lw_p35, List.forall_mem_cons.mpr ⟨lw_p36, List.forall_mem_cons.mpr ⟨lw_p37, List.forall_mem_cons.mpr ⟨lw_p38, List.forall_mem_cons.mpr ⟨lw_p39, List.forall_mem_cons.mpr ⟨lw_p40, List.forall_mem_cons.mpr ⟨lw_p41, List.forall_mem_cons.mpr ⟨lw_p42, List.forall_mem_cons.mpr ⟨lw_p43, List.forall_mem_cons.mpr ⟨lw_p44, List.forall_mem_cons.mpr ⟨lw_p45, fun _ h => absurd h List.not_mem_nil⟩⟩⟩⟩⟩⟩⟩⟩⟩⟩⟩⟩⟩⟩
def lw_privs : List (MethodName × Nat) := lw_privs_1 ++ (lw_privs_2 ++ (lw_privs_3))
def lw_tbl : List Cond := k2_sels lw_privs ++ tables_1
theorem lw_privs_ok : ∀ q ∈ lw_privs, lw_okq q := by
  show ∀ q ∈ lw_privs_1 ++ (lw_privs_2 ++ (lw_privs_3)), lw_okq q
  exact List.forall_mem_append.mpr ⟨lw_r1, List.forall_mem_append.mpr ⟨lw_r2, lw_r3⟩⟩
end
section
/-! ===== BEGIN words of one list among another's, by their places ===== -/
theorem goodIn_r {big : List Cond} (ws : List Cond) (ps : List Nat) (hp : ws = ps.filterMap (fun i => big[i]?)) (h : ws.all goodWord = true) : GoodIn big ws := by
  intro w hw
  have h1 := List.all_eq_true.mp h w hw
  rw [hp] at hw
  obtain ⟨i, -, hi⟩ := List.mem_filterMap.mp hw
  have hm : w ∈ big := by first | exact List.mem_of_getElem? hi | exact List.getElem?_mem hi
  exact ⟨hm, good_of_word h1⟩
theorem goodIn_app {big a b : List Cond} (ha : GoodIn big a) (hb : GoodIn big b) : GoodIn big (a ++ b) := fun w h => (List.mem_append.mp h).elim (ha w) (hb w)
theorem goodIn_ca {big a b : List Cond} {c : Cond} (ha : GoodIn big (c :: a)) (hb : GoodIn big b) : GoodIn big (c :: (a ++ b)) := fun w h => (List.mem_cons.mp h).elim (fun e => ha w (List.mem_cons.mpr (Or.inl e))) (fun h => (List.mem_append.mp h).elim (fun h => ha w (List.mem_cons.mpr (Or.inr h))) (hb w))
theorem goodIn_sub {big ws : List Cond} (hm : ∀ w ∈ ws, w ∈ big) (h : ws.all goodWord = true) : GoodIn big ws := fun w hw => ⟨hm w hw, good_of_word (List.all_eq_true.mp h w hw)⟩
/-! ===== END ===== -/

/-! ===== BEGIN exceptions that leave a method, and their catching by the caller (launches without stack traces) ===== -/
section VXA
/-! The laws vx_back, vx_callV, vx_callS, vx_callSW, vx_throw0, vx_throwS follow proofs of the library, with one case more: JvmDerived/Free/Laws.lean (Back.of_free), Shelf42/LK1.lean (callV, callS), Shelf/KitTraced.lean (throwNew0V, throwNewS). -/
/-- where a method has thrown q: the class by its name, the cell, what was written, the world -/
def vx_T (XC : String → State → State → Prop) (st : State) (q : Addr) (t : State) (mc ms : Nat) (free : Addr → Prop) : Prop :=
  ∃ (E : String) (ce : Cell) (L : List Loc), XC E st t ∧ t.heap[q]? = some ce ∧ ce.vm = .none ∧ st.vm.findClass E = some ce.cls ∧ st.WarmedH t.vm ∧ st.sameButNew ({ t with vm := st.vm } : State) L mc ms ∧ ∀ z ∈ L, free z.base
def vx_Q (Qc : Array Value → State → Outcome → State → Prop) (XC : String → State → State → Prop) (mc ms : Nat) (free : Addr → Prop) : Array Value → State → Outcome → State → Prop := fun a st o t =>
  (Qc a st o t ∧ ∃ L, FrameEnd st o t L mc ms ∧ ∀ q ∈ L, free q.base) ∨ ∃ q, o = .threw q ∧ vx_T XC st q t mc ms free
/-- a callee that returns or throws -/
def vx_Met (l : Launch) (y : MethodName) (ws : List Cond) (rm : Room) (Pc : Array Value → State → Prop) (Qc : Array Value → State → Outcome → State → Prop) (XC : String → State → State → Prop) (mc ms : Nat) (free : Addr → Prop) : Prop :=
  MetFree l y (headSpec ws rm) Pc (fun _ _ _ _ _ => True) (vx_Q Qc XC mc ms free)
def vx_Post (XC : String → State → State → Prop) (mc ms : Nat) (free : Addr → Prop) : Pt → Array Value → Addr → Pt → Prop := fun A a q B =>
  ∃ (g : JFrame) (mk : MethodId) (t : State) (L : List Loc) (E : String) (ce : Cell), B.U.heap = t.heap ∧ B.U.vm = t.vm ∧ XC E (A.U.calling g mk a) t ∧ t.heap[q]? = some ce ∧ ce.vm = .none ∧ A.U.vm.findClass E = some ce.cls ∧ B.locs = A.locs ++ L ∧ (∀ z ∈ L, free z.base) ∧ B.cells = A.cells + mc ∧ B.slots = A.slots + ms
def vx_Back (l : Launch) (R : Room) (p : Program) (e : Env) (below : List Frame) (s : State) (sargs : Array Value) (y : MethodName) (len W9 : Nat)
    (Pre : Pt → Array Value → Prop) (Post : Pt → Array Value → Option Value → Pt → Prop) (PostX : Pt → Array Value → Addr → Pt → Prop) : Prop :=
  ∀ (m : MethodId) (meth : Method) (c : Code) (A : Pt) (g : JFrame) (ig : Instr) (mk : MethodId) (a : Array Value),
    Stand p l e R s m sargs below meth c A.U A.locs A.cells A.slots → g.method = m → g.locals.size = c.maxLocals → decode c.code g.pc = .ok (ig, len) →
    2 * g.monitorRoom + (g.stack.map fun v => v.category).sum ≤ W9 → A.U.methodNamed? y = some mk → Pre A a →
    (∃ (v : Option Value) (B : Pt), Stand p l e R s m sargs below meth c B.U B.locs B.cells B.slots ∧ Post A a v B ∧
      Steps p.tables e below (doInvoke e (A.U.setTop g) [] mk a).1 (B.U.setTop { g with pc := g.pc + len, stack := v.toList ++ g.stack })) ∨
    (∃ (q : Addr) (B : Pt), Stand p l e R s m sargs below meth c B.U B.locs B.cells B.slots ∧ PostX A a q B ∧
      Steps p.tables e below (doInvoke e (A.U.setTop g) [] mk a).1 ((B.U.setTop g).pushFrame (.throwing q)))
section Payer
variable {l : Launch} {R : Room} {p : Program} {e : Env} {below : List Frame} {s : State} {sargs : Array Value} {y : MethodName} {len W9 : Nat}
theorem vx_back {ws : List Cond} {rm : Room} {Pc : Array Value → State → Prop} {Qc : Array Value → State → Outcome → State → Prop} {XC : String → State → State → Prop} {mc ms : Nat} {free : Addr → Prop} {bytes : ByteArray} {maxL : Nat} {ret : Option FieldType}
    (hM : vx_Met l y ws rm Pc Qc XC mc ms free) (hblind : FrameBlind Pc) (hrc : rm.cells = mc) (hrs : rm.slots = ms)
    (hframes : rm.frames + 1 ≤ R.frames) (hlocals : W9 + (maxL + 11) + rm.locals ≤ R.locals)
    (hws : ∀ w ∈ ws, ∀ a' U, s.WarmedH U.vm → w.before a' U = true) (hcode : Cond.code y bytes maxL ret ∈ ws) (hinit : ∀ a' U, s.WarmedH U.vm → (Cond.initialized y.cls).before a' U = true) :
    vx_Back l R p e below s sargs y len W9 (PreOf R mc ms Pc) (PostOf Qc mc ms free) (vx_Post XC mc ms free) := by
  intro m meth c A g ig mk a X hg hsize hdg hW hn hp
  have h1 : (headSpec ws rm).pre.before a A.U = true := atoms_intro fun w hw => hws w hw _ _ X.warmed
  have h2 : (Cond.code y bytes maxL ret).before a A.U = true := hws _ hcode _ _ X.warmed
  have h3 : (Cond.initialized y.cls).before a A.U = true := hinit _ _ X.warmed
  have h4 : A.cells + (headSpec ws rm).room.cells ≤ R.cells := by rw [show (headSpec ws rm).room.cells = mc from hrc]; exact hp.1
  have h5 : A.slots + (headSpec ws rm).room.slots ≤ R.slots := by rw [show (headSpec ws rm).room.slots = ms from hrs]; exact hp.2.1
  have hPc : Pc a (A.U.calling g mk a) := hblind _ _ _ _ hp.2.2
  obtain ⟨U, Ls, c0, s0⟩ := A
  dsimp only [Pt.U, Pt.locs, Pt.cells, Pt.slots] at h1 h2 h3 h4 h5 X hn hPc ⊢
  obtain ⟨methY, cY, hmY, hcY, -, hlY, -, -, -, -⟩ := Cond.code_spec hn h2
  obtain ⟨kY, hkY, -⟩ := className_of_methodNamed hn
  have hinitY : kY.init = .initialized := Cond.initialized_spec (findClass_of_methodNamed hn) hkY h3
  have h : At U g.method c below := by rw [hg]; exact X.here
  have hlocals9 : W9 + (maxL + 11) + (headSpec ws rm).room.locals ≤ R.locals := hlocals
  have happ : (headSpec ws rm).appliesLoose y e.platform (U.calling g mk a) = true :=
    Spec.appliesLoose_calling (g := g) h hdg hn hkY hinitY
      (X.room_calling (g := g) (R' := (headSpec ws rm).room) hsize hmY hcY hframes (by rw [hlY]; omega) h4 h5) h1
  obtain ⟨mid, hmid⟩ := h.above
  have hfr : (U.setTop g).frames = (.java g :: mid) ++ below := by rw [State.frames_setTop' g h.top, hmid]; rfl
  obtain ⟨o, s₂, hsteps, -, hend, hq⟩ := Steps.callFree hM p X.admits X.cas X.clock (acts := []) hfr happ hPc trivial
  have hq' : vx_Q Qc XC mc ms free a (U.calling g mk a) o s₂ := hq
  rw [State.frames_setTop' g h.top] at hend
  obtain ⟨g₀, hg0⟩ := Option.isSome_iff_exists.mp h.top
  obtain ⟨r, hr⟩ := State.topJava?_eq_some.mp hg0
  have hr' : (({ U with heap := s₂.heap, slotsUsed := s₂.slotsUsed } : State).setVm s₂.vm).frames = .java g₀ :: r := hr
  rcases hq' with ⟨hqc, L, hfe, hL⟩ | ⟨q, rfl, E, ce, L, hx, hce, hcv, hcl, hW₂, hsm, hL⟩
  · obtain ⟨⟨v, rfl⟩, hW₂, e2, q2, q3, q4, q5, q6⟩ := id hfe
    have e3 : s₂ = ({ (U.calling g mk a).setFrames s₂.frames with heap := s₂.heap, slotsUsed := s₂.slotsUsed } : State).setVm s₂.vm := by
      have : s₂ = ({ s₂ with vm := (U.calling g mk a).vm } : State).setVm s₂.vm := rfl
      rw [e2] at this
      exact this
    obtain ⟨c₂, i₂, len₂, hc₂, hd₂, hf₂⟩ := hend
    have hW' : U.WarmedH s₂.vm := hW₂
    have hcc : c₂ = c := by
      have h1 : s₂.code? g.method = U.code? g.method := by
        rw [State.code?_eq, State.code?_eq, hW'.alike.method?]
      exact Option.some.inj (hc₂.symm.trans (h1.trans h.code))
    subst hcc
    have hlen : len₂ = len := by rw [hdg] at hd₂; cases hd₂; rfl
    subst hlen
    have hs₂ : s₂ = (({ U with heap := s₂.heap, slotsUsed := s₂.slotsUsed } : State).setVm s₂.vm).setTop { g with pc := g.pc + len₂, stack := v.toList ++ g.stack } := by
      refine e3.trans ?_
      rw [hf₂, State.calling_eq h.top, State.setFrames_setFrames, State.setTop_of_frames _ hr', hr]
      rfl
    have hsame : U.sameButNew ({ U with heap := s₂.heap, slotsUsed := s₂.slotsUsed } : State) L mc ms := by
      refine ⟨?_, q2, q3, q4, q5, q6⟩
      obtain ⟨t, ht, -⟩ := State.frames_cons hr
      show ({ U with heap := s₂.heap, slotsUsed := s₂.slotsUsed } : State) = { U.setFrames U.frames with heap := s₂.heap, slotsUsed := s₂.slotsUsed }
      rw [State.setFrames_self ht]
    subst hg
    refine Or.inl ⟨v, ⟨(({ U with heap := s₂.heap, slotsUsed := s₂.slotsUsed } : State).setVm s₂.vm), Ls ++ L, c0 + mc, s0 + ms⟩,
      ⟨X.admits, X.cas, X.clock, X.frames, X.room, X.hears, X.method, X.code, (X.here.setHeapUsed s₂.heap s₂.slotsUsed).setVm hW'.alike, X.tail, State.WarmedH.trans X.warmed hW', X.limits, X.bytes, X.same.trans (hsame.setVm s.vm)⟩,
      ⟨g, mk, s₂, L, rfl, rfl, hqc, rfl, hL, rfl, rfl⟩, ?_⟩
    show Steps p.tables e below _ ((({ U with heap := s₂.heap, slotsUsed := s₂.slotsUsed } : State).setVm s₂.vm).setTop { g with pc := g.pc + len₂, stack := v.toList ++ g.stack })
    rw [← hs₂]
    exact hsteps
  · obtain ⟨e2, q2, q3, q4, q5, q6⟩ := id hsm
    have e3 : s₂ = ({ (U.calling g mk a).setFrames s₂.frames with heap := s₂.heap, slotsUsed := s₂.slotsUsed } : State).setVm s₂.vm := by
      have : s₂ = ({ s₂ with vm := (U.calling g mk a).vm } : State).setVm s₂.vm := rfl
      rw [e2] at this
      exact this
    have hf₂ : s₂.frames = .throwing q :: .java g :: U.frames.tail := hend
    have hW' : U.WarmedH s₂.vm := hW₂
    have hs₂ : s₂ = ((({ U with heap := s₂.heap, slotsUsed := s₂.slotsUsed } : State).setVm s₂.vm).setTop g).pushFrame (.throwing q) := by
      refine e3.trans ?_
      rw [hf₂, State.calling_eq h.top, State.setFrames_setFrames, State.pushFrame, State.frames_setTop _ hr', State.setTop_of_frames _ hr', State.setFrames_setFrames, hr]
      rfl
    have hsame : U.sameButNew ({ U with heap := s₂.heap, slotsUsed := s₂.slotsUsed } : State) L mc ms := by
      refine ⟨?_, q2, q3, q4, q5, q6⟩
      obtain ⟨t, ht, -⟩ := State.frames_cons hr
      show ({ U with heap := s₂.heap, slotsUsed := s₂.slotsUsed } : State) = { U.setFrames U.frames with heap := s₂.heap, slotsUsed := s₂.slotsUsed }
      rw [State.setFrames_self ht]
    subst hg
    refine Or.inr ⟨q, ⟨(({ U with heap := s₂.heap, slotsUsed := s₂.slotsUsed } : State).setVm s₂.vm), Ls ++ L, c0 + mc, s0 + ms⟩,
      ⟨X.admits, X.cas, X.clock, X.frames, X.room, X.hears, X.method, X.code, (X.here.setHeapUsed s₂.heap s₂.slotsUsed).setVm hW'.alike, X.tail, State.WarmedH.trans X.warmed hW', X.limits, X.bytes, X.same.trans (hsame.setVm s.vm)⟩,
      ⟨g, mk, s₂, L, E, ce, rfl, rfl, hx, hce, hcv, hcl, rfl, hL, rfl, rfl⟩, ?_⟩
    show Steps p.tables e below _ (((({ U with heap := s₂.heap, slotsUsed := s₂.slotsUsed } : State).setVm s₂.vm).setTop g).pushFrame (.throwing q))
    rw [← hs₂]
    exact hsteps
end Payer
section Calls
variable {p : Program} {l : Launch} {e : Env} {R : Room} {s : State} {m : MethodId} {args : Array Value} {below : List Frame} {meth : Method} {c : Code} {T : State} {locs : List Loc} {cells slots : Nat}
theorem vx_callV (X : Stand p l e R s m args below meth c T locs cells slots) (hexec : p.tables.exec = Jvm.exec) {own C : String} {index : Nat} {y : MethodName} {bytes : ByteArray} {maxL : Nat} {ret : Option FieldType}
    (hown : s.vm.findClass own = some m.cls) (hlink : (Cond.methodLink own index y).before args s = true) (hinst : (Cond.instanceMethod y).before args s = true) (hsel : (Cond.selects C y y).before args s = true)
    (hcode : (Cond.code y bytes maxL ret).before args s = true) (hy : y.cls ≠ "java/lang/invoke/MethodHandle" ∧ y.cls ≠ "java/lang/invoke/VarHandle")
    {W9 : Nat} {Pre : Pt → Array Value → Prop} {Post : Pt → Array Value → Option Value → Pt → Prop} {PostX : Pt → Array Value → Addr → Pt → Prop} (hK : vx_Back l R p e below s args y 3 W9 Pre Post PostX)
    {b : Addr} {cellB : Cell} (hcell : T.heap[b]? = some cellB) (hobj : cellB.vm.isStatics = false) (hcls : s.vm.findClass C = some cellB.cls)
    {g : JFrame} (hg : g.method = m) (hsize : g.locals.size = c.maxLocals) {argsL rest : List Value} (hlen : ∀ sig, parseMethodDescriptor y.desc = some sig → argsL.length = sig.parameters.length)
    (hstack : g.stack = argsL.reverse ++ .ref b :: rest) (hW : 2 * g.monitorRoom + (rest.map fun v => v.category).sum ≤ W9) (hdg : decode c.code g.pc = .ok (.invokevirtual index, 3))
    (hpre : ∀ vm₁, s.WarmedH vm₁ → Pre ⟨T.setVm vm₁, locs, cells, slots⟩ (Value.ref b :: argsL).toArray) :
    (∃ (v : Option Value) (vm₁ : Vm) (B : Pt), s.WarmedH vm₁ ∧ Stand p l e R s m args below meth c B.U B.locs B.cells B.slots ∧ Post ⟨T.setVm vm₁, locs, cells, slots⟩ (Value.ref b :: argsL).toArray v B ∧
      ∀ target, Steps p.tables e below (B.U.setTop { g with pc := g.pc + 3, stack := v.toList ++ rest }) target → Steps p.tables e below (T.setTop g) target) ∨
    (∃ (q : Addr) (vm₁ : Vm) (B : Pt), s.WarmedH vm₁ ∧ Stand p l e R s m args below meth c B.U B.locs B.cells B.slots ∧ PostX ⟨T.setVm vm₁, locs, cells, slots⟩ (Value.ref b :: argsL).toArray q B ∧
      Steps p.tables e below (T.setTop g) ((B.U.setTop { g with stack := rest }).pushFrame (.throwing q))) := by
  obtain ⟨mk, methM, hnamed, hmethM, hstM, habM⟩ := Cond.instanceMethod_spec hinst
  obtain ⟨methM', cM, hmethM', -, -, -, -, -, -, hsigM⟩ := Cond.code_spec hnamed hcode
  cases hmethM.symm.trans hmethM'
  obtain ⟨c2, r2, m2, q1, q2, q3, q4, kP, hkP, hkPi⟩ := Cond.selects_spec hsel
  cases hcls.symm.trans q1
  cases (State.methodFound?_of_named hnamed hy).symm.trans q2
  cases hnamed.symm.trans q3
  have hselP : selectMethod e.platform s.vm cellB.cls mk = .method mk := by rw [Launch.admits_selectMethod X.admits]; exact q4
  obtain ⟨vm₁, X₁, hstep₁⟩ := X.invokevirtual hexec hown hlink hnamed hmethM hstM hkP hkPi hy (a := b) (cell := cellB) hcell
    (fun z h => by rw [h] at hobj; cases hobj) hselP hmethM habM hkP hkPi (g := g) hg (argsL := argsL) (rest := rest) (hlen _ hsigM) hstack hdg
  rcases hK m meth c ⟨T.setVm vm₁, locs, cells, slots⟩ { g with stack := rest } (.invokevirtual index) mk (Value.ref b :: argsL).toArray X₁ hg hsize hdg hW (X₁.named hnamed) (hpre vm₁ X₁.warmed) with ⟨v, B, X', hpost, hsteps⟩ | ⟨q, B, X', hpost, hsteps⟩
  · exact Or.inl ⟨v, vm₁, B, X₁.warmed, X', hpost, fun target h => hstep₁ _ fun acts => by rw [doInvoke_state]; exact hsteps.trans h⟩
  · exact Or.inr ⟨q, vm₁, B, X₁.warmed, X', hpost, hstep₁ _ fun acts => by rw [doInvoke_state]; exact hsteps⟩
theorem vx_callS (X : Stand p l e R s m args below meth c T locs cells slots) (hexec : p.tables.exec = Jvm.exec) {own : String} {index : Nat} {y : MethodName} {bytes : ByteArray} {maxL : Nat} {ret : Option FieldType}
    (hown : s.vm.findClass own = some m.cls) (hlink : (Cond.methodLink own index y).before args s = true) (hstat : (Cond.static y).before args s = true) (hinit : (Cond.initialized y.cls).before args s = true)
    (hcode : (Cond.code y bytes maxL ret).before args s = true) (hy : y.cls ≠ "java/lang/invoke/MethodHandle" ∧ y.cls ≠ "java/lang/invoke/VarHandle")
    {W9 : Nat} {Pre : Pt → Array Value → Prop} {Post : Pt → Array Value → Option Value → Pt → Prop} {PostX : Pt → Array Value → Addr → Pt → Prop} (hK : vx_Back l R p e below s args y 3 W9 Pre Post PostX)
    {g : JFrame} (hg : g.method = m) (hsize : g.locals.size = c.maxLocals) {argsL rest : List Value} (hlen : ∀ sig, parseMethodDescriptor y.desc = some sig → argsL.length = sig.parameters.length)
    (hstack : g.stack = argsL.reverse ++ rest) (hW : 2 * g.monitorRoom + (rest.map fun v => v.category).sum ≤ W9) (hdg : decode c.code g.pc = .ok (.invokestatic index, 3))
    (hpre : ∀ vm₁, s.WarmedH vm₁ → Pre ⟨T.setVm vm₁, locs, cells, slots⟩ argsL.toArray) :
    (∃ (v : Option Value) (vm₁ : Vm) (B : Pt), s.WarmedH vm₁ ∧ Stand p l e R s m args below meth c B.U B.locs B.cells B.slots ∧ Post ⟨T.setVm vm₁, locs, cells, slots⟩ argsL.toArray v B ∧
      ∀ target, Steps p.tables e below (B.U.setTop { g with pc := g.pc + 3, stack := v.toList ++ rest }) target → Steps p.tables e below (T.setTop g) target) ∨
    (∃ (q : Addr) (vm₁ : Vm) (B : Pt), s.WarmedH vm₁ ∧ Stand p l e R s m args below meth c B.U B.locs B.cells B.slots ∧ PostX ⟨T.setVm vm₁, locs, cells, slots⟩ argsL.toArray q B ∧
      Steps p.tables e below (T.setTop g) ((B.U.setTop { g with stack := rest }).pushFrame (.throwing q))) := by
  obtain ⟨mk, hnamed⟩ := Cond.code_named hcode
  obtain ⟨methM, cM, hmethM, -, -, -, -, -, -, hsigM⟩ := Cond.code_spec hnamed hcode
  have hstatic : methM.isStatic = true := Cond.static_spec hnamed hmethM hstat
  obtain ⟨kP, hkP, -⟩ := className_of_methodNamed hnamed
  have hinitP : kP.init = .initialized := Cond.initialized_spec (findClass_of_methodNamed hnamed) hkP hinit
  obtain ⟨vm₁, X₁, hstep₁⟩ := X.invokestatic hexec hown hlink hnamed hmethM hstatic hkP hinitP hy (g := g) hg (argsL := argsL) (rest := rest) (hlen _ hsigM) hstack hdg
  rcases hK m meth c ⟨T.setVm vm₁, locs, cells, slots⟩ { g with stack := rest } (.invokestatic index) mk argsL.toArray X₁ hg hsize hdg hW (X₁.named hnamed) (hpre vm₁ X₁.warmed) with ⟨v, B, X', hpost, hsteps⟩ | ⟨q, B, X', hpost, hsteps⟩
  · exact Or.inl ⟨v, vm₁, B, X₁.warmed, X', hpost, fun target h => hstep₁ _ fun acts => by rw [doInvoke_state]; exact hsteps.trans h⟩
  · exact Or.inr ⟨q, vm₁, B, X₁.warmed, X', hpost, hstep₁ _ fun acts => by rw [doInvoke_state]; exact hsteps⟩
end Calls
theorem vx_cls {s : State} {T : State} {vm₁ : Vm} {E : String} {k : ClassId} (hW : s.WarmedH vm₁) (h : (T.setVm vm₁).vm.findClass E = some k) : s.vm.findClass E = some k := by
  have h1 : vm₁.findClass E = some k := h
  rw [hW.alike.findClass] at h1
  exact h1
/-- the method's frame g, with q thrown over it -/
def vx_W (p : Program) (l : Launch) (e : Env) (R : Room) (s : State) (m : MethodId) (args : Array Value) (below : List Frame) (meth : Method) (c : Code) (H : Heap) (locs : List Loc) (cells slots : Nat) (Q : State → Prop) (g : JFrame) (q : Addr) : Prop :=
  ∀ T : State, T.heap = H → Stand p l e R s m args below meth c T locs cells slots → ∃ t, Steps p.tables e below ((T.setTop g).pushFrame (.throwing q)) t ∧ Q t
def vx_Run (p : Program) (l : Launch) (e : Env) (R : Room) (s : State) (m : MethodId) (args : Array Value) (below : List Frame) (meth : Method) (c : Code) (H : Heap) (locs : List Loc) (cells slots mc ms : Nat) (g : JFrame) (rest : List Value) (Qa : State → Outcome → State → Prop) (XC : String → State → State → Prop) (free : Addr → Prop) : Prop :=
  ∀ T : State, T.heap = H → Stand p l e R s m args below meth c T locs cells slots →
    (∃ (v : Option Value) (st₀ t T' : State) (L : List Loc), st₀.heap = H ∧ Stand p l e R s m args below meth c T' (locs ++ L) (cells + mc) (slots + ms) ∧ (∀ q ∈ L, free q.base) ∧ T'.heap = t.heap ∧ T'.vm = t.vm ∧ Qa st₀ (.returned v) t ∧
      Goes p e below T g T' { g with pc := g.pc + 3, stack := v.toList ++ rest }) ∨
    (∃ (q : Addr) (st₀ t T' : State) (L : List Loc) (E : String) (ce : Cell), st₀.heap = H ∧ Stand p l e R s m args below meth c T' (locs ++ L) (cells + mc) (slots + ms) ∧ (∀ z ∈ L, free z.base) ∧ T'.heap = t.heap ∧ T'.vm = t.vm ∧ XC E st₀ t ∧ t.heap[q]? = some ce ∧ ce.vm = .none ∧ s.vm.findClass E = some ce.cls ∧
      Steps p.tables e below (T.setTop g) ((T'.setTop { g with stack := rest }).pushFrame (.throwing q)))
def vx_X {S : Type} (px : S → Prop) (B : String → S → State → Prop) (A : Nat → Prop) : String → State → State → Prop := fun E st t => ∃ u : S, px u ∧ B E u t ∧ va_F A st t
section Runs
variable {p : Program} {l : Launch} {e : Env} {R : Room} {s : State} {m : MethodId} {args : Array Value} {below : List Frame} {meth : Method} {c : Code} {H : Heap} {locs : List Loc} {cells slots : Nat}
variable {y : MethodName} {bytes cc : ByteArray} {maxL nL mc ms n index : Nat} {ret : Option FieldType} {ws : List Cond} {rm : Room} {Pc : Array Value → State → Prop} {Qc : Array Value → State → Outcome → State → Prop} {XC : String → State → State → Prop} {free : Addr → Prop} {Ts : List Cond} {own C : String} {b : Addr} {As rest : List Value} {g : JFrame}
theorem vx_callBack (cb : CallB R s args own index y bytes maxL ret ws rm mc ms n) (hM : vx_Met l y ws rm Pc Qc XC mc ms free) (hbl : FrameBlind Pc) : vx_Back l R p e below s args y 3 8 (PreOf R mc ms Pc) (PostOf Qc mc ms free) (vx_Post XC mc ms free) := by
  obtain ⟨hrc, hrs, hfr, hlo, hws, hcw, -, hini, -⟩ := cb
  exact vx_back (bytes := bytes) (maxL := maxL) (ret := ret) hM hbl hrc hrs hfr hlo hws hcw (fun a' U hW => word_at hW (Or.inl (by first | rfl | simp [Cond.onTables, Cond.keeps, Cond.steady])) hini)
theorem vx_runV (S : CallFix p m c cc nL s args Ts own) (hM : vx_Met l y ws rm Pc Qc XC mc ms free) (cw : CallW R s args own C index y bytes maxL ret ws rm mc ms n) (hp : PreV s H C b Pc As)
    (hg : g.method = m) (hn : As.length = n) (hsize : g.locals.size = nL) (hstack : g.stack = As.reverse ++ .ref b :: rest) (hW : 2 * g.monitorRoom + (rest.map fun v => v.category).sum ≤ 8) (hdg : decode cc g.pc = .ok (.invokevirtual index, 3)) (hf : cells + mc ≤ R.cells ∧ slots + ms ≤ R.slots) :
    vx_Run p l e R s m args below meth c H locs cells slots mc ms g rest (Qc (Value.ref b :: As).toArray) XC free := by
  have hK : vx_Back l R p e below s args y 3 8 (PreOf R mc ms Pc) (PostOf Qc mc ms free) (vx_Post XC mc ms free) := vx_callBack cw.1 hM hp.1
  obtain ⟨⟨-, -, -, -, -, -, hcode, -, hy, hlen, hl⟩, hin, hse⟩ := cw
  obtain ⟨hx, hb, hml, ho, -⟩ := S
  obtain ⟨-, ⟨cellB, hcB, hoB, hclB⟩, hPc⟩ := hp
  intro T hT X
  rcases vx_callV X hx (C := C) (bytes := bytes) (maxL := maxL) (ret := ret) ho hl hin hse hcode hy hK (by rw [hT]; exact hcB) hoB hclB hg (hsize.trans hml.symm) (argsL := As) (rest := rest) (fun sig h => hn.trans (hlen sig h)) hstack hW (by rw [hb]; exact hdg)
    (fun vm₁ hW₁ => ⟨hf.1, hf.2, hPc (T.setVm vm₁) hT hW₁⟩) with ⟨v, vm₁, ⟨U', l2, c2, s2⟩, hW₁, X', ⟨g', mk, t, L, e1, e2, hq, h1, hL, h2, h3⟩, st⟩ | ⟨q, vm₁, ⟨U', l2, c2, s2⟩, hW₁, X', ⟨g', mk, t, L, E, ce, e1, e2, hq, hce, hcv, hcl, h1, hL, h2, h3⟩, st⟩
  · dsimp only [Pt.U, Pt.locs, Pt.cells, Pt.slots] at X' e1 e2 h1 h2 h3 st
    subst h1; subst h2; subst h3
    exact Or.inl ⟨v, (T.setVm vm₁).calling g' mk (Value.ref b :: As).toArray, t, U', L, hT, X', hL, e1, e2, hq, st⟩
  · dsimp only [Pt.U, Pt.locs, Pt.cells, Pt.slots] at X' e1 e2 h1 h2 h3 st hcl
    subst h1; subst h2; subst h3
    exact Or.inr ⟨q, (T.setVm vm₁).calling g' mk (Value.ref b :: As).toArray, t, U', L, E, ce, hT, X', hL, e1, e2, hq, hce, hcv, vx_cls hW₁ hcl, st⟩
theorem vx_runS (S : CallFix p m c cc nL s args Ts own) (hM : vx_Met l y ws rm Pc Qc XC mc ms free) (cw : CallB R s args own index y bytes maxL ret ws rm mc ms n ∧ (Cond.static y).before args s = true) (hp : PreS s H Pc As)
    (hg : g.method = m) (hn : As.length = n) (hsize : g.locals.size = nL) (hstack : g.stack = As.reverse ++ rest) (hW : 2 * g.monitorRoom + (rest.map fun v => v.category).sum ≤ 8) (hdg : decode cc g.pc = .ok (.invokestatic index, 3)) (hf : cells + mc ≤ R.cells ∧ slots + ms ≤ R.slots) :
    vx_Run p l e R s m args below meth c H locs cells slots mc ms g rest (Qc As.toArray) XC free := by
  have hK : vx_Back l R p e below s args y 3 8 (PreOf R mc ms Pc) (PostOf Qc mc ms free) (vx_Post XC mc ms free) := vx_callBack cw.1 hM hp.1
  obtain ⟨⟨-, -, -, -, -, -, hcode, hini, hy, hlen, hl⟩, hstt⟩ := cw
  obtain ⟨hx, hb, hml, ho, -⟩ := S
  intro T hT X
  rcases vx_callS X hx (bytes := bytes) (maxL := maxL) (ret := ret) ho hl hstt hini hcode hy hK hg (hsize.trans hml.symm) (argsL := As) (rest := rest) (fun sig h => hn.trans (hlen sig h)) hstack hW (by rw [hb]; exact hdg)
    (fun vm₁ hW₁ => ⟨hf.1, hf.2, hp.2 (T.setVm vm₁) hT hW₁⟩) with ⟨v, vm₁, ⟨U', l2, c2, s2⟩, hW₁, X', ⟨g', mk, t, L, e1, e2, hq, h1, hL, h2, h3⟩, st⟩ | ⟨q, vm₁, ⟨U', l2, c2, s2⟩, hW₁, X', ⟨g', mk, t, L, E, ce, e1, e2, hq, hce, hcv, hcl, h1, hL, h2, h3⟩, st⟩
  · dsimp only [Pt.U, Pt.locs, Pt.cells, Pt.slots] at X' e1 e2 h1 h2 h3 st
    subst h1; subst h2; subst h3
    exact Or.inl ⟨v, (T.setVm vm₁).calling g' mk As.toArray, t, U', L, hT, X', hL, e1, e2, hq, st⟩
  · dsimp only [Pt.U, Pt.locs, Pt.cells, Pt.slots] at X' e1 e2 h1 h2 h3 st hcl
    subst h1; subst h2; subst h3
    exact Or.inr ⟨q, (T.setVm vm₁).calling g' mk As.toArray, t, U', L, E, ce, hT, X', hL, e1, e2, hq, hce, hcv, vx_cls hW₁ hcl, st⟩
end Runs
section Rows
variable {p : Program} {l : Launch} {e : Env} {R : Room} {s : State} {m : MethodId} {args : Array Value} {below : List Frame} {meth : Method} {c : Code} {H : Heap} {locs : List Loc} {cells slots : Nat} {Q : State → Prop}
variable {mc ms : Nat} {free : Addr → Prop} {A0 A1 : Nat → Prop} {H0 : Heap} {a : Array Value} {pc : Nat} {ls : Array Slot} {st0 rest : List Value}
theorem vx_keep {st₀ t T' : State} {L : List Loc} (h0 : st₀.heap = H) (e1 : T'.heap = t.heap) (hS : va_S A0 H0 H locs) (hA : ∀ q, q < H.size → A1 q → A0 q) (hf : ∀ q, free q → A0 q) (hL : ∀ q ∈ L, free q.base) (hF : va_F A1 st₀ t) :
    H.size ≤ T'.heap.size ∧ (∀ q : Nat, q < H.size → ¬ A1 q → T'.heap[q]? = H[q]?) ∧ va_S A0 H0 T'.heap (locs ++ L) := by
  obtain ⟨hz, hk⟩ := hF
  rw [h0] at hz hk
  exact ⟨by rw [e1]; exact hz, fun q h1 h2 => by rw [e1]; exact hk q h1 h2,
    ⟨Nat.le_trans hS.1 (by rw [e1]; exact hz), fun q h1 h2 => by rw [e1, hk q (Nat.lt_of_lt_of_le h1 hS.1) (fun z => h2 (hA q (Nat.lt_of_lt_of_le h1 hS.1) z))]; exact hS.2.1 q h1 h2, fun q hq => by
      rcases List.mem_append.mp hq with h | h
      · exact hS.2.2 q h
      · exact hf _ (hL q h)⟩⟩
theorem vx_calli {S SX : Type} {post : Int32 → S → Prop} {px : SX → Prop} {B : S → State → Prop} {BX : String → SX → State → Prop} {AX : Nat → Prop} (hr : vx_Run p l e R s m args below meth c H locs cells slots mc ms (F0 m pc ls st0) rest (va_Qi post B A1 a) (vx_X px BX AX) free) (hS : va_S A0 H0 H locs) (hA : ∀ q, q < H.size → A1 q → A0 q) (hf : ∀ q, free q → A0 q) (hAX : ∀ q, q < H.size → AX q → A0 q)
    (kx : ∀ (E : String) (ce : Cell) (q9 : Addr) (u : SX) (t : State) (H1 : Heap) (locs1 : List Loc), t.heap = H1 → s.vm.Alike t.vm → px u → BX E u t → H.size ≤ H1.size → (∀ q : Nat, q < H.size → ¬ AX q → H1[q]? = H[q]?) → va_S A0 H0 H1 locs1 → H1[q9]? = some ce → ce.vm = .none → s.vm.findClass E = some ce.cls → vx_W p l e R s m args below meth c H1 locs1 (cells + mc) (slots + ms) Q (F0 m pc ls rest) q9)
    (kk : ∀ (r : Int32) (u : S) (t : State) (H1 : Heap) (locs1 : List Loc), t.heap = H1 → s.vm.Alike t.vm → post r u → B u t → H.size ≤ H1.size → (∀ q : Nat, q < H.size → ¬ A1 q → H1[q]? = H[q]?) → va_S A0 H0 H1 locs1 → W p l e R s m args below meth c H1 locs1 (cells + mc) (slots + ms) Q (F0 m (pc + 3) ls (.int r :: rest))) : W p l e R s m args below meth c H locs cells slots Q (F0 m pc ls st0) := by
  intro T hT X
  rcases hr T hT X with ⟨v, st₀, t, T', L, h0, X', hL, e1, e2, ⟨⟨r, u, hv, hp, hb⟩, hF⟩, st⟩ | ⟨q, st₀, t, T', L, E, ce, h0, X', hL, e1, e2, ⟨u, hp, hb, hF⟩, hce, hcv, hcl, st⟩
  · cases hv
    obtain ⟨k1, k2, k3⟩ := vx_keep h0 e1 hS hA hf hL hF
    obtain ⟨t2, a1, b1⟩ := kk r u t T'.heap (locs ++ L) e1.symm (by rw [← e2]; exact X'.warmed.alike) hp hb k1 k2 k3 T' rfl X'
    exact ⟨t2, st t2 a1, b1⟩
  · obtain ⟨k1, k2, k3⟩ := vx_keep h0 e1 hS hAX hf hL hF
    obtain ⟨t2, a1, b1⟩ := kx E ce q u t T'.heap (locs ++ L) e1.symm (by rw [← e2]; exact X'.warmed.alike) hp hb k1 k2 k3 (by rw [e1]; exact hce) hcv hcl T' rfl X'
    exact ⟨t2, st.trans a1, b1⟩
theorem vx_calll {S SX : Type} {post : Int64 → S → Prop} {px : SX → Prop} {B : S → State → Prop} {BX : String → SX → State → Prop} {AX : Nat → Prop} (hr : vx_Run p l e R s m args below meth c H locs cells slots mc ms (F0 m pc ls st0) rest (va_Ql post B A1 a) (vx_X px BX AX) free) (hS : va_S A0 H0 H locs) (hA : ∀ q, q < H.size → A1 q → A0 q) (hf : ∀ q, free q → A0 q) (hAX : ∀ q, q < H.size → AX q → A0 q)
    (kx : ∀ (E : String) (ce : Cell) (q9 : Addr) (u : SX) (t : State) (H1 : Heap) (locs1 : List Loc), t.heap = H1 → s.vm.Alike t.vm → px u → BX E u t → H.size ≤ H1.size → (∀ q : Nat, q < H.size → ¬ AX q → H1[q]? = H[q]?) → va_S A0 H0 H1 locs1 → H1[q9]? = some ce → ce.vm = .none → s.vm.findClass E = some ce.cls → vx_W p l e R s m args below meth c H1 locs1 (cells + mc) (slots + ms) Q (F0 m pc ls rest) q9)
    (kk : ∀ (r : Int64) (u : S) (t : State) (H1 : Heap) (locs1 : List Loc), t.heap = H1 → s.vm.Alike t.vm → post r u → B u t → H.size ≤ H1.size → (∀ q : Nat, q < H.size → ¬ A1 q → H1[q]? = H[q]?) → va_S A0 H0 H1 locs1 → W p l e R s m args below meth c H1 locs1 (cells + mc) (slots + ms) Q (F0 m (pc + 3) ls (.long r :: rest))) : W p l e R s m args below meth c H locs cells slots Q (F0 m pc ls st0) := by
  intro T hT X
  rcases hr T hT X with ⟨v, st₀, t, T', L, h0, X', hL, e1, e2, ⟨⟨r, u, hv, hp, hb⟩, hF⟩, st⟩ | ⟨q, st₀, t, T', L, E, ce, h0, X', hL, e1, e2, ⟨u, hp, hb, hF⟩, hce, hcv, hcl, st⟩
  · cases hv
    obtain ⟨k1, k2, k3⟩ := vx_keep h0 e1 hS hA hf hL hF
    obtain ⟨t2, a1, b1⟩ := kk r u t T'.heap (locs ++ L) e1.symm (by rw [← e2]; exact X'.warmed.alike) hp hb k1 k2 k3 T' rfl X'
    exact ⟨t2, st t2 a1, b1⟩
  · obtain ⟨k1, k2, k3⟩ := vx_keep h0 e1 hS hAX hf hL hF
    obtain ⟨t2, a1, b1⟩ := kx E ce q u t T'.heap (locs ++ L) e1.symm (by rw [← e2]; exact X'.warmed.alike) hp hb k1 k2 k3 (by rw [e1]; exact hce) hcv hcl T' rfl X'
    exact ⟨t2, st.trans a1, b1⟩
theorem vx_callf {S SX : Type} {post : UInt32 → S → Prop} {px : SX → Prop} {B : S → State → Prop} {BX : String → SX → State → Prop} {AX : Nat → Prop} (hr : vx_Run p l e R s m args below meth c H locs cells slots mc ms (F0 m pc ls st0) rest (va_Qf post B A1 a) (vx_X px BX AX) free) (hS : va_S A0 H0 H locs) (hA : ∀ q, q < H.size → A1 q → A0 q) (hf : ∀ q, free q → A0 q) (hAX : ∀ q, q < H.size → AX q → A0 q)
    (kx : ∀ (E : String) (ce : Cell) (q9 : Addr) (u : SX) (t : State) (H1 : Heap) (locs1 : List Loc), t.heap = H1 → s.vm.Alike t.vm → px u → BX E u t → H.size ≤ H1.size → (∀ q : Nat, q < H.size → ¬ AX q → H1[q]? = H[q]?) → va_S A0 H0 H1 locs1 → H1[q9]? = some ce → ce.vm = .none → s.vm.findClass E = some ce.cls → vx_W p l e R s m args below meth c H1 locs1 (cells + mc) (slots + ms) Q (F0 m pc ls rest) q9)
    (kk : ∀ (r : UInt32) (u : S) (t : State) (H1 : Heap) (locs1 : List Loc), t.heap = H1 → s.vm.Alike t.vm → post r u → B u t → H.size ≤ H1.size → (∀ q : Nat, q < H.size → ¬ A1 q → H1[q]? = H[q]?) → va_S A0 H0 H1 locs1 → W p l e R s m args below meth c H1 locs1 (cells + mc) (slots + ms) Q (F0 m (pc + 3) ls (.float r :: rest))) : W p l e R s m args below meth c H locs cells slots Q (F0 m pc ls st0) := by
  intro T hT X
  rcases hr T hT X with ⟨v, st₀, t, T', L, h0, X', hL, e1, e2, ⟨⟨r, u, hv, hp, hb⟩, hF⟩, st⟩ | ⟨q, st₀, t, T', L, E, ce, h0, X', hL, e1, e2, ⟨u, hp, hb, hF⟩, hce, hcv, hcl, st⟩
  · cases hv
    obtain ⟨k1, k2, k3⟩ := vx_keep h0 e1 hS hA hf hL hF
    obtain ⟨t2, a1, b1⟩ := kk r u t T'.heap (locs ++ L) e1.symm (by rw [← e2]; exact X'.warmed.alike) hp hb k1 k2 k3 T' rfl X'
    exact ⟨t2, st t2 a1, b1⟩
  · obtain ⟨k1, k2, k3⟩ := vx_keep h0 e1 hS hAX hf hL hF
    obtain ⟨t2, a1, b1⟩ := kx E ce q u t T'.heap (locs ++ L) e1.symm (by rw [← e2]; exact X'.warmed.alike) hp hb k1 k2 k3 (by rw [e1]; exact hce) hcv hcl T' rfl X'
    exact ⟨t2, st.trans a1, b1⟩
theorem vx_calld {S SX : Type} {post : UInt64 → S → Prop} {px : SX → Prop} {B : S → State → Prop} {BX : String → SX → State → Prop} {AX : Nat → Prop} (hr : vx_Run p l e R s m args below meth c H locs cells slots mc ms (F0 m pc ls st0) rest (va_Qd post B A1 a) (vx_X px BX AX) free) (hS : va_S A0 H0 H locs) (hA : ∀ q, q < H.size → A1 q → A0 q) (hf : ∀ q, free q → A0 q) (hAX : ∀ q, q < H.size → AX q → A0 q)
    (kx : ∀ (E : String) (ce : Cell) (q9 : Addr) (u : SX) (t : State) (H1 : Heap) (locs1 : List Loc), t.heap = H1 → s.vm.Alike t.vm → px u → BX E u t → H.size ≤ H1.size → (∀ q : Nat, q < H.size → ¬ AX q → H1[q]? = H[q]?) → va_S A0 H0 H1 locs1 → H1[q9]? = some ce → ce.vm = .none → s.vm.findClass E = some ce.cls → vx_W p l e R s m args below meth c H1 locs1 (cells + mc) (slots + ms) Q (F0 m pc ls rest) q9)
    (kk : ∀ (r : UInt64) (u : S) (t : State) (H1 : Heap) (locs1 : List Loc), t.heap = H1 → s.vm.Alike t.vm → post r u → B u t → H.size ≤ H1.size → (∀ q : Nat, q < H.size → ¬ A1 q → H1[q]? = H[q]?) → va_S A0 H0 H1 locs1 → W p l e R s m args below meth c H1 locs1 (cells + mc) (slots + ms) Q (F0 m (pc + 3) ls (.double r :: rest))) : W p l e R s m args below meth c H locs cells slots Q (F0 m pc ls st0) := by
  intro T hT X
  rcases hr T hT X with ⟨v, st₀, t, T', L, h0, X', hL, e1, e2, ⟨⟨r, u, hv, hp, hb⟩, hF⟩, st⟩ | ⟨q, st₀, t, T', L, E, ce, h0, X', hL, e1, e2, ⟨u, hp, hb, hF⟩, hce, hcv, hcl, st⟩
  · cases hv
    obtain ⟨k1, k2, k3⟩ := vx_keep h0 e1 hS hA hf hL hF
    obtain ⟨t2, a1, b1⟩ := kk r u t T'.heap (locs ++ L) e1.symm (by rw [← e2]; exact X'.warmed.alike) hp hb k1 k2 k3 T' rfl X'
    exact ⟨t2, st t2 a1, b1⟩
  · obtain ⟨k1, k2, k3⟩ := vx_keep h0 e1 hS hAX hf hL hF
    obtain ⟨t2, a1, b1⟩ := kx E ce q u t T'.heap (locs ++ L) e1.symm (by rw [← e2]; exact X'.warmed.alike) hp hb k1 k2 k3 (by rw [e1]; exact hce) hcv hcl T' rfl X'
    exact ⟨t2, st.trans a1, b1⟩
theorem vx_callv {S SX : Type} {post : S → Prop} {px : SX → Prop} {B : S → State → Prop} {BX : String → SX → State → Prop} {AX : Nat → Prop} (hr : vx_Run p l e R s m args below meth c H locs cells slots mc ms (F0 m pc ls st0) rest (va_Qv post B A1 a) (vx_X px BX AX) free) (hS : va_S A0 H0 H locs) (hA : ∀ q, q < H.size → A1 q → A0 q) (hf : ∀ q, free q → A0 q) (hAX : ∀ q, q < H.size → AX q → A0 q)
    (kx : ∀ (E : String) (ce : Cell) (q9 : Addr) (u : SX) (t : State) (H1 : Heap) (locs1 : List Loc), t.heap = H1 → s.vm.Alike t.vm → px u → BX E u t → H.size ≤ H1.size → (∀ q : Nat, q < H.size → ¬ AX q → H1[q]? = H[q]?) → va_S A0 H0 H1 locs1 → H1[q9]? = some ce → ce.vm = .none → s.vm.findClass E = some ce.cls → vx_W p l e R s m args below meth c H1 locs1 (cells + mc) (slots + ms) Q (F0 m pc ls rest) q9)
    (kk : ∀ (u : S) (t : State) (H1 : Heap) (locs1 : List Loc), t.heap = H1 → s.vm.Alike t.vm → post u → B u t → H.size ≤ H1.size → (∀ q : Nat, q < H.size → ¬ A1 q → H1[q]? = H[q]?) → va_S A0 H0 H1 locs1 → W p l e R s m args below meth c H1 locs1 (cells + mc) (slots + ms) Q (F0 m (pc + 3) ls (rest))) : W p l e R s m args below meth c H locs cells slots Q (F0 m pc ls st0) := by
  intro T hT X
  rcases hr T hT X with ⟨v, st₀, t, T', L, h0, X', hL, e1, e2, ⟨⟨u, hv, hp, hb⟩, hF⟩, st⟩ | ⟨q, st₀, t, T', L, E, ce, h0, X', hL, e1, e2, ⟨u, hp, hb, hF⟩, hce, hcv, hcl, st⟩
  · cases hv
    obtain ⟨k1, k2, k3⟩ := vx_keep h0 e1 hS hA hf hL hF
    obtain ⟨t2, a1, b1⟩ := kk u t T'.heap (locs ++ L) e1.symm (by rw [← e2]; exact X'.warmed.alike) hp hb k1 k2 k3 T' rfl X'
    exact ⟨t2, st t2 a1, b1⟩
  · obtain ⟨k1, k2, k3⟩ := vx_keep h0 e1 hS hAX hf hL hF
    obtain ⟨t2, a1, b1⟩ := kx E ce q u t T'.heap (locs ++ L) e1.symm (by rw [← e2]; exact X'.warmed.alike) hp hb k1 k2 k3 (by rw [e1]; exact hce) hcv hcl T' rfl X'
    exact ⟨t2, st.trans a1, b1⟩
/-- caught by the row x of this method's table; the rows ahead don't take it -/
theorem vx_catch {own name : String} {E : String} {ce : Cell} {q : Addr} (hown : s.vm.findClass own = some m.cls) (pre : List ExceptionTableEntry) (x : ExceptionTableEntry) (suf : List ExceptionTableEntry) (hsplit : c.exceptionTable.toList = pre ++ x :: suf)
    (hpass : ∀ z ∈ pre, covers z pc = false ∨ (z.catchType ≠ 0 ∧ ∃ nm : String, (Cond.classLink own z.catchType nm).before args s = true ∧ va_Nc E nm s)) (hx : covers x pc = true) (h0 : x.catchType ≠ 0)
    (hlink : (Cond.classLink own x.catchType name).before args s = true) (hcast : (Cond.castable E name).before args s = true) (hcell : H[q]? = some ce) (hv : ce.vm = .none) (hcl : s.vm.findClass E = some ce.cls)
    (kk : W p l e R s m args below meth c H locs cells slots Q (F0 m x.handlerPc ls [.ref q])) : vx_W p l e R s m args below meth c H locs cells slots Q (F0 m pc ls rest) q := by
  intro T hT X
  have hpl : e.platform.magicAccessors = ({} : Platform).magicAccessors := by rw [X.admits.platform]
  obtain ⟨c3, c4, hc3, hc4, hasg⟩ := Cond.castable_spec hcast
  cases Option.some.inj (hc3.symm.trans hcl)
  obtain ⟨c5, hc5, hcl5⟩ := Cond.classLink_spec hown hlink e.platform hpl
  cases Option.some.inj (hc4.symm.trans hc5)
  obtain ⟨vm', X', st⟩ := X.thenCaughtThrough q (g := F0 m pc ls rest) rfl (Steps.refl _) (by rw [hT]; exact hcell) (by rw [hv]; rfl) (by obtain ⟨k9, h9, -⟩ := Vm.findClass_spec hcl; exact ⟨k9, h9⟩) pre x suf hsplit
    (fun z hz => by
      rcases hpass z hz with h | ⟨hz0, nm, hl1, hn1⟩
      · exact Or.inl h
      · obtain ⟨c6, hc6, hcl6⟩ := Cond.classLink_spec hown hl1 e.platform hpl
        obtain ⟨a8, b8, h1, h2, h3⟩ := hn1
        cases Option.some.inj (h1.symm.trans hcl)
        cases Option.some.inj (h2.symm.trans hc6)
        exact Or.inr ⟨hz0, _, hcl6, h3⟩) hx (Or.inr ⟨h0, c4, hcl5, hasg⟩)
  obtain ⟨t, a1, b1⟩ := kk (T.setVm vm') hT X'
  exact ⟨t, st.trans a1, b1⟩
end Rows
section Ends
variable {p : Program} {l : Launch} {e : Env} {R : Room} {s : State} {m : MethodId} {args : Array Value} {below : List Frame} {meth : Method} {c : Code} {H : Heap} {locs : List Loc} {cells slots : Nat} {Q : State → Prop}
variable {mc ms : Nat} {free : Addr → Prop} {A0 A1 : Nat → Prop} {H0 : Heap} {a : Array Value} {ls : Array Slot} {st0 rest : List Value}
variable {Qc : Array Value → State → Outcome → State → Prop} {XC : String → State → State → Prop}
/-- what a body that may throw owes at its end -/
def vx_MQ (below : List Frame) (Qc : Array Value → State → Outcome → State → Prop) (XC : String → State → State → Prop) (a : Array Value) (s : State) (mc ms : Nat) (free : Addr → Prop) : State → Prop := fun t =>
  ∃ o, t.status = .running ∧ Ended t below o ∧ vx_Q Qc XC mc ms free a s o t
theorem vx_ret {g : JFrame} {mc ms : Nat} (k : W p l e R s m args below meth c H locs cells slots (MQ below Qc args s mc ms free) g) : W p l e R s m args below meth c H locs cells slots (vx_MQ below Qc XC args s mc ms free) g := by
  intro T hT X
  obtain ⟨t, a1, o, b1, b2, b3, b4⟩ := k T hT X
  exact ⟨t, a1, o, b1, b2, Or.inl ⟨b3, b4⟩⟩
/-- not caught here: it goes on to the caller -/
theorem vx_widen {g : JFrame} {q : Addr} {k n : Nat} (h1 : cells ≤ k) (h2 : slots ≤ n) (kk : vx_W p l e R s m args below meth c H locs k n Q g q) : vx_W p l e R s m args below meth c H locs cells slots Q g q := fun T hT X => kk T hT (stand_widen X h1 h2)
theorem vx_out {pc : Nat} {E : String} {ce : Cell} {q : Addr} {mc ms : Nat} (hout : ∀ x ∈ c.exceptionTable.toList, covers x pc = false) (hlocks : meth.locks = false) (hcell : H[q]? = some ce) (hv : ce.vm = .none) (hcl : s.vm.findClass E = some ce.cls)
    (hx : ∀ t : State, t.heap = H → s.vm.Alike t.vm → XC E s t) (hf : ∀ z ∈ locs, free z.base) (hc : cells ≤ mc) (hs : slots ≤ ms) :
    vx_W p l e R s m args below meth c H locs cells slots (vx_MQ below Qc XC args s mc ms free) (F0 m pc ls rest) q := by
  intro T hT X
  obtain ⟨st1, hrun, hend, hW, hsm⟩ := X.leaveThrown q (g := F0 m pc ls rest) rfl rfl rfl hout hlocks
  have hcell9 : (T.setFrames (.throwing q :: below)).heap[q]? = some ce := by
    show T.heap[q]? = some ce
    rw [hT]; exact hcell
  exact ⟨_, st1, .threw q, hrun, hend, Or.inr ⟨q, rfl, E, ce, locs, hx _ hT hW.alike, hcell9, hv, hcl, hW, hsm.mono hc hs, hf⟩⟩
theorem vx_frame {U : State} {k n : Nat} (h : s.sameButNew ({ U with vm := s.vm } : State) locs k n) : s.heap.size ≤ U.heap.size ∧ ∀ q : Nat, q < s.heap.size → (∀ z ∈ locs, z.base ≠ q) → U.heap[q]? = s.heap[q]? := by
  obtain ⟨-, h2, -, -, -, h6⟩ := h
  refine ⟨h2, fun q hq hz => ?_⟩
  obtain ⟨c9, e1, e2, e3, e4⟩ := h6 q _ (Array.getElem?_eq_getElem hq)
  have hs : c9.slots = (s.heap[q]).slots := Array.ext_getElem? fun i => e4 i fun hm => hz _ hm rfl
  have h9 : c9 = s.heap[q] := by
    rw [hs] at e2
    exact e2
  have e5 : U.heap[q]? = some c9 := e1
  rw [e5, h9, Array.getElem?_eq_getElem hq]
/-- the words of a throw but the four that speak of the heap -/
def vx_no (w : Cond) : Bool := decide (w ≠ .isRef (.static Bundle.tN "UNASSIGNED_STACK" Bundle.steD)) && decide (w ≠ .isRef (.static Bundle.tN "SUPPRESSED_SENTINEL" Bundle.listD)) && decide (w ≠ .laysStatic Bundle.tN "UNASSIGNED_STACK" Bundle.steD) && decide (w ≠ .laysStatic Bundle.tN "SUPPRESSED_SENTINEL" Bundle.listD)
def vx_at0 (own : String) (ic : Nat) (X : String) (names : List String) : List Cond := (Bundle.ownAtoms0 own ic X names).filter vx_no
def vx_atS (own : String) (ic : Nat) (X : String) (names : List String) : List Cond := (Bundle.ownAtoms own ic X names).filter vx_no
/-- a word that the tables alone decide, or a good one -/
def vx_ot (w : Cond) : Bool := w.onTables || goodWord w
theorem vx_ot_at {args a' : Array Value} {s U : State} {w : Cond} (hW : s.WarmedH U.vm) (hvm : s.vm = U.vm) (hg : vx_ot w = true) (h : w.before args s = true) : w.before a' U = true := by
  simp only [vx_ot, Bool.or_eq_true] at hg
  rcases hg with hg | hg
  · exact va_tabs hg hvm h
  · exact word_at hW (good_of_word hg) h
/-- a list's words: the good ones out of the method's own list, the others by premises of their own -/
theorem vx_hat {args : Array Value} {s : State} {L B : List Cond} (h1 : ∀ w ∈ L.filter goodWord, w.before args s = true) (h2 : ∀ w ∈ L.filter (fun w => !goodWord w), w ∈ B) (h3 : ∀ w ∈ B, w.before args s = true) : ∀ w ∈ L, w.before args s = true := by
  intro w hw
  by_cases g : goodWord w = true
  · exact h1 w (List.mem_filter.mpr ⟨hw, g⟩)
  · refine h3 w (h2 w (List.mem_filter.mpr ⟨hw, ?_⟩))
    show (!goodWord w) = true
    cases hgw : goodWord w
    · rfl
    · exact absurd hgw g
theorem vx_c {args : Array Value} {s : State} {w : Cond} {B : List Cond} (h : w.before args s = true) (t : ∀ w ∈ B, w.before args s = true) : ∀ w' ∈ w :: B, w'.before args s = true := fun w' h' => (List.mem_cons.mp h').elim (fun e => by rw [e]; exact h) (t w')
theorem vx_n {args : Array Value} {s : State} : ∀ w ∈ ([] : List Cond), w.before args s = true := fun _ h => nomatch h
theorem vx_own {args : Array Value} {s : State} {L : List Cond} (h1 : ∀ w ∈ L.filter vx_no, w.before args s = true)
    (hU : (Cond.isRef (.static Bundle.tN "UNASSIGNED_STACK" Bundle.steD)).before args s = true) (hN : (Cond.isRef (.static Bundle.tN "SUPPRESSED_SENTINEL" Bundle.listD)).before args s = true)
    (lU : (Cond.laysStatic Bundle.tN "UNASSIGNED_STACK" Bundle.steD).before args s = true) (lN : (Cond.laysStatic Bundle.tN "SUPPRESSED_SENTINEL" Bundle.listD).before args s = true) : ∀ w ∈ L, w.before args s = true := by
  intro w hw
  by_cases e1 : w = .isRef (.static Bundle.tN "UNASSIGNED_STACK" Bundle.steD)
  · rw [e1]; exact hU
  · by_cases e2 : w = .isRef (.static Bundle.tN "SUPPRESSED_SENTINEL" Bundle.listD)
    · rw [e2]; exact hN
    · by_cases e3 : w = .laysStatic Bundle.tN "UNASSIGNED_STACK" Bundle.steD
      · rw [e3]; exact lU
      · by_cases e4 : w = .laysStatic Bundle.tN "SUPPRESSED_SENTINEL" Bundle.listD
        · rw [e4]; exact lN
        · exact h1 w (List.mem_filter.mpr ⟨hw, by unfold vx_no; rw [decide_eq_true e1, decide_eq_true e2, decide_eq_true e3, decide_eq_true e4]; rfl⟩)
/-- where a static field lies, its class's statics cell in H -/
def vx_L (C n d : String) (A : Nat → Prop) (U : State) (H : Heap) : Prop := ∃ (c : ClassId) (k : Class) (i : Nat) (f : Field) (a : Nat) (cell : Cell), U.vm.findClass C = some c ∧ U.fieldFound? C n d = some (c, k, i, f) ∧ f.isStatic = true ∧ k.statics = some a ∧ H[a]? = some cell ∧ cell.vm.isStatics = true ∧ cell.cls = c ∧ f.slot < cell.slots.size ∧ k.staticTypes[f.slot]? = some f.type ∧ ¬ A a
theorem vx_L.moved {C n d : String} {A : Nat → Prop} {u U : State} {H : Heap} (hvm : u.vm.Alike U.vm) (h : vx_L C n d A u H) : vx_L C n d A U H := by
  obtain ⟨c, k, i, f, a, cell, h1, h2, h3, h4, h5, h6, h7, h8, h9, h10⟩ := h
  obtain ⟨k', hi', he⟩ := State.fieldFound?_setVm hvm h2
  exact ⟨c, k', i, f, a, cell, by rw [hvm.findClass]; exact h1, hi', h3, by rw [he]; exact h4, h5, h6, h7, h8, by rw [he]; exact h9, h10⟩
theorem vx_L.kept {C n d : String} {A : Nat → Prop} {U : State} {H H1 : Heap} (h : vx_L C n d A U H) (hq : ∀ a : Nat, a < H.size → ¬ A a → H1[a]? = H[a]?) : vx_L C n d A U H1 := by
  obtain ⟨c, k, i, f, a, cell, h1, h2, h3, h4, h5, h6, h7, h8, h9, h10⟩ := h
  exact ⟨c, k, i, f, a, cell, h1, h2, h3, h4, by rw [hq a (Array.getElem?_eq_some_iff.mp h5).1 h10]; exact h5, h6, h7, h8, h9, h10⟩
theorem vx_L.narrow {C n d : String} {A B : Nat → Prop} {U : State} {H : Heap} (h : vx_L C n d A U H) (hAB : ∀ q, B q → A q) : vx_L C n d B U H := by
  obtain ⟨c, k, i, f, a, cell, h1, h2, h3, h4, h5, h6, h7, h8, h9, h10⟩ := h
  exact ⟨c, k, i, f, a, cell, h1, h2, h3, h4, h5, h6, h7, h8, h9, fun z => h10 (hAB _ z)⟩
theorem vx_L.word {C n d : String} {A : Nat → Prop} {s : State} {args : Array Value} (h : vx_L C n d A s s.heap) : (Cond.laysStatic C n d).before args s = true := by
  obtain ⟨c, k, i, f, a, cell, h1, h2, h3, h4, h5, h6, h7, h8, h9, -⟩ := h
  show (Cond.laysStatic C n d).holds args s none s [] = true
  exact Cond.laysStatic_of h1 h2 h3 h4 h5 h6 h7 h8 h9
/-- .. and what it holds: null or some reference -/
def vx_Zq (C n d : String) (A : Nat → Prop) (U : State) (H : Heap) : Prop := va_Zq C n d A U H ∧ vx_L C n d A U H
theorem vx_Zq.moved {C n d : String} {A : Nat → Prop} {u U : State} {H : Heap} (hvm : u.vm.Alike U.vm) (h : vx_Zq C n d A u H) : vx_Zq C n d A U H := ⟨va_Zq.moved hvm h.1, vx_L.moved hvm h.2⟩
theorem vx_Zq.kept {C n d : String} {A : Nat → Prop} {U : State} {H H1 : Heap} (h : vx_Zq C n d A U H) (hq : ∀ a : Nat, a < H.size → ¬ A a → H1[a]? = H[a]?) : vx_Zq C n d A U H1 := ⟨va_Zq.kept h.1 hq, vx_L.kept h.2 hq⟩
theorem vx_Zq.narrow {C n d : String} {A B : Nat → Prop} {U : State} {H : Heap} (h : vx_Zq C n d A U H) (hAB : ∀ q, B q → A q) : vx_Zq C n d B U H := ⟨va_Zq.narrow h.1 hAB, vx_L.narrow h.2 hAB⟩
theorem vx_Zqof {args : Array Value} {s : State} {C n d : String} {A : Nat → Prop} (hl : (Cond.laysStatic C n d).before args s = true) (hini : (Cond.initialized C).before args s = true) (h : (Cond.isRef (.static C n d)).before args s = true) (hA : ∀ a : Nat, a < s.heap.size → ¬ A a) : vx_Zq C n d A s s.heap := by
  refine ⟨va_Zqof hl hini h hA, ?_⟩
  obtain ⟨c, k, i, f, a, cell, h1, h2, h3, h4, h5, h6, h7, h8, h9⟩ := Cond.laysStatic_spec hl
  exact ⟨c, k, i, f, a, cell, h1, h2, h3, h4, h5, h6, h7, h8, h9, hA a (Array.getElem?_eq_some_iff.mp h5).1⟩
theorem vx_isRef {C n d : String} {v : Value} {A : Nat → Prop} {s : State} {args : Array Value} (h : va_Z C n d v A s s.heap) (hv : v.isRef = true) : (Cond.isRef (.static C n d)).before args s = true := by
  obtain ⟨cf, kf, fi, f, a, cell, h1, h2, h3, h4, h5, h6, h7, -⟩ := h
  have he : (Term.static C n d).eval args s none [] s = some v := by
    simp [Term.eval, State.fieldNamed?, h1, h2, h4, h5, h6, h7]
  simp only [Cond.before, Cond.holds, Cond.value, he]
  cases v <;> simp_all [Value.isRef]
theorem vx_isRefq {C n d : String} {A : Nat → Prop} {s : State} {args : Array Value} (h : va_Zq C n d A s s.heap) : (Cond.isRef (.static C n d)).before args s = true := by
  rcases h with h | ⟨t, h⟩
  · exact vx_isRef h rfl
  · exact vx_isRef h rfl
/-- the same frame, seen from here: as if the method were called anew in this heap -/
theorem vx_rebase {T : State} (X : Stand p l e R s m args below meth c T locs cells slots) {R' : Room} (hf : R'.frames ≤ R.frames) (hl : R'.locals ≤ R.locals) (hc : cells + R'.cells ≤ R.cells) (hs : slots + R'.slots ≤ R.slots) :
    Stand p l e R' ((T.setVm s.vm).setFrames (.invoking m args :: below)) m args below meth c T [] 0 0 := by
  have htop : (T.setVm s.vm).topJava?.isSome := X.here.top
  have hF : ((T.setVm s.vm).setFrames (.invoking m args :: below)).frames = .invoking m args :: below := State.frames_setFrames _ (State.cur_lt_of_top htop)
  obtain ⟨g₀, hg0⟩ := Option.isSome_iff_exists.mp htop
  obtain ⟨r, hr⟩ := State.topJava?_eq_some.mp hg0
  have hl9 : e.platform.stackLimits (T.setVm s.vm).me = e.platform.stackLimits s.me := X.limits
  have hb9 : (T.setVm s.vm).me.stackBytes = s.me.stackBytes := X.bytes
  refine ⟨X.admits, X.cas, X.clock, hF, ?_, X.hears, X.method, X.code, X.here, X.tail, X.warmed, ?_, ?_, ?_⟩
  · have h := X.room
    have hU : ((T.setVm s.vm).setFrames (.invoking m args :: below)).localsInUse = s.localsInUse := by
      rw [State.localsInUse_invoking hF (meth := meth) (c := c) X.method X.code, State.localsInUse_invoking X.frames X.method X.code]
    simp only [State.hasRoom, Bool.and_eq_true, decide_eq_true_eq] at h ⊢
    obtain ⟨⟨⟨⟨h1, h2, h3, h4, h5, h6⟩, h7⟩, h8⟩, h9⟩ := h
    rw [X.frames, List.length_cons] at h2 h3
    have q1 := X.heapSize
    have q2 := X.used
    simp only [hF, hU, List.length_cons, State.stackLimits_setFrames, State.stackBytes_setFrames, hl9, hb9]
    refine ⟨⟨⟨⟨by omega, by omega, by omega, by omega, by omega, h6⟩, ?_⟩, ?_⟩, X.book⟩
    · show T.heap.size + R'.cells ≤ e.platform.maxCells
      omega
    · show T.slotsUsed + R'.slots ≤ e.platform.maxSlots
      omega
  · rw [State.stackLimits_setFrames]; rfl
  · rw [State.stackBytes_setFrames]; rfl
  · refine ⟨?_, Nat.le_refl _, Nat.le_refl _, ?_, ?_, fun a c9 h9 => ⟨c9, h9, rfl, rfl, fun _ _ => rfl⟩⟩
    · obtain ⟨t, ht, -⟩ := State.frames_cons hr
      show T.setVm s.vm = { ((T.setVm s.vm).setFrames (.invoking m args :: below)).setFrames (T.setVm s.vm).frames with heap := T.heap, slotsUsed := T.slotsUsed }
      rw [State.setFrames_setFrames, State.setFrames_self ht]
      rfl
    · show T.slotsUsed = T.slotsUsed + ((T.heap.toList.drop T.heap.size).map (·.slots.size)).sum
      rw [List.drop_eq_nil_of_le (Nat.le_of_eq Array.length_toList)]
      rfl
    · show ((T.heap.toList.drop T.heap.size).map (·.slots.size)).sum ≤ 0
      rw [List.drop_eq_nil_of_le (Nat.le_of_eq Array.length_toList)]
      exact Nat.le_refl _
/-- 'throw new E()': new; dup; invokespecial; athrow -/
theorem vx_throw0 {cc : ByteArray} {pc : Nat} (hexec : p.tables.exec = Jvm.exec) (hb : c.code = cc) (hl : l.stackTraces = false) {own cls : String} {names : List String} {ik ic mc ms : Nat} {A : Nat → Prop}
    (hown : s.vm.findClass own = some m.cls) (hcls : Bundle.fit cls = true) (hnames : ∀ n ∈ names, Bundle.fit n = true)
    (hk : (Cond.classLink own ik cls).before args s = true) (hini : (Cond.initialized cls).before args s = true) (hat : ∀ w ∈ vx_at0 own ic cls names, w.before args s = true)
    (hgood : ∀ w ∈ Cond.classLink own ik cls :: Cond.initialized cls :: vx_at0 own ic cls names, vx_ot w = true)
    (hU : vx_Zq Bundle.tN "UNASSIGNED_STACK" Bundle.steD A s s.heap) (hN : vx_Zq Bundle.tN "SUPPRESSED_SENTINEL" Bundle.listD A s s.heap) (hS : va_S A s.heap H locs) (hsize : ls.size = c.maxLocals)
    (d0 : decode cc pc = .ok (.new ik, 3)) (d3 : decode cc (pc + 3) = .ok (.dup, 1)) (d4 : decode cc (pc + 4) = .ok (.invokespecial ic, 3)) (d7 : decode cc (pc + 7) = .ok (.athrow, 1))
    (hout : ∀ x ∈ c.exceptionTable.toList, covers x (pc + 7) = false)
    (hRframes : names.length + 3 < R.frames) (hRlocals : (rest.map fun v => v.category).sum + (13 * (names.length + 1) + 42) ≤ R.locals) (hRcells : cells + 1 ≤ R.cells) (hRslots : slots + 6 ≤ R.slots) (hlocks : meth.locks = false)
    (hx : ∀ t : State, s.vm.Alike t.vm → H.size ≤ t.heap.size → (∀ q : Nat, q < H.size → t.heap[q]? = H[q]?) → XC cls s t)
    (hf : ∀ z ∈ locs, free z.base) (hc : cells + 1 ≤ mc) (hs : slots + 6 ≤ ms) :
    W p l e R s m args below meth c H locs cells slots (vx_MQ below Qc XC args s mc ms free) (F0 m pc ls rest) := by
  intro T hT X
  have htr : e.platform.stackTraces = false := (show e.platform.stackTraces = l.stackTraces by rw [X.admits.platform]).trans hl
  have Y := vx_rebase X (R' := { frames := R.frames, locals := R.locals, cells := 1, slots := 6 }) (Nat.le_refl _) (Nat.le_refl _) hRcells hRslots
  obtain ⟨s', hA⟩ : ∃ z, z = (T.setVm s.vm).setFrames (.invoking m args :: below) := ⟨_, rfl⟩
  rw [← hA] at Y
  have hvm : s'.vm = s.vm := by rw [hA]; rfl
  have hhp : s'.heap = H := by rw [hA]; exact hT
  have hW0 : s.WarmedH s'.vm := by rw [hvm]; exact State.WarmedH.refl s
  have hat' : ∀ w ∈ vx_at0 own ic cls names, w.before args s' = true := fun w hw => vx_ot_at hW0 hvm.symm (hgood w (List.mem_cons_of_mem _ (List.mem_cons_of_mem _ hw))) (hat w hw)
  have hk' : (Cond.classLink own ik cls).before args s' = true := vx_ot_at hW0 hvm.symm (hgood _ List.mem_cons_self) hk
  have hini' : (Cond.initialized cls).before args s' = true := vx_ot_at hW0 hvm.symm (hgood _ (List.mem_cons_of_mem _ List.mem_cons_self)) hini
  have hU' : vx_Zq Bundle.tN "UNASSIGNED_STACK" Bundle.steD A s' s'.heap := by rw [hhp]; exact vx_Zq.moved hW0.alike (hU.kept hS.2.1)
  have hN' : vx_Zq Bundle.tN "SUPPRESSED_SENTINEL" Bundle.listD A s' s'.heap := by rw [hhp]; exact vx_Zq.moved hW0.alike (hN.kept hS.2.1)
  have h : ∀ w ∈ Bundle.ownAtoms0 own ic cls names, w.before args s' = true := vx_own hat' (vx_isRefq hU'.1) (vx_isRefq hN'.1) hU'.2.word hN'.2.word
  have hown' : s'.vm.findClass own = some m.cls := by rw [hvm]; exact hown
  have hins : (Cond.instantiable cls 6).before args s' = true := h _ (by simp [Bundle.ownAtoms0])
  obtain ⟨vm₁, cX, kX, hfX, hkX, -, -, X₁, st1⟩ := Y.newCold hexec (own := own) (C := cls) (index := ik) (n := 6) hown' hk' hins hini'
    (g := F0 m pc ls rest) rfl (by rw [hb]; exact d0) (Nat.le_refl _) (Nat.le_refl _)
  generalize hT1 : (T.setVm vm₁).pushCell { cls := cX, slots := kX.instanceTypes.map defaultValue, vm := .none } = T1 at X₁ st1
  have hcat : (Value.ref T.heap.size).category = 1 := rfl
  have hcellA : T1.heap[T.heap.size]? = some (freshCell cX kX) := by rw [← hT1]; exact State.heap_pushCell_size _ _
  have d3' : decode c.code (pc + 3) = .ok (.dup, 1) := by rw [hb]; exact d3
  obtain ⟨U, hsteps, hrun, hend, hW, hsame, ce, hce, hO⟩ := X₁.ctorThrow0 hexec htr (own := own) (cls := cls) (names := names) (ic := ic) hown' hcls hnames h (fun x hx => nomatch hx) hfX hkX hcellA (by rw [hhp, hT]; exact Nat.le_refl _)
    (g := { method := m, pc := pc + 4, locals := ls, stack := .ref T.heap.size :: .ref T.heap.size :: rest, locked := none }) rfl hsize rfl rfl (rest := rest) rfl
    (by rw [hb]; exact d4) (by rw [hb]; exact d7) hout hRframes (by simp only [List.map_cons, List.sum_cons, hcat]; omega) hlocks
  obtain ⟨f1, f2⟩ := vx_frame hsame
  rw [hhp] at f1 f2
  have hWs : s.WarmedH U.vm := State.WarmedH.trans hW0 hW
  have hcl : s.vm.findClass cls = some ce.cls := by
    have h9 := hO.cls
    rw [hvm] at h9
    exact h9
  have hall : s.sameButNew ({ U with vm := s.vm } : State) locs mc ms := by
    subst hA
    obtain ⟨e1, e2⟩ := hsame
    rw [State.setFrames_setFrames] at e1
    have h2 : (T.setVm s.vm).sameButNew ({ U with vm := s.vm } : State) [] (0 + 1) (0 + 6) := ⟨e1, e2⟩
    have h3 := X.same.trans h2
    rw [List.append_nil] at h3
    exact h3.mono hc hs
  refine ⟨U, ?_, .threw T.heap.size, hrun, hend, Or.inr ⟨T.heap.size, rfl, cls, ce, locs, hx U hWs.alike f1 (fun q hq => f2 q hq (fun z hz => nomatch hz)), hce, hO.vm, hcl, hWs, hall, hf⟩⟩
  refine st1 _ ?_
  show Steps p.tables e below (T1.setTop { method := m, pc := pc + 3, locals := ls, stack := .ref T.heap.size :: rest, locked := none }) _
  jvm_step X₁.here [X₁.here.top, hexec, d3', Value.category]
  exact hsteps
/-- 'throw new E("text")': new; dup; ldc; invokespecial; athrow -/
theorem vx_throwS {cc : ByteArray} {pc : Nat} (hexec : p.tables.exec = Jvm.exec) (hb : c.code = cc) (hl : l.stackTraces = false) {own cls text : String} {names : List String} {ik is ic mc ms sa : Nat} {A : Nat → Prop}
    (hown : s.vm.findClass own = some m.cls) (hcls : Bundle.fit cls = true) (hnames : ∀ n ∈ names, Bundle.fit n = true)
    (hk : (Cond.classLink own ik cls).before args s = true) (hini : (Cond.initialized cls).before args s = true) (hstr : vk_R own is text sa s) (hat : ∀ w ∈ vx_atS own ic cls names, w.before args s = true)
    (hgood : ∀ w ∈ Cond.classLink own ik cls :: Cond.initialized cls :: vx_atS own ic cls names, vx_ot w = true)
    (hU : vx_Zq Bundle.tN "UNASSIGNED_STACK" Bundle.steD A s s.heap) (hN : vx_Zq Bundle.tN "SUPPRESSED_SENTINEL" Bundle.listD A s s.heap) (hS : va_S A s.heap H locs) (hsize : ls.size = c.maxLocals)
    (d0 : decode cc pc = .ok (.new ik, 3)) (d3 : decode cc (pc + 3) = .ok (.dup, 1)) (d4 : decode cc (pc + 4) = .ok (.ldc is, 2)) (d6 : decode cc (pc + 6) = .ok (.invokespecial ic, 3)) (d9 : decode cc (pc + 9) = .ok (.athrow, 1))
    (hout : ∀ x ∈ c.exceptionTable.toList, covers x (pc + 9) = false)
    (hRframes : names.length + 3 < R.frames) (hRlocals : (rest.map fun v => v.category).sum + (13 * (names.length + 1) + 43) ≤ R.locals) (hRcells : cells + 1 ≤ R.cells) (hRslots : slots + 6 ≤ R.slots) (hlocks : meth.locks = false)
    (hx : ∀ t : State, s.vm.Alike t.vm → H.size ≤ t.heap.size → (∀ q : Nat, q < H.size → t.heap[q]? = H[q]?) → XC cls s t)
    (hf : ∀ z ∈ locs, free z.base) (hc : cells + 1 ≤ mc) (hs : slots + 6 ≤ ms) :
    W p l e R s m args below meth c H locs cells slots (vx_MQ below Qc XC args s mc ms free) (F0 m pc ls rest) := by
  intro T hT X
  have htr : e.platform.stackTraces = false := (show e.platform.stackTraces = l.stackTraces by rw [X.admits.platform]).trans hl
  have Y := vx_rebase X (R' := { frames := R.frames, locals := R.locals, cells := 1, slots := 6 }) (Nat.le_refl _) (Nat.le_refl _) hRcells hRslots
  obtain ⟨s', hA⟩ : ∃ z, z = (T.setVm s.vm).setFrames (.invoking m args :: below) := ⟨_, rfl⟩
  rw [← hA] at Y
  have hvm : s'.vm = s.vm := by rw [hA]; rfl
  have hhp : s'.heap = H := by rw [hA]; exact hT
  have hW0 : s.WarmedH s'.vm := by rw [hvm]; exact State.WarmedH.refl s
  have hat' : ∀ w ∈ vx_atS own ic cls names, w.before args s' = true := fun w hw => vx_ot_at hW0 hvm.symm (hgood w (List.mem_cons_of_mem _ (List.mem_cons_of_mem _ hw))) (hat w hw)
  have hk' : (Cond.classLink own ik cls).before args s' = true := vx_ot_at hW0 hvm.symm (hgood _ List.mem_cons_self) hk
  have hini' : (Cond.initialized cls).before args s' = true := vx_ot_at hW0 hvm.symm (hgood _ (List.mem_cons_of_mem _ List.mem_cons_self)) hini
  have hU' : vx_Zq Bundle.tN "UNASSIGNED_STACK" Bundle.steD A s' s'.heap := by rw [hhp]; exact vx_Zq.moved hW0.alike (hU.kept hS.2.1)
  have hN' : vx_Zq Bundle.tN "SUPPRESSED_SENTINEL" Bundle.listD A s' s'.heap := by rw [hhp]; exact vx_Zq.moved hW0.alike (hN.kept hS.2.1)
  have h : ∀ w ∈ Bundle.ownAtoms own ic cls names, w.before args s' = true := vx_own hat' (vx_isRefq hU'.1) (vx_isRefq hN'.1) hU'.2.word hN'.2.word
  have hown' : s'.vm.findClass own = some m.cls := by rw [hvm]; exact hown
  have hins : (Cond.instantiable cls 6).before args s' = true := h _ (by simp [Bundle.ownAtoms])
  obtain ⟨vm₁, cX, kX, hfX, hkX, -, -, X₁, st1⟩ := Y.newCold hexec (own := own) (C := cls) (index := ik) (n := 6) hown' hk' hins hini'
    (g := F0 m pc ls rest) rfl (by rw [hb]; exact d0) (Nat.le_refl _) (Nat.le_refl _)
  generalize hT1 : (T.setVm vm₁).pushCell { cls := cX, slots := kX.instanceTypes.map defaultValue, vm := .none } = T1 at X₁ st1
  have hcat : (Value.ref T.heap.size).category = 1 := rfl
  have hcellA : T1.heap[T.heap.size]? = some (freshCell cX kX) := by rw [← hT1]; exact State.heap_pushCell_size _ _
  have d3' : decode c.code (pc + 3) = .ok (.dup, 1) := by rw [hb]; exact d3
  have d4' : decode c.code (pc + 4) = .ok (.ldc is, 2) := by rw [hb]; exact d4
  have hstr' : vk_R own is text sa s' := vk_R.warm hW0 hstr
  obtain ⟨U, hsteps, hrun, hend, hW, hsame, ce, hce, hO⟩ := X₁.ctorThrowS hexec htr (own := own) (cls := cls) (names := names) (ic := ic) hown' hcls hnames h (fun x hx => nomatch hx) hfX hkX hcellA (by rw [hhp, hT]; exact Nat.le_refl _) (msg := .ref sa) rfl
    (g := { method := m, pc := pc + 6, locals := ls, stack := .ref sa :: .ref T.heap.size :: .ref T.heap.size :: rest, locked := none }) rfl hsize rfl rfl (rest := rest) rfl
    (by rw [hb]; exact d6) (by rw [hb]; exact d9) hout hRframes (by simp only [List.map_cons, List.sum_cons, hcat]; omega) hlocks
  obtain ⟨f1, f2⟩ := vx_frame hsame
  rw [hhp] at f1 f2
  have hWs : s.WarmedH U.vm := State.WarmedH.trans hW0 hW
  have hcl : s.vm.findClass cls = some ce.cls := by
    have h9 := hO.cls
    rw [hvm] at h9
    exact h9
  have hall : s.sameButNew ({ U with vm := s.vm } : State) locs mc ms := by
    subst hA
    obtain ⟨e1, e2⟩ := hsame
    rw [State.setFrames_setFrames] at e1
    have h2 : (T.setVm s.vm).sameButNew ({ U with vm := s.vm } : State) [] (0 + 1) (0 + 6) := ⟨e1, e2⟩
    have h3 := X.same.trans h2
    rw [List.append_nil] at h3
    exact h3.mono hc hs
  refine ⟨U, ?_, .threw T.heap.size, hrun, hend, Or.inr ⟨T.heap.size, rfl, cls, ce, locs, hx U hWs.alike f1 (fun q hq => f2 q hq (fun z hz => nomatch hz)), hce, hO.vm, hcl, hWs, hall, hf⟩⟩
  refine st1 _ ?_
  show Steps p.tables e below (T1.setTop { method := m, pc := pc + 3, locals := ls, stack := .ref T.heap.size :: rest, locked := none }) _
  jvm_step X₁.here [X₁.here.top, hexec, d3', Value.category]
  exact X₁.ldcString hexec (own := own) (text := text) (index := is) (a := sa) hown' hstr'.1 hstr'.2
    (g := { method := m, pc := pc + 4, locals := ls, stack := .ref T.heap.size :: .ref T.heap.size :: rest, locked := none }) rfl d4' _ hsteps
/-- 'throw new E("text")', the text by a wide index -/
theorem vx_throwSW {cc : ByteArray} {pc : Nat} (hexec : p.tables.exec = Jvm.exec) (hb : c.code = cc) (hl : l.stackTraces = false) {own cls text : String} {names : List String} {ik is ic mc ms sa : Nat} {A : Nat → Prop}
    (hown : s.vm.findClass own = some m.cls) (hcls : Bundle.fit cls = true) (hnames : ∀ n ∈ names, Bundle.fit n = true)
    (hk : (Cond.classLink own ik cls).before args s = true) (hini : (Cond.initialized cls).before args s = true) (hstr : vk_R own is text sa s) (hat : ∀ w ∈ vx_atS own ic cls names, w.before args s = true)
    (hgood : ∀ w ∈ Cond.classLink own ik cls :: Cond.initialized cls :: vx_atS own ic cls names, vx_ot w = true)
    (hU : vx_Zq Bundle.tN "UNASSIGNED_STACK" Bundle.steD A s s.heap) (hN : vx_Zq Bundle.tN "SUPPRESSED_SENTINEL" Bundle.listD A s s.heap) (hS : va_S A s.heap H locs) (hsize : ls.size = c.maxLocals)
    (d0 : decode cc pc = .ok (.new ik, 3)) (d3 : decode cc (pc + 3) = .ok (.dup, 1)) (d4 : decode cc (pc + 4) = .ok (.ldc_w is, 3)) (d7 : decode cc (pc + 7) = .ok (.invokespecial ic, 3)) (d10 : decode cc (pc + 10) = .ok (.athrow, 1))
    (hout : ∀ x ∈ c.exceptionTable.toList, covers x (pc + 10) = false)
    (hRframes : names.length + 3 < R.frames) (hRlocals : (rest.map fun v => v.category).sum + (13 * (names.length + 1) + 43) ≤ R.locals) (hRcells : cells + 1 ≤ R.cells) (hRslots : slots + 6 ≤ R.slots) (hlocks : meth.locks = false)
    (hx : ∀ t : State, s.vm.Alike t.vm → H.size ≤ t.heap.size → (∀ q : Nat, q < H.size → t.heap[q]? = H[q]?) → XC cls s t)
    (hf : ∀ z ∈ locs, free z.base) (hc : cells + 1 ≤ mc) (hs : slots + 6 ≤ ms) :
    W p l e R s m args below meth c H locs cells slots (vx_MQ below Qc XC args s mc ms free) (F0 m pc ls rest) := by
  intro T hT X
  have htr : e.platform.stackTraces = false := (show e.platform.stackTraces = l.stackTraces by rw [X.admits.platform]).trans hl
  have Y := vx_rebase X (R' := { frames := R.frames, locals := R.locals, cells := 1, slots := 6 }) (Nat.le_refl _) (Nat.le_refl _) hRcells hRslots
  obtain ⟨s', hA⟩ : ∃ z, z = (T.setVm s.vm).setFrames (.invoking m args :: below) := ⟨_, rfl⟩
  rw [← hA] at Y
  have hvm : s'.vm = s.vm := by rw [hA]; rfl
  have hhp : s'.heap = H := by rw [hA]; exact hT
  have hW0 : s.WarmedH s'.vm := by rw [hvm]; exact State.WarmedH.refl s
  have hat' : ∀ w ∈ vx_atS own ic cls names, w.before args s' = true := fun w hw => vx_ot_at hW0 hvm.symm (hgood w (List.mem_cons_of_mem _ (List.mem_cons_of_mem _ hw))) (hat w hw)
  have hk' : (Cond.classLink own ik cls).before args s' = true := vx_ot_at hW0 hvm.symm (hgood _ List.mem_cons_self) hk
  have hini' : (Cond.initialized cls).before args s' = true := vx_ot_at hW0 hvm.symm (hgood _ (List.mem_cons_of_mem _ List.mem_cons_self)) hini
  have hU' : vx_Zq Bundle.tN "UNASSIGNED_STACK" Bundle.steD A s' s'.heap := by rw [hhp]; exact vx_Zq.moved hW0.alike (hU.kept hS.2.1)
  have hN' : vx_Zq Bundle.tN "SUPPRESSED_SENTINEL" Bundle.listD A s' s'.heap := by rw [hhp]; exact vx_Zq.moved hW0.alike (hN.kept hS.2.1)
  have h : ∀ w ∈ Bundle.ownAtoms own ic cls names, w.before args s' = true := vx_own hat' (vx_isRefq hU'.1) (vx_isRefq hN'.1) hU'.2.word hN'.2.word
  have hown' : s'.vm.findClass own = some m.cls := by rw [hvm]; exact hown
  have hins : (Cond.instantiable cls 6).before args s' = true := h _ (by simp [Bundle.ownAtoms])
  obtain ⟨vm₁, cX, kX, hfX, hkX, -, -, X₁, st1⟩ := Y.newCold hexec (own := own) (C := cls) (index := ik) (n := 6) hown' hk' hins hini'
    (g := F0 m pc ls rest) rfl (by rw [hb]; exact d0) (Nat.le_refl _) (Nat.le_refl _)
  generalize hT1 : (T.setVm vm₁).pushCell { cls := cX, slots := kX.instanceTypes.map defaultValue, vm := .none } = T1 at X₁ st1
  have hcat : (Value.ref T.heap.size).category = 1 := rfl
  have hcellA : T1.heap[T.heap.size]? = some (freshCell cX kX) := by rw [← hT1]; exact State.heap_pushCell_size _ _
  have d3' : decode c.code (pc + 3) = .ok (.dup, 1) := by rw [hb]; exact d3
  have d4' : decode c.code (pc + 4) = .ok (.ldc_w is, 3) := by rw [hb]; exact d4
  have hstr' : vk_R own is text sa s' := vk_R.warm hW0 hstr
  obtain ⟨U, hsteps, hrun, hend, hW, hsame, ce, hce, hO⟩ := X₁.ctorThrowS hexec htr (own := own) (cls := cls) (names := names) (ic := ic) hown' hcls hnames h (fun x hx => nomatch hx) hfX hkX hcellA (by rw [hhp, hT]; exact Nat.le_refl _) (msg := .ref sa) rfl
    (g := { method := m, pc := pc + 7, locals := ls, stack := .ref sa :: .ref T.heap.size :: .ref T.heap.size :: rest, locked := none }) rfl hsize rfl rfl (rest := rest) rfl
    (by rw [hb]; exact d7) (by rw [hb]; exact d10) hout hRframes (by simp only [List.map_cons, List.sum_cons, hcat]; omega) hlocks
  obtain ⟨f1, f2⟩ := vx_frame hsame
  rw [hhp] at f1 f2
  have hWs : s.WarmedH U.vm := State.WarmedH.trans hW0 hW
  have hcl : s.vm.findClass cls = some ce.cls := by
    have h9 := hO.cls
    rw [hvm] at h9
    exact h9
  have hall : s.sameButNew ({ U with vm := s.vm } : State) locs mc ms := by
    subst hA
    obtain ⟨e1, e2⟩ := hsame
    rw [State.setFrames_setFrames] at e1
    have h2 : (T.setVm s.vm).sameButNew ({ U with vm := s.vm } : State) [] (0 + 1) (0 + 6) := ⟨e1, e2⟩
    have h3 := X.same.trans h2
    rw [List.append_nil] at h3
    exact h3.mono hc hs
  refine ⟨U, ?_, .threw T.heap.size, hrun, hend, Or.inr ⟨T.heap.size, rfl, cls, ce, locs, hx U hWs.alike f1 (fun q hq => f2 q hq (fun z hz => nomatch hz)), hce, hO.vm, hcl, hWs, hall, hf⟩⟩
  refine st1 _ ?_
  show Steps p.tables e below (T1.setTop { method := m, pc := pc + 3, locals := ls, stack := .ref T.heap.size :: rest, locked := none }) _
  jvm_step X₁.here [X₁.here.top, hexec, d3', Value.category]
  exact X₁.ldcStringW hexec (own := own) (text := text) (index := is) (a := sa) hown' hstr'.1 hstr'.2
    (g := { method := m, pc := pc + 4, locals := ls, stack := .ref T.heap.size :: .ref T.heap.size :: rest, locked := none }) rfl d4' _ hsteps
end Ends
section Bodies
variable {l : Launch}
theorem vx_ofW {y : MethodName} {ws ws' : List Cond} {rm : Room} {Pc : Array Value → State → Prop} {Qc : Array Value → State → Outcome → State → Prop} {XC : String → State → State → Prop} {mc ms : Nat} {free : Addr → Prop} {cc : ByteArray} {maxL : Nat} {ret : Option FieldType}
    (hy : plainName y.cls = true) (hw : ws = Cond.code y cc maxL ret :: ws')
    (body : ∀ p e s m args below meth c s₁, BodyLoose p l y (headSpec ws rm) cc maxL ret e s m args below meth c s₁ → c.maxLocals = maxL → (∀ x ∈ c.exceptionTable.toList, False) → Pc args s →
      W p l e (headSpec ws rm).room s m args below meth c s.heap [] 0 0 (vx_MQ below Qc XC args s mc ms free) (entryFrame m args maxL)) : vx_Met l y ws rm Pc Qc XC mc ms free := by
  refine MetFree.of_bodyS (code := cc) (maxLocals := maxL) (ret := ret) hy ?_ ?_
  · intro args s m h hn
    obtain ⟨meth, c, h1, h2, h3, h4, h5, h6, -, -⟩ := Cond.code_spec hn (atoms_spec (ws := ws) h _ (by rw [hw]; exact List.mem_cons_self))
    exact ⟨meth, c, h1, h2, h3, h4, h5, h6⟩
  · intro p e s m args below meth c s₁ B hml hP _
    have hh0 : s₁.heap = s.heap := by rw [B.state]; rfl
    have ht : ∀ x ∈ c.exceptionTable.toList, False := by
      obtain ⟨meth9, c9, h1, h2, -, -, -, -, h7, -⟩ := Cond.code_spec B.named (atoms_spec (ws := ws) B.pre _ (by rw [hw]; exact List.mem_cons_self))
      cases Option.some.inj (h1.symm.trans B.method)
      cases Option.some.inj (h2.symm.trans (Stand.of_body B).code)
      intro x hx
      rw [Array.isEmpty_iff.mp h7] at hx
      cases hx
    obtain ⟨t, a1, o, b1, b2, b3⟩ := body p e s m args below meth c s₁ B hml ht hP s₁ hh0 (Stand.of_body B)
    exact ⟨t, o, a1, b1, b2, b3⟩
/-- the table of a body with handlers -/
theorem vx_table {p : Program} {x y : MethodName} {S : Spec} {cc bytes : ByteArray} {maxL maxL' : Nat} {ret ret' : Option FieldType} {e : Env} {s s₁ : State} {m : MethodId} {args : Array Value} {below : List Frame} {meth : Method} {c : Code} {hh : List (Nat × Nat × Nat × Nat)}
    (B : BodyLoose p l y S cc maxL ret e s m args below meth c s₁) (h : (Cond.codeWith y bytes maxL' ret' hh).before args s = true) : c.exceptionTable.toList = tableOf hh := by
  obtain ⟨m9, meth9, c9, hn9, h1, h2, -, -, h6, -⟩ := Cond.codeWith_spec h
  cases Option.some.inj (hn9.symm.trans B.named)
  cases Option.some.inj (h1.symm.trans B.method)
  cases Option.some.inj (h2.symm.trans (Stand.of_body B).code)
  rw [← h6, table_eq]
end Bodies
end VXA
/-! ===== END ===== -/
/-! ===== BEGIN a static call of a method with an exception table ===== -/
section VXS
variable {p : Program} {l : Launch} {e : Env} {R : Room} {s : State} {m : MethodId} {args : Array Value} {below : List Frame} {meth : Method} {c : Code} {T : State} {H : Heap} {locs : List Loc} {cells slots : Nat}
abbrev vx_CSW (R : Room) (s : State) (args : Array Value) (own : String) (index : Nat) (y : MethodName) (bytes : ByteArray) (maxL : Nat) (ret : Option FieldType) (hh : List (Nat × Nat × Nat × Nat)) (ws : List Cond) (rm : Room) (mc ms n : Nat) : Prop :=
  (rm.cells = mc ∧ rm.slots = ms ∧ rm.frames + 1 ≤ R.frames ∧ 8 + (maxL + 11) + rm.locals ≤ R.locals ∧ (∀ w ∈ ws, ∀ (a' : Array Value) (U : State), s.WarmedH U.vm → w.before a' U = true) ∧ Cond.codeWith y bytes maxL ret hh ∈ ws) ∧
  (Cond.codeWith y bytes maxL ret hh).before args s = true ∧ (Cond.initialized y.cls).before args s = true ∧ (y.cls ≠ "java/lang/invoke/MethodHandle" ∧ y.cls ≠ "java/lang/invoke/VarHandle") ∧
  (∀ sig, parseMethodDescriptor y.desc = some sig → n = sig.parameters.length) ∧ (Cond.methodLink own index y).before args s = true ∧ (Cond.static y).before args s = true
theorem vx_cwSW {own : String} {index maxL mc ms : Nat} {y : MethodName} {bytes : ByteArray} {ret : Option FieldType} {hh : List (Nat × Nat × Nat × Nat)} {Ts ws ws' : List Cond} {rm : Room} (n : Nat) (ht : ∀ w ∈ Ts, w.before args s = true) (hT : GoodIn Ts (va_wsS own index y ws)) (hw : ws = Cond.codeWith y bytes maxL ret hh :: ws') (hrc : rm.cells = mc) (hrs : rm.slots = ms)
    (hd : y.cls ≠ "java/lang/invoke/MethodHandle" ∧ y.cls ≠ "java/lang/invoke/VarHandle" ∧ (parseMethodDescriptor y.desc).map (fun d => d.parameters.length) = some n) (hR : rm.frames + 1 ≤ R.frames ∧ 8 + (maxL + 11) + rm.locals ≤ R.locals) :
    vx_CSW R s args own index y bytes maxL ret hh ws rm mc ms n := by
  have ok : ∀ w ∈ va_wsS own index y ws, w.before args s = true := fun w h => ht w (hT w h).1
  have hG : GoodIn Ts ws := fun w h => hT w (by unfold va_wsS; exact List.mem_append_right _ h)
  have hc : Cond.codeWith y bytes maxL ret hh ∈ ws := by rw [hw]; exact List.mem_cons_self
  refine ⟨⟨hrc, hrs, hR.1, hR.2, pay_in ht hG, hc⟩, ht _ (hG _ hc).1, ok _ (by simp [va_wsS]), ⟨hd.1, hd.2.1⟩, fun sig h => ?_, ok _ (by simp [va_wsS]), ok _ (by simp [va_wsS])⟩
  have h2 := hd.2.2
  rw [h] at h2
  exact (Option.some.inj h2).symm
theorem vx_callSW (X : Stand p l e R s m args below meth c T locs cells slots) (hexec : p.tables.exec = Jvm.exec) {own : String} {index : Nat} {y : MethodName} {bytes : ByteArray} {maxL : Nat} {ret : Option FieldType} {hh : List (Nat × Nat × Nat × Nat)}
    (hown : s.vm.findClass own = some m.cls) (hlink : (Cond.methodLink own index y).before args s = true) (hstat : (Cond.static y).before args s = true) (hinit : (Cond.initialized y.cls).before args s = true)
    (hcode : (Cond.codeWith y bytes maxL ret hh).before args s = true) (hy : y.cls ≠ "java/lang/invoke/MethodHandle" ∧ y.cls ≠ "java/lang/invoke/VarHandle")
    {W9 : Nat} {Pre : Pt → Array Value → Prop} {Post : Pt → Array Value → Option Value → Pt → Prop} (hK : Back l R p e below s args y 3 W9 Pre Post)
    {g : JFrame} (hg : g.method = m) (hsize : g.locals.size = c.maxLocals) {argsL rest : List Value} (hlen : ∀ sig, parseMethodDescriptor y.desc = some sig → argsL.length = sig.parameters.length)
    (hstack : g.stack = argsL.reverse ++ rest) (hW : 2 * g.monitorRoom + (rest.map fun v => v.category).sum ≤ W9) (hdg : decode c.code g.pc = .ok (.invokestatic index, 3))
    (hpre : ∀ vm₁, s.WarmedH vm₁ → Pre ⟨T.setVm vm₁, locs, cells, slots⟩ argsL.toArray) :
    ∃ (v : Option Value) (vm₁ : Vm) (B : Pt), s.WarmedH vm₁ ∧ Stand p l e R s m args below meth c B.U B.locs B.cells B.slots ∧ Post ⟨T.setVm vm₁, locs, cells, slots⟩ argsL.toArray v B ∧
      ∀ target, Steps p.tables e below (B.U.setTop { g with pc := g.pc + 3, stack := v.toList ++ rest }) target → Steps p.tables e below (T.setTop g) target := by
  obtain ⟨mk, methM, cM, hnamed, hmethM, -, -, -, -, -, -, hsigM⟩ := Cond.codeWith_spec hcode
  have hstatic : methM.isStatic = true := Cond.static_spec hnamed hmethM hstat
  obtain ⟨kP, hkP, -⟩ := className_of_methodNamed hnamed
  have hinitP : kP.init = .initialized := Cond.initialized_spec (findClass_of_methodNamed hnamed) hkP hinit
  obtain ⟨vm₁, X₁, hstep₁⟩ := X.invokestatic hexec hown hlink hnamed hmethM hstatic hkP hinitP hy (g := g) hg (argsL := argsL) (rest := rest) (hlen _ hsigM) hstack hdg
  obtain ⟨v, B, X', hpost, hsteps⟩ := hK m meth c ⟨T.setVm vm₁, locs, cells, slots⟩ { g with stack := rest } (.invokestatic index) mk argsL.toArray X₁ hg hsize hdg hW (X₁.named hnamed) (hpre vm₁ X₁.warmed)
  exact ⟨v, vm₁, B, X₁.warmed, X', hpost, fun target h => hstep₁ _ fun acts => by rw [doInvoke_state]; exact hsteps.trans h⟩
theorem vx_runSW {y : MethodName} {bytes cc : ByteArray} {maxL nL mc ms n index : Nat} {ret : Option FieldType} {hh : List (Nat × Nat × Nat × Nat)} {ws : List Cond} {rm : Room} {Pc : Array Value → State → Prop} {Qc : Array Value → State → Outcome → State → Prop} {free : Addr → Prop} {Ts : List Cond} {own : String} {As rest : List Value} {g : JFrame}
    (S : CallFix p m c cc nL s args Ts own) (hM : Met l y ws rm Pc Qc mc ms free) (cw : vx_CSW R s args own index y bytes maxL ret hh ws rm mc ms n) (hp : PreS s H Pc As)
    (hg : g.method = m) (hn : As.length = n) (hsize : g.locals.size = nL) (hstack : g.stack = As.reverse ++ rest) (hW : 2 * g.monitorRoom + (rest.map fun v => v.category).sum ≤ 8) (hdg : decode cc g.pc = .ok (.invokestatic index, 3)) (hf : cells + mc ≤ R.cells ∧ slots + ms ≤ R.slots) :
    va_Run p l e R s m args below meth c H locs cells slots mc ms g rest (Qc As.toArray) (free) := by
  obtain ⟨⟨hrc, hrs, hfr, hlo, hws, hcw⟩, hcode, hini, hy, hlen, hl, hstt⟩ := cw
  have hK : Back l R p e below s args y 3 8 (PreOf R mc ms Pc) (PostOf Qc mc ms free) := va_backW (hh := hh) (bytes := bytes) (maxL := maxL) (ret := ret) hM hp.1 hrc hrs hfr hlo hws hcw (fun a' U hW => word_at hW (Or.inl (by first | rfl | simp [Cond.onTables, Cond.keeps, Cond.steady])) hini)
  obtain ⟨hx, hb, hml, ho, -⟩ := S
  intro T hT X
  obtain ⟨v, vm₁, ⟨U', l2, c2, s2⟩, hW₁, X', ⟨g', mk, t, L, e1, e2, hq, h1, hL, h2, h3⟩, st⟩ := vx_callSW X hx (hh := hh) (bytes := bytes) (maxL := maxL) (ret := ret) ho hl hstt hini hcode hy hK hg (hsize.trans hml.symm) (argsL := As) (rest := rest) (fun sig h => hn.trans (hlen sig h)) hstack hW (by rw [hb]; exact hdg)
    (fun vm₁ hW₁ => ⟨hf.1, hf.2, hp.2 (T.setVm vm₁) hT hW₁⟩)
  dsimp only [Pt.U, Pt.locs, Pt.cells, Pt.slots] at X' e1 e2 h1 h2 h3 st
  subst h1; subst h2; subst h3
  exact ⟨v, (T.setVm vm₁).calling g' mk As.toArray, t, U', L, hT, X', hL, e1, e2, hq, st⟩
/-- not caught here, past rows that name other classes: it goes on to the caller -/
theorem vx_outP {p : Program} {l : Launch} {e : Env} {R : Room} {s : State} {m : MethodId} {args : Array Value} {below : List Frame} {meth : Method} {c : Code} {H : Heap} {locs : List Loc} {cells slots : Nat} {free : Addr → Prop} {ls : Array Slot} {rest : List Value} {Qc : Array Value → State → Outcome → State → Prop} {XC : String → State → State → Prop}
    {pc : Nat} {own E : String} {ce : Cell} {q : Addr} {mc ms : Nat} (hown : s.vm.findClass own = some m.cls) (hlocks : meth.locks = false)
    (hpass : ∀ z ∈ c.exceptionTable.toList, covers z pc = false ∨ (z.catchType ≠ 0 ∧ ∃ nm : String, (Cond.classLink own z.catchType nm).before args s = true ∧ va_Nc E nm s)) (hcell : H[q]? = some ce) (hv : ce.vm = .none) (hcl : s.vm.findClass E = some ce.cls)
    (hx : ∀ t : State, t.heap = H → s.vm.Alike t.vm → XC E s t) (hf : ∀ z ∈ locs, free z.base) (hc : cells ≤ mc) (hs : slots ≤ ms) :
    vx_W p l e R s m args below meth c H locs cells slots (vx_MQ below Qc XC args s mc ms free) (F0 m pc ls rest) q := by
  intro T hT X
  have hpl : e.platform.magicAccessors = ({} : Platform).magicAccessors := by rw [X.admits.platform]
  obtain ⟨vm', hW', X', st⟩ := X.outThrough hlocks q (g := F0 m pc ls rest) rfl rfl rfl (cell := ce) (by rw [hT]; exact hcell) (by rw [hv]; rfl)
    (by obtain ⟨k9, h9, -⟩ := Vm.findClass_spec hcl; exact ⟨k9, h9⟩) (fun z hz => by
      rcases hpass z hz with h | ⟨hz0, nm, hl1, hn1⟩
      · exact Or.inl h
      · obtain ⟨c6, hc6, hcl6⟩ := Cond.classLink_spec hown hl1 e.platform hpl
        obtain ⟨a8, b8, h1, h2, h3⟩ := hn1
        cases Option.some.inj (h1.symm.trans hcl)
        cases Option.some.inj (h2.symm.trans hc6)
        exact Or.inr ⟨hz0, _, hcl6, h3⟩)
  obtain ⟨g₀, hfr⟩ := X'.frames_eq
  have hcell9 : ((T.setVm vm').setFrames (.throwing q :: below)).heap[q]? = some ce := by
    show T.heap[q]? = some ce
    rw [hT]; exact hcell
  have hend : Ended ((T.setVm vm').setFrames (.throwing q :: below)) below (.threw q) := State.frames_setFrames _ (State.cur_lt_of_frames hfr)
  refine ⟨(T.setVm vm').setFrames (.throwing q :: below), ?_, .threw q, X'.here.running, hend, Or.inr ⟨q, rfl, E, ce, locs, hx _ hT (X'.ends _).1.alike, hcell9, hv, hcl, (X'.ends _).1, (X'.ends _).2.mono hc hs, hf⟩⟩
  rw [X.pushThrowing_eq]
  exact st
/-- a thing of a world lies in the heap -/
theorem vx_lt {D : va_G} {cl : List vw_C} {ws : va_W} {H1 : Heap} (h : va_P D cl ws H1) {k : Nat} {q : Nat × va_E} (hk : ws[k]? = some q) : q.1 < H1.size := (h k q hk).lt
end VXS
/-! ===== END ===== -/
/-! ===== BEGIN methods with a table of their own: called by a name, returning or throwing ===== -/
section VXH
/-! vx_backW, vx_callVX, vx_callSX, vx_callVW, vx_runVW, vx_runVX, vx_runSX, vx_ofWH follow the same proofs as their sisters above (Free/Laws.lean, Shelf42/LK1.lean); vx_outP calls Shelf42/NT130.lean (outThrough). -/
section
variable {l : Launch} {R : Room} {p : Program} {e : Env} {below : List Frame} {s : State} {sargs : Array Value} {y : MethodName} {len W9 : Nat}
theorem vx_backW {ws : List Cond} {rm : Room} {Pc : Array Value → State → Prop} {Qc : Array Value → State → Outcome → State → Prop} {XC : String → State → State → Prop} {mc ms : Nat} {free : Addr → Prop} {bytes : ByteArray} {maxL : Nat} {ret : Option FieldType} {hh : List (Nat × Nat × Nat × Nat)}
    (hM : vx_Met l y ws rm Pc Qc XC mc ms free) (hblind : FrameBlind Pc) (hrc : rm.cells = mc) (hrs : rm.slots = ms)
    (hframes : rm.frames + 1 ≤ R.frames) (hlocals : W9 + (maxL + 11) + rm.locals ≤ R.locals)
    (hws : ∀ w ∈ ws, ∀ a' U, s.WarmedH U.vm → w.before a' U = true) (hcode : Cond.codeWith y bytes maxL ret hh ∈ ws) (hinit : ∀ a' U, s.WarmedH U.vm → (Cond.initialized y.cls).before a' U = true) :
    vx_Back l R p e below s sargs y len W9 (PreOf R mc ms Pc) (PostOf Qc mc ms free) (vx_Post XC mc ms free) := by
  intro m meth c A g ig mk a X hg hsize hdg hW hn hp
  have h1 : (headSpec ws rm).pre.before a A.U = true := atoms_intro fun w hw => hws w hw _ _ X.warmed
  have h2 : (Cond.codeWith y bytes maxL ret hh).before a A.U = true := hws _ hcode _ _ X.warmed
  have h3 : (Cond.initialized y.cls).before a A.U = true := hinit _ _ X.warmed
  have h4 : A.cells + (headSpec ws rm).room.cells ≤ R.cells := by rw [show (headSpec ws rm).room.cells = mc from hrc]; exact hp.1
  have h5 : A.slots + (headSpec ws rm).room.slots ≤ R.slots := by rw [show (headSpec ws rm).room.slots = ms from hrs]; exact hp.2.1
  have hPc : Pc a (A.U.calling g mk a) := hblind _ _ _ _ hp.2.2
  obtain ⟨U, Ls, c0, s0⟩ := A
  dsimp only [Pt.U, Pt.locs, Pt.cells, Pt.slots] at h1 h2 h3 h4 h5 X hn hPc ⊢
  obtain ⟨m9, methY, cY, hn9, hmY, hcY, -, hlY, -⟩ := Cond.codeWith_spec h2
  cases Option.some.inj (hn9.symm.trans hn)
  obtain ⟨kY, hkY, -⟩ := className_of_methodNamed hn
  have hinitY : kY.init = .initialized := Cond.initialized_spec (findClass_of_methodNamed hn) hkY h3
  have h : At U g.method c below := by rw [hg]; exact X.here
  have hlocals9 : W9 + (maxL + 11) + (headSpec ws rm).room.locals ≤ R.locals := hlocals
  have happ : (headSpec ws rm).appliesLoose y e.platform (U.calling g mk a) = true :=
    Spec.appliesLoose_calling (g := g) h hdg hn hkY hinitY
      (X.room_calling (g := g) (R' := (headSpec ws rm).room) hsize hmY hcY hframes (by rw [hlY]; omega) h4 h5) h1
  obtain ⟨mid, hmid⟩ := h.above
  have hfr : (U.setTop g).frames = (.java g :: mid) ++ below := by rw [State.frames_setTop' g h.top, hmid]; rfl
  obtain ⟨o, s₂, hsteps, -, hend, hq⟩ := Steps.callFree hM p X.admits X.cas X.clock (acts := []) hfr happ hPc trivial
  have hq' : vx_Q Qc XC mc ms free a (U.calling g mk a) o s₂ := hq
  rw [State.frames_setTop' g h.top] at hend
  obtain ⟨g₀, hg0⟩ := Option.isSome_iff_exists.mp h.top
  obtain ⟨r, hr⟩ := State.topJava?_eq_some.mp hg0
  have hr' : (({ U with heap := s₂.heap, slotsUsed := s₂.slotsUsed } : State).setVm s₂.vm).frames = .java g₀ :: r := hr
  rcases hq' with ⟨hqc, L, hfe, hL⟩ | ⟨q, rfl, E, ce, L, hx, hce, hcv, hcl, hW₂, hsm, hL⟩
  · obtain ⟨⟨v, rfl⟩, hW₂, e2, q2, q3, q4, q5, q6⟩ := id hfe
    have e3 : s₂ = ({ (U.calling g mk a).setFrames s₂.frames with heap := s₂.heap, slotsUsed := s₂.slotsUsed } : State).setVm s₂.vm := by
      have : s₂ = ({ s₂ with vm := (U.calling g mk a).vm } : State).setVm s₂.vm := rfl
      rw [e2] at this
      exact this
    obtain ⟨c₂, i₂, len₂, hc₂, hd₂, hf₂⟩ := hend
    have hW' : U.WarmedH s₂.vm := hW₂
    have hcc : c₂ = c := by
      have h1 : s₂.code? g.method = U.code? g.method := by
        rw [State.code?_eq, State.code?_eq, hW'.alike.method?]
      exact Option.some.inj (hc₂.symm.trans (h1.trans h.code))
    subst hcc
    have hlen : len₂ = len := by rw [hdg] at hd₂; cases hd₂; rfl
    subst hlen
    have hs₂ : s₂ = (({ U with heap := s₂.heap, slotsUsed := s₂.slotsUsed } : State).setVm s₂.vm).setTop { g with pc := g.pc + len₂, stack := v.toList ++ g.stack } := by
      refine e3.trans ?_
      rw [hf₂, State.calling_eq h.top, State.setFrames_setFrames, State.setTop_of_frames _ hr', hr]
      rfl
    have hsame : U.sameButNew ({ U with heap := s₂.heap, slotsUsed := s₂.slotsUsed } : State) L mc ms := by
      refine ⟨?_, q2, q3, q4, q5, q6⟩
      obtain ⟨t, ht, -⟩ := State.frames_cons hr
      show ({ U with heap := s₂.heap, slotsUsed := s₂.slotsUsed } : State) = { U.setFrames U.frames with heap := s₂.heap, slotsUsed := s₂.slotsUsed }
      rw [State.setFrames_self ht]
    subst hg
    refine Or.inl ⟨v, ⟨(({ U with heap := s₂.heap, slotsUsed := s₂.slotsUsed } : State).setVm s₂.vm), Ls ++ L, c0 + mc, s0 + ms⟩,
      ⟨X.admits, X.cas, X.clock, X.frames, X.room, X.hears, X.method, X.code, (X.here.setHeapUsed s₂.heap s₂.slotsUsed).setVm hW'.alike, X.tail, State.WarmedH.trans X.warmed hW', X.limits, X.bytes, X.same.trans (hsame.setVm s.vm)⟩,
      ⟨g, mk, s₂, L, rfl, rfl, hqc, rfl, hL, rfl, rfl⟩, ?_⟩
    show Steps p.tables e below _ ((({ U with heap := s₂.heap, slotsUsed := s₂.slotsUsed } : State).setVm s₂.vm).setTop { g with pc := g.pc + len₂, stack := v.toList ++ g.stack })
    rw [← hs₂]
    exact hsteps
  · obtain ⟨e2, q2, q3, q4, q5, q6⟩ := id hsm
    have e3 : s₂ = ({ (U.calling g mk a).setFrames s₂.frames with heap := s₂.heap, slotsUsed := s₂.slotsUsed } : State).setVm s₂.vm := by
      have : s₂ = ({ s₂ with vm := (U.calling g mk a).vm } : State).setVm s₂.vm := rfl
      rw [e2] at this
      exact this
    have hf₂ : s₂.frames = .throwing q :: .java g :: U.frames.tail := hend
    have hW' : U.WarmedH s₂.vm := hW₂
    have hs₂ : s₂ = ((({ U with heap := s₂.heap, slotsUsed := s₂.slotsUsed } : State).setVm s₂.vm).setTop g).pushFrame (.throwing q) := by
      refine e3.trans ?_
      rw [hf₂, State.calling_eq h.top, State.setFrames_setFrames, State.pushFrame, State.frames_setTop _ hr', State.setTop_of_frames _ hr', State.setFrames_setFrames, hr]
      rfl
    have hsame : U.sameButNew ({ U with heap := s₂.heap, slotsUsed := s₂.slotsUsed } : State) L mc ms := by
      refine ⟨?_, q2, q3, q4, q5, q6⟩
      obtain ⟨t, ht, -⟩ := State.frames_cons hr
      show ({ U with heap := s₂.heap, slotsUsed := s₂.slotsUsed } : State) = { U.setFrames U.frames with heap := s₂.heap, slotsUsed := s₂.slotsUsed }
      rw [State.setFrames_self ht]
    subst hg
    refine Or.inr ⟨q, ⟨(({ U with heap := s₂.heap, slotsUsed := s₂.slotsUsed } : State).setVm s₂.vm), Ls ++ L, c0 + mc, s0 + ms⟩,
      ⟨X.admits, X.cas, X.clock, X.frames, X.room, X.hears, X.method, X.code, (X.here.setHeapUsed s₂.heap s₂.slotsUsed).setVm hW'.alike, X.tail, State.WarmedH.trans X.warmed hW', X.limits, X.bytes, X.same.trans (hsame.setVm s.vm)⟩,
      ⟨g, mk, s₂, L, E, ce, rfl, rfl, hx, hce, hcv, hcl, rfl, hL, rfl, rfl⟩, ?_⟩
    show Steps p.tables e below _ (((({ U with heap := s₂.heap, slotsUsed := s₂.slotsUsed } : State).setVm s₂.vm).setTop g).pushFrame (.throwing q))
    rw [← hs₂]
    exact hsteps
end
variable {p : Program} {l : Launch} {e : Env} {R : Room} {s : State} {m : MethodId} {args : Array Value} {below : List Frame} {meth : Method} {c : Code} {T : State} {H : Heap} {locs : List Loc} {cells slots : Nat}
theorem vx_callVX (X : Stand p l e R s m args below meth c T locs cells slots) (hexec : p.tables.exec = Jvm.exec) {own C : String} {index : Nat} {y : MethodName} {bytes : ByteArray} {maxL : Nat} {ret : Option FieldType} {hh : List (Nat × Nat × Nat × Nat)}
    (hown : s.vm.findClass own = some m.cls) (hlink : (Cond.methodLink own index y).before args s = true) (hinst : (Cond.instanceMethod y).before args s = true) (hsel : (Cond.selects C y y).before args s = true)
    (hcode : (Cond.codeWith y bytes maxL ret hh).before args s = true) (hy : y.cls ≠ "java/lang/invoke/MethodHandle" ∧ y.cls ≠ "java/lang/invoke/VarHandle")
    {W9 : Nat} {Pre : Pt → Array Value → Prop} {Post : Pt → Array Value → Option Value → Pt → Prop} {PostX : Pt → Array Value → Addr → Pt → Prop} (hK : vx_Back l R p e below s args y 3 W9 Pre Post PostX)
    {b : Addr} {cellB : Cell} (hcell : T.heap[b]? = some cellB) (hobj : cellB.vm.isStatics = false) (hcls : s.vm.findClass C = some cellB.cls)
    {g : JFrame} (hg : g.method = m) (hsize : g.locals.size = c.maxLocals) {argsL rest : List Value} (hlen : ∀ sig, parseMethodDescriptor y.desc = some sig → argsL.length = sig.parameters.length)
    (hstack : g.stack = argsL.reverse ++ .ref b :: rest) (hW : 2 * g.monitorRoom + (rest.map fun v => v.category).sum ≤ W9) (hdg : decode c.code g.pc = .ok (.invokevirtual index, 3))
    (hpre : ∀ vm₁, s.WarmedH vm₁ → Pre ⟨T.setVm vm₁, locs, cells, slots⟩ (Value.ref b :: argsL).toArray) :
    (∃ (v : Option Value) (vm₁ : Vm) (B : Pt), s.WarmedH vm₁ ∧ Stand p l e R s m args below meth c B.U B.locs B.cells B.slots ∧ Post ⟨T.setVm vm₁, locs, cells, slots⟩ (Value.ref b :: argsL).toArray v B ∧
      ∀ target, Steps p.tables e below (B.U.setTop { g with pc := g.pc + 3, stack := v.toList ++ rest }) target → Steps p.tables e below (T.setTop g) target) ∨
    (∃ (q : Addr) (vm₁ : Vm) (B : Pt), s.WarmedH vm₁ ∧ Stand p l e R s m args below meth c B.U B.locs B.cells B.slots ∧ PostX ⟨T.setVm vm₁, locs, cells, slots⟩ (Value.ref b :: argsL).toArray q B ∧
      Steps p.tables e below (T.setTop g) ((B.U.setTop { g with stack := rest }).pushFrame (.throwing q))) := by
  obtain ⟨mk, methM, hnamed, hmethM, hstM, habM⟩ := Cond.instanceMethod_spec hinst
  obtain ⟨m8, methM', cM, hn8, hmethM', -, -, -, -, -, -, hsigM⟩ := Cond.codeWith_spec hcode
  cases Option.some.inj (hn8.symm.trans hnamed)
  cases hmethM.symm.trans hmethM'
  obtain ⟨c2, r2, m2, q1, q2, q3, q4, kP, hkP, hkPi⟩ := Cond.selects_spec hsel
  cases hcls.symm.trans q1
  cases (State.methodFound?_of_named hnamed hy).symm.trans q2
  cases hnamed.symm.trans q3
  have hselP : selectMethod e.platform s.vm cellB.cls mk = .method mk := by rw [Launch.admits_selectMethod X.admits]; exact q4
  obtain ⟨vm₁, X₁, hstep₁⟩ := X.invokevirtual hexec hown hlink hnamed hmethM hstM hkP hkPi hy (a := b) (cell := cellB) hcell
    (fun z h => by rw [h] at hobj; cases hobj) hselP hmethM habM hkP hkPi (g := g) hg (argsL := argsL) (rest := rest) (hlen _ hsigM) hstack hdg
  rcases hK m meth c ⟨T.setVm vm₁, locs, cells, slots⟩ { g with stack := rest } (.invokevirtual index) mk (Value.ref b :: argsL).toArray X₁ hg hsize hdg hW (X₁.named hnamed) (hpre vm₁ X₁.warmed) with ⟨v, B, X', hpost, hsteps⟩ | ⟨q, B, X', hpost, hsteps⟩
  · exact Or.inl ⟨v, vm₁, B, X₁.warmed, X', hpost, fun target h => hstep₁ _ fun acts => by rw [doInvoke_state]; exact hsteps.trans h⟩
  · exact Or.inr ⟨q, vm₁, B, X₁.warmed, X', hpost, hstep₁ _ fun acts => by rw [doInvoke_state]; exact hsteps⟩
theorem vx_callSX (X : Stand p l e R s m args below meth c T locs cells slots) (hexec : p.tables.exec = Jvm.exec) {own : String} {index : Nat} {y : MethodName} {bytes : ByteArray} {maxL : Nat} {ret : Option FieldType} {hh : List (Nat × Nat × Nat × Nat)}
    (hown : s.vm.findClass own = some m.cls) (hlink : (Cond.methodLink own index y).before args s = true) (hstat : (Cond.static y).before args s = true) (hinit : (Cond.initialized y.cls).before args s = true)
    (hcode : (Cond.codeWith y bytes maxL ret hh).before args s = true) (hy : y.cls ≠ "java/lang/invoke/MethodHandle" ∧ y.cls ≠ "java/lang/invoke/VarHandle")
    {W9 : Nat} {Pre : Pt → Array Value → Prop} {Post : Pt → Array Value → Option Value → Pt → Prop} {PostX : Pt → Array Value → Addr → Pt → Prop} (hK : vx_Back l R p e below s args y 3 W9 Pre Post PostX)
    {g : JFrame} (hg : g.method = m) (hsize : g.locals.size = c.maxLocals) {argsL rest : List Value} (hlen : ∀ sig, parseMethodDescriptor y.desc = some sig → argsL.length = sig.parameters.length)
    (hstack : g.stack = argsL.reverse ++ rest) (hW : 2 * g.monitorRoom + (rest.map fun v => v.category).sum ≤ W9) (hdg : decode c.code g.pc = .ok (.invokestatic index, 3))
    (hpre : ∀ vm₁, s.WarmedH vm₁ → Pre ⟨T.setVm vm₁, locs, cells, slots⟩ argsL.toArray) :
    (∃ (v : Option Value) (vm₁ : Vm) (B : Pt), s.WarmedH vm₁ ∧ Stand p l e R s m args below meth c B.U B.locs B.cells B.slots ∧ Post ⟨T.setVm vm₁, locs, cells, slots⟩ argsL.toArray v B ∧
      ∀ target, Steps p.tables e below (B.U.setTop { g with pc := g.pc + 3, stack := v.toList ++ rest }) target → Steps p.tables e below (T.setTop g) target) ∨
    (∃ (q : Addr) (vm₁ : Vm) (B : Pt), s.WarmedH vm₁ ∧ Stand p l e R s m args below meth c B.U B.locs B.cells B.slots ∧ PostX ⟨T.setVm vm₁, locs, cells, slots⟩ argsL.toArray q B ∧
      Steps p.tables e below (T.setTop g) ((B.U.setTop { g with stack := rest }).pushFrame (.throwing q))) := by
  obtain ⟨mk, methM, cM, hnamed, hmethM, -, -, -, -, -, -, hsigM⟩ := Cond.codeWith_spec hcode
  have hstatic : methM.isStatic = true := Cond.static_spec hnamed hmethM hstat
  obtain ⟨kP, hkP, -⟩ := className_of_methodNamed hnamed
  have hinitP : kP.init = .initialized := Cond.initialized_spec (findClass_of_methodNamed hnamed) hkP hinit
  obtain ⟨vm₁, X₁, hstep₁⟩ := X.invokestatic hexec hown hlink hnamed hmethM hstatic hkP hinitP hy (g := g) hg (argsL := argsL) (rest := rest) (hlen _ hsigM) hstack hdg
  rcases hK m meth c ⟨T.setVm vm₁, locs, cells, slots⟩ { g with stack := rest } (.invokestatic index) mk argsL.toArray X₁ hg hsize hdg hW (X₁.named hnamed) (hpre vm₁ X₁.warmed) with ⟨v, B, X', hpost, hsteps⟩ | ⟨q, B, X', hpost, hsteps⟩
  · exact Or.inl ⟨v, vm₁, B, X₁.warmed, X', hpost, fun target h => hstep₁ _ fun acts => by rw [doInvoke_state]; exact hsteps.trans h⟩
  · exact Or.inr ⟨q, vm₁, B, X₁.warmed, X', hpost, hstep₁ _ fun acts => by rw [doInvoke_state]; exact hsteps⟩
theorem vx_callVW (X : Stand p l e R s m args below meth c T locs cells slots) (hexec : p.tables.exec = Jvm.exec) {own C : String} {index : Nat} {y : MethodName} {bytes : ByteArray} {maxL : Nat} {ret : Option FieldType} {hh : List (Nat × Nat × Nat × Nat)}
    (hown : s.vm.findClass own = some m.cls) (hlink : (Cond.methodLink own index y).before args s = true) (hinst : (Cond.instanceMethod y).before args s = true) (hsel : (Cond.selects C y y).before args s = true)
    (hcode : (Cond.codeWith y bytes maxL ret hh).before args s = true) (hy : y.cls ≠ "java/lang/invoke/MethodHandle" ∧ y.cls ≠ "java/lang/invoke/VarHandle")
    {W9 : Nat} {Pre : Pt → Array Value → Prop} {Post : Pt → Array Value → Option Value → Pt → Prop} (hK : Back l R p e below s args y 3 W9 Pre Post)
    {b : Addr} {cellB : Cell} (hcell : T.heap[b]? = some cellB) (hobj : cellB.vm.isStatics = false) (hcls : s.vm.findClass C = some cellB.cls)
    {g : JFrame} (hg : g.method = m) (hsize : g.locals.size = c.maxLocals) {argsL rest : List Value} (hlen : ∀ sig, parseMethodDescriptor y.desc = some sig → argsL.length = sig.parameters.length)
    (hstack : g.stack = argsL.reverse ++ .ref b :: rest) (hW : 2 * g.monitorRoom + (rest.map fun v => v.category).sum ≤ W9) (hdg : decode c.code g.pc = .ok (.invokevirtual index, 3))
    (hpre : ∀ vm₁, s.WarmedH vm₁ → Pre ⟨T.setVm vm₁, locs, cells, slots⟩ (Value.ref b :: argsL).toArray) :
    ∃ (v : Option Value) (vm₁ : Vm) (B : Pt), s.WarmedH vm₁ ∧ Stand p l e R s m args below meth c B.U B.locs B.cells B.slots ∧ Post ⟨T.setVm vm₁, locs, cells, slots⟩ (Value.ref b :: argsL).toArray v B ∧
      ∀ target, Steps p.tables e below (B.U.setTop { g with pc := g.pc + 3, stack := v.toList ++ rest }) target → Steps p.tables e below (T.setTop g) target := by
  obtain ⟨mk, methM, hnamed, hmethM, hstM, habM⟩ := Cond.instanceMethod_spec hinst
  obtain ⟨m8, methM', cM, hn8, hmethM', -, -, -, -, -, -, hsigM⟩ := Cond.codeWith_spec hcode
  cases Option.some.inj (hn8.symm.trans hnamed)
  cases hmethM.symm.trans hmethM'
  obtain ⟨c2, r2, m2, q1, q2, q3, q4, kP, hkP, hkPi⟩ := Cond.selects_spec hsel
  cases hcls.symm.trans q1
  cases (State.methodFound?_of_named hnamed hy).symm.trans q2
  cases hnamed.symm.trans q3
  have hselP : selectMethod e.platform s.vm cellB.cls mk = .method mk := by rw [Launch.admits_selectMethod X.admits]; exact q4
  obtain ⟨vm₁, X₁, hstep₁⟩ := X.invokevirtual hexec hown hlink hnamed hmethM hstM hkP hkPi hy (a := b) (cell := cellB) hcell
    (fun z h => by rw [h] at hobj; cases hobj) hselP hmethM habM hkP hkPi (g := g) hg (argsL := argsL) (rest := rest) (hlen _ hsigM) hstack hdg
  obtain ⟨v, B, X', hpost, hsteps⟩ := hK m meth c ⟨T.setVm vm₁, locs, cells, slots⟩ { g with stack := rest } (.invokevirtual index) mk (Value.ref b :: argsL).toArray X₁ hg hsize hdg hW (X₁.named hnamed) (hpre vm₁ X₁.warmed)
  exact ⟨v, vm₁, B, X₁.warmed, X', hpost, fun target h => hstep₁ _ fun acts => by rw [doInvoke_state]; exact hsteps.trans h⟩
abbrev vx_CVW (R : Room) (s : State) (args : Array Value) (own C : String) (index : Nat) (y : MethodName) (bytes : ByteArray) (maxL : Nat) (ret : Option FieldType) (hh : List (Nat × Nat × Nat × Nat)) (ws : List Cond) (rm : Room) (mc ms n : Nat) : Prop :=
  (rm.cells = mc ∧ rm.slots = ms ∧ rm.frames + 1 ≤ R.frames ∧ 8 + (maxL + 11) + rm.locals ≤ R.locals ∧ (∀ w ∈ ws, ∀ (a' : Array Value) (U : State), s.WarmedH U.vm → w.before a' U = true) ∧ Cond.codeWith y bytes maxL ret hh ∈ ws) ∧
  (Cond.codeWith y bytes maxL ret hh).before args s = true ∧ (Cond.initialized y.cls).before args s = true ∧ (y.cls ≠ "java/lang/invoke/MethodHandle" ∧ y.cls ≠ "java/lang/invoke/VarHandle") ∧
  (∀ sig, parseMethodDescriptor y.desc = some sig → n = sig.parameters.length) ∧ (Cond.methodLink own index y).before args s = true ∧ (Cond.instanceMethod y).before args s = true ∧ (Cond.selects C y y).before args s = true
theorem vx_cwVW {own C : String} {index maxL mc ms : Nat} {y : MethodName} {bytes : ByteArray} {ret : Option FieldType} {hh : List (Nat × Nat × Nat × Nat)} {Ts ws ws' : List Cond} {rm : Room} (n : Nat) (ht : ∀ w ∈ Ts, w.before args s = true) (hT : GoodIn Ts (wsV own index C y ws)) (hw : ws = Cond.codeWith y bytes maxL ret hh :: ws') (hrc : rm.cells = mc) (hrs : rm.slots = ms)
    (hd : y.cls = C ∧ y.cls ≠ "java/lang/invoke/MethodHandle" ∧ y.cls ≠ "java/lang/invoke/VarHandle" ∧ (parseMethodDescriptor y.desc).map (fun d => d.parameters.length) = some n) (hR : rm.frames + 1 ≤ R.frames ∧ 8 + (maxL + 11) + rm.locals ≤ R.locals) :
    vx_CVW R s args own C index y bytes maxL ret hh ws rm mc ms n := by
  obtain ⟨hC, hd⟩ := hd
  subst hC
  have ok : ∀ w ∈ wsV own index y.cls y ws, w.before args s = true := fun w h => ht w (hT w h).1
  have hG : GoodIn Ts ws := fun w h => hT w (by unfold wsV; exact List.mem_append_right _ h)
  have hc : Cond.codeWith y bytes maxL ret hh ∈ ws := by rw [hw]; exact List.mem_cons_self
  refine ⟨⟨hrc, hrs, hR.1, hR.2, pay_in ht hG, hc⟩, ht _ (hG _ hc).1, ok _ (by simp [wsV]), ⟨hd.1, hd.2.1⟩, fun sig h => ?_, ok _ (by simp [wsV]), ok _ (by simp [wsV]), ok _ (by simp [wsV])⟩
  have h2 := hd.2.2
  rw [h] at h2
  exact (Option.some.inj h2).symm
theorem vx_runVW {y : MethodName} {bytes cc : ByteArray} {maxL nL mc ms n index : Nat} {ret : Option FieldType} {hh : List (Nat × Nat × Nat × Nat)} {ws : List Cond} {rm : Room} {Pc : Array Value → State → Prop} {Qc : Array Value → State → Outcome → State → Prop} {free : Addr → Prop} {Ts : List Cond} {own C : String} {b : Addr} {As rest : List Value} {g : JFrame}
    (S : CallFix p m c cc nL s args Ts own) (hM : Met l y ws rm Pc Qc mc ms free) (cw : vx_CVW R s args own C index y bytes maxL ret hh ws rm mc ms n) (hp : PreV s H C b Pc As)
    (hg : g.method = m) (hn : As.length = n) (hsize : g.locals.size = nL) (hstack : g.stack = As.reverse ++ .ref b :: rest) (hW : 2 * g.monitorRoom + (rest.map fun v => v.category).sum ≤ 8) (hdg : decode cc g.pc = .ok (.invokevirtual index, 3)) (hf : cells + mc ≤ R.cells ∧ slots + ms ≤ R.slots) :
    va_Run p l e R s m args below meth c H locs cells slots mc ms g rest (Qc (Value.ref b :: As).toArray) free := by
  obtain ⟨⟨hrc, hrs, hfr, hlo, hws, hcw⟩, hcode, hini, hy, hlen, hl, hin, hse⟩ := cw
  have hK : Back l R p e below s args y 3 8 (PreOf R mc ms Pc) (PostOf Qc mc ms free) := va_backW (hh := hh) (bytes := bytes) (maxL := maxL) (ret := ret) hM hp.1 hrc hrs hfr hlo hws hcw (fun a' U hW => word_at hW (Or.inl (by first | rfl | simp [Cond.onTables, Cond.keeps, Cond.steady])) hini)
  obtain ⟨hx, hb, hml, ho, -⟩ := S
  obtain ⟨-, ⟨cellB, hcB, hoB, hclB⟩, hPc⟩ := hp
  intro T hT X
  obtain ⟨v, vm₁, ⟨U', l2, c2, s2⟩, hW₁, X', ⟨g', mk, t, L, e1, e2, hq, h1, hL, h2, h3⟩, st⟩ := vx_callVW X hx (C := C) (hh := hh) (bytes := bytes) (maxL := maxL) (ret := ret) ho hl hin hse hcode hy hK (by rw [hT]; exact hcB) hoB hclB hg (hsize.trans hml.symm) (argsL := As) (rest := rest) (fun sig h => hn.trans (hlen sig h)) hstack hW (by rw [hb]; exact hdg)
    (fun vm₁ hW₁ => ⟨hf.1, hf.2, hPc (T.setVm vm₁) hT hW₁⟩)
  dsimp only [Pt.U, Pt.locs, Pt.cells, Pt.slots] at X' e1 e2 h1 h2 h3 st
  subst h1; subst h2; subst h3
  exact ⟨v, (T.setVm vm₁).calling g' mk (Value.ref b :: As).toArray, t, U', L, hT, X', hL, e1, e2, hq, st⟩
section
variable {y : MethodName} {bytes cc : ByteArray} {maxL nL mc ms n index : Nat} {ret : Option FieldType} {ws : List Cond} {rm : Room} {Pc : Array Value → State → Prop} {Qc : Array Value → State → Outcome → State → Prop} {XC : String → State → State → Prop} {free : Addr → Prop} {Ts : List Cond} {own C : String} {b : Addr} {As rest : List Value} {g : JFrame}
theorem vx_runVX {hh : List (Nat × Nat × Nat × Nat)} (S : CallFix p m c cc nL s args Ts own) (hM : vx_Met l y ws rm Pc Qc XC mc ms free) (cw : vx_CVW R s args own C index y bytes maxL ret hh ws rm mc ms n) (hp : PreV s H C b Pc As)
    (hg : g.method = m) (hn : As.length = n) (hsize : g.locals.size = nL) (hstack : g.stack = As.reverse ++ .ref b :: rest) (hW : 2 * g.monitorRoom + (rest.map fun v => v.category).sum ≤ 8) (hdg : decode cc g.pc = .ok (.invokevirtual index, 3)) (hf : cells + mc ≤ R.cells ∧ slots + ms ≤ R.slots) :
    vx_Run p l e R s m args below meth c H locs cells slots mc ms g rest (Qc (Value.ref b :: As).toArray) XC free := by
  obtain ⟨⟨hrc, hrs, hfr, hlo, hws, hcw⟩, hcode, hini, hy, hlen, hl, hin, hse⟩ := cw
  have hK : vx_Back l R p e below s args y 3 8 (PreOf R mc ms Pc) (PostOf Qc mc ms free) (vx_Post XC mc ms free) := vx_backW (hh := hh) (bytes := bytes) (maxL := maxL) (ret := ret) hM hp.1 hrc hrs hfr hlo hws hcw (fun a' U hW => word_at hW (Or.inl (by first | rfl | simp [Cond.onTables, Cond.keeps, Cond.steady])) hini)
  obtain ⟨hx, hb, hml, ho, -⟩ := S
  obtain ⟨-, ⟨cellB, hcB, hoB, hclB⟩, hPc⟩ := hp
  intro T hT X
  rcases vx_callVX X hx (C := C) (hh := hh) (bytes := bytes) (maxL := maxL) (ret := ret) ho hl hin hse hcode hy hK (by rw [hT]; exact hcB) hoB hclB hg (hsize.trans hml.symm) (argsL := As) (rest := rest) (fun sig h => hn.trans (hlen sig h)) hstack hW (by rw [hb]; exact hdg)
    (fun vm₁ hW₁ => ⟨hf.1, hf.2, hPc (T.setVm vm₁) hT hW₁⟩) with ⟨v, vm₁, ⟨U', l2, c2, s2⟩, hW₁, X', ⟨g', mk, t, L, e1, e2, hq, h1, hL, h2, h3⟩, st⟩ | ⟨q, vm₁, ⟨U', l2, c2, s2⟩, hW₁, X', ⟨g', mk, t, L, E, ce, e1, e2, hq, hce, hcv, hcl, h1, hL, h2, h3⟩, st⟩
  · dsimp only [Pt.U, Pt.locs, Pt.cells, Pt.slots] at X' e1 e2 h1 h2 h3 st
    subst h1; subst h2; subst h3
    exact Or.inl ⟨v, (T.setVm vm₁).calling g' mk (Value.ref b :: As).toArray, t, U', L, hT, X', hL, e1, e2, hq, st⟩
  · dsimp only [Pt.U, Pt.locs, Pt.cells, Pt.slots] at X' e1 e2 h1 h2 h3 st hcl
    subst h1; subst h2; subst h3
    exact Or.inr ⟨q, (T.setVm vm₁).calling g' mk (Value.ref b :: As).toArray, t, U', L, E, ce, hT, X', hL, e1, e2, hq, hce, hcv, vx_cls hW₁ hcl, st⟩
theorem vx_runSX {hh : List (Nat × Nat × Nat × Nat)} (S : CallFix p m c cc nL s args Ts own) (hM : vx_Met l y ws rm Pc Qc XC mc ms free) (cw : vx_CSW R s args own index y bytes maxL ret hh ws rm mc ms n) (hp : PreS s H Pc As)
    (hg : g.method = m) (hn : As.length = n) (hsize : g.locals.size = nL) (hstack : g.stack = As.reverse ++ rest) (hW : 2 * g.monitorRoom + (rest.map fun v => v.category).sum ≤ 8) (hdg : decode cc g.pc = .ok (.invokestatic index, 3)) (hf : cells + mc ≤ R.cells ∧ slots + ms ≤ R.slots) :
    vx_Run p l e R s m args below meth c H locs cells slots mc ms g rest (Qc As.toArray) XC free := by
  obtain ⟨⟨hrc, hrs, hfr, hlo, hws, hcw⟩, hcode, hini, hy, hlen, hl, hstt⟩ := cw
  have hK : vx_Back l R p e below s args y 3 8 (PreOf R mc ms Pc) (PostOf Qc mc ms free) (vx_Post XC mc ms free) := vx_backW (hh := hh) (bytes := bytes) (maxL := maxL) (ret := ret) hM hp.1 hrc hrs hfr hlo hws hcw (fun a' U hW => word_at hW (Or.inl (by first | rfl | simp [Cond.onTables, Cond.keeps, Cond.steady])) hini)
  obtain ⟨hx, hb, hml, ho, -⟩ := S
  intro T hT X
  rcases vx_callSX X hx (hh := hh) (bytes := bytes) (maxL := maxL) (ret := ret) ho hl hstt hini hcode hy hK hg (hsize.trans hml.symm) (argsL := As) (rest := rest) (fun sig h => hn.trans (hlen sig h)) hstack hW (by rw [hb]; exact hdg)
    (fun vm₁ hW₁ => ⟨hf.1, hf.2, hp.2 (T.setVm vm₁) hT hW₁⟩) with ⟨v, vm₁, ⟨U', l2, c2, s2⟩, hW₁, X', ⟨g', mk, t, L, e1, e2, hq, h1, hL, h2, h3⟩, st⟩ | ⟨q, vm₁, ⟨U', l2, c2, s2⟩, hW₁, X', ⟨g', mk, t, L, E, ce, e1, e2, hq, hce, hcv, hcl, h1, hL, h2, h3⟩, st⟩
  · dsimp only [Pt.U, Pt.locs, Pt.cells, Pt.slots] at X' e1 e2 h1 h2 h3 st
    subst h1; subst h2; subst h3
    exact Or.inl ⟨v, (T.setVm vm₁).calling g' mk As.toArray, t, U', L, hT, X', hL, e1, e2, hq, st⟩
  · dsimp only [Pt.U, Pt.locs, Pt.cells, Pt.slots] at X' e1 e2 h1 h2 h3 st hcl
    subst h1; subst h2; subst h3
    exact Or.inr ⟨q, (T.setVm vm₁).calling g' mk As.toArray, t, U', L, E, ce, hT, X', hL, e1, e2, hq, hce, hcv, vx_cls hW₁ hcl, st⟩
end
end VXH
theorem vx_ofWH {l : Launch} {y : MethodName} {ws ws' : List Cond} {rm : Room} {Pc : Array Value → State → Prop} {Qc : Array Value → State → Outcome → State → Prop} {XC : String → State → State → Prop} {mc ms : Nat} {free : Addr → Prop} {cc : ByteArray} {maxL : Nat} {ret : Option FieldType} {hh : List (Nat × Nat × Nat × Nat)}
    (hy : plainName y.cls = true) (hw : ws = Cond.codeWith y cc maxL ret hh :: ws')
    (body : ∀ p e s m args below meth c s₁, BodyLoose p l y (headSpec ws rm) cc maxL ret e s m args below meth c s₁ → c.maxLocals = maxL → Pc args s →
      W p l e (headSpec ws rm).room s m args below meth c s.heap [] 0 0 (vx_MQ below Qc XC args s mc ms free) (entryFrame m args maxL)) : vx_Met l y ws rm Pc Qc XC mc ms free := by
  refine MetFree.of_bodyS (code := cc) (maxLocals := maxL) (ret := ret) hy ?_ ?_
  · intro args s m h hn
    obtain ⟨m9, meth, c, hn9, h1, h2, h3, h4, -, h5, h6, -⟩ := Cond.codeWith_spec (atoms_spec (ws := ws) h _ (by rw [hw]; exact List.mem_cons_self))
    cases hn.symm.trans hn9
    exact ⟨meth, c, h1, h2, h3, h4, h5, h6⟩
  · intro p e s m args below meth c s₁ B hml hP _
    have hh0 : s₁.heap = s.heap := by rw [B.state]; rfl
    obtain ⟨t, a1, o, b1, b2, b3⟩ := body p e s m args below meth c s₁ B hml hP s₁ hh0 (Stand.of_body B)
    exact ⟨t, o, a1, b1, b2, b3⟩
/-! ===== END ===== -/
end
section
/-! Names: of things, fields, methods; the words of the tables; by a text program. -/
def RX0 : String := "LineageTables"
def RX1 : String := "LineageTablesModel"
def RL : String := "LineageTablesLaw"
def RJ7 : String := "java/util/Arrays"
def TX0 : u_T := fun k => match k with
  | 0 => ("LineageTables", "nodeCount", "I", false)
  | 1 => ("LineageTables", "times", "[I", true)
  | 2 => ("LineageTables", "samples", "[Z", true)
  | 3 => ("LineageTables", "parents", "[I", true)
  | 4 => ("LineageTables", "siteCount", "I", false)
  | 5 => ("LineageTables", "sitePlaces", "[I", true)
  | 6 => ("LineageTables", "ancestrals", "[I", true)
  | 7 => ("LineageTables", "mutations", "[I", true)
  | 8 => ("LineageTables", "newNumbers", "[I", true)
  | 9 => ("LineageTables", "carried", "[I", true)
  | 10 => ("LineageTables", "mattering", "[I", true)
  | 11 => ("LineageTables", "tally", "[I", true)
  | _ => ("LineageTables", "row", "[I", true)
def tyX0 : Nat → FieldType := fun k => match k with
  | 0 => .int
  | 1 => .array .int
  | 2 => .array .boolean
  | 3 => .array .int
  | 4 => .int
  | 5 => .array .int
  | 6 => .array .int
  | 7 => .array .int
  | 8 => .array .int
  | 9 => .array .int
  | 10 => .array .int
  | 11 => .array .int
  | _ => .array .int
theorem nmX0 : ∀ a, a < 13 → ∀ b, b < 13 → a ≠ b → (TX0 a).2.1 ≠ (TX0 b).2.1 := by decide +kernel
theorem tyX0_ok : ∀ k, k < 13 → parseFieldDescriptor (TX0 k).2.2.1 = some (tyX0 k) := by decide +kernel
def TX1 : u_T := fun k => match k with
  | 0 => ("LineageTablesModel", "fault", "I", false)
  | 1 => ("LineageTablesModel", "nodes", "I", false)
  | 2 => ("LineageTablesModel", "time", "[I", true)
  | 3 => ("LineageTablesModel", "sample", "[Z", true)
  | 4 => ("LineageTablesModel", "parent", "[I", true)
  | 5 => ("LineageTablesModel", "sites", "I", false)
  | 6 => ("LineageTablesModel", "placeOf", "[I", true)
  | 7 => ("LineageTablesModel", "ancestral", "[I", true)
  | 8 => ("LineageTablesModel", "mutation", "[I", true)
  | 9 => ("LineageTablesModel", "became", "[I", true)
  | 10 => ("LineageTablesModel", "nextParent", "[I", true)
  | 11 => ("LineageTablesModel", "nextMutation", "[I", true)
  | 12 => ("LineageTablesModel", "foundLeft", "I", false)
  | 13 => ("LineageTablesModel", "foundRight", "I", false)
  | 14 => ("LineageTablesModel", "foundParent", "I", false)
  | _ => ("LineageTablesModel", "foundChild", "I", false)
def tyX1 : Nat → FieldType := fun k => match k with
  | 0 => .int
  | 1 => .int
  | 2 => .array .int
  | 3 => .array .boolean
  | 4 => .array .int
  | 5 => .int
  | 6 => .array .int
  | 7 => .array .int
  | 8 => .array .int
  | 9 => .array .int
  | 10 => .array .int
  | 11 => .array .int
  | 12 => .int
  | 13 => .int
  | 14 => .int
  | _ => .int
theorem nmX1 : ∀ a, a < 16 → ∀ b, b < 16 → a ≠ b → (TX1 a).2.1 ≠ (TX1 b).2.1 := by decide +kernel
theorem tyX1_ok : ∀ k, k < 16 → parseFieldDescriptor (TX1 k).2.2.1 = some (tyX1 k) := by decide +kernel
abbrev vwCl : List vw_C := [(RX0, TX0, 13), (RX1, TX1, 16)]
/-- the good words of the tables: every method stands on them all -/
def jW0 : List Cond := lw_tbl.filter goodWord
theorem jW0_in {w : Cond} (h : w ∈ jW0) : w ∈ lw_tbl := (List.mem_filter.mp h).1
theorem jW0_good {c0 w : Cond} (h : w ∈ jW0) : w ∈ c0 :: jW0 ∧ ((w.onTables && w.keeps) = true ∨ ∃ ty, w = .arrayClass ty) := ⟨List.mem_cons_of_mem _ h, good_of_word (List.mem_filter.mp h).2⟩
theorem jGV {c0 : Cond} {own C : String} {index n : Nat} {y : MethodName} {cc : ByteArray} {ret : Option FieldType} (h1 : Cond.methodLink own index y ∈ jW0) (h2 : Cond.instanceMethod y ∈ jW0) (h3 : Cond.selects C y y ∈ jW0) (h4 : Cond.initialized C ∈ jW0) (h5 : Cond.code y cc n ret ∈ jW0) : GoodIn (c0 :: jW0) (wsV own index C y (Cond.code y cc n ret :: jW0)) := by
  intro w hw
  simp only [wsV, List.mem_append, List.mem_cons, List.not_mem_nil, or_false] at hw
  rcases hw with (rfl | rfl | rfl | rfl) | rfl | hw
  · exact jW0_good h1
  · exact jW0_good h2
  · exact jW0_good h3
  · exact jW0_good h4
  · exact jW0_good h5
  · exact jW0_good hw
theorem jGS {c0 : Cond} {own : String} {index n : Nat} {y : MethodName} {cc : ByteArray} {ret : Option FieldType} (h1 : Cond.methodLink own index y ∈ jW0) (h2 : Cond.static y ∈ jW0) (h4 : Cond.initialized y.cls ∈ jW0) (h5 : Cond.code y cc n ret ∈ jW0) : GoodIn (c0 :: jW0) (va_wsS own index y (Cond.code y cc n ret :: jW0)) := by
  intro w hw
  simp only [va_wsS, List.mem_append, List.mem_cons, List.not_mem_nil, or_false] at hw
  rcases hw with (rfl | rfl | rfl) | rfl | hw
  · exact jW0_good h1
  · exact jW0_good h2
  · exact jW0_good h4
  · exact jW0_good h5
  · exact jW0_good hw
theorem jGI {c0 : Cond} {n : Nat} {y : MethodName} {cc : ByteArray} {ret : Option FieldType} (h5 : Cond.code y cc n ret ∈ jW0) : GoodIn (c0 :: jW0) (Cond.code y cc n ret :: jW0) := by
  intro w hw
  rcases List.mem_cons.mp hw with rfl | hw
  · exact jW0_good h5
  · exact jW0_good hw
theorem jGW {c0 : Cond} {own : String} {index n : Nat} {y : MethodName} {cc : ByteArray} {ret : Option FieldType} {hh : List (Nat × Nat × Nat × Nat)} (h1 : Cond.methodLink own index y ∈ jW0) (h2 : Cond.static y ∈ jW0) (h4 : Cond.initialized y.cls ∈ jW0) (h5 : Cond.codeWith y cc n ret hh ∈ jW0) : GoodIn (c0 :: jW0) (va_wsS own index y (Cond.codeWith y cc n ret hh :: jW0)) := by
  intro w hw
  simp only [va_wsS, List.mem_append, List.mem_cons, List.not_mem_nil, or_false] at hw
  rcases hw with (rfl | rfl | rfl) | rfl | hw
  · exact jW0_good h1
  · exact jW0_good h2
  · exact jW0_good h4
  · exact jW0_good h5
  · exact jW0_good hw
abbrev cX0_init : ByteArray := prog_1_method_1_code
def yX0_init : MethodName := ⟨RX0, "<init>", "()V"⟩
abbrev cX0_count : ByteArray := prog_1_method_7_code
def yX0_count : MethodName := ⟨RX0, "count", "(I)I"⟩
abbrev cX0_countSamples : ByteArray := prog_1_method_28_code
def yX0_countSamples : MethodName := ⟨RX0, "countSamples", "()I"⟩
abbrev cX0_countEdges : ByteArray := prog_1_method_30_code
def yX0_countEdges : MethodName := ⟨RX0, "countEdges", "()I"⟩
abbrev cX0_startsEdge : ByteArray := prog_1_method_31_code
def yX0_startsEdge : MethodName := ⟨RX0, "startsEdge", "(II)Z"⟩
abbrev cX0_parentAt : ByteArray := prog_1_method_24_code
def yX0_parentAt : MethodName := ⟨RX0, "parentAt", "(II)I"⟩
abbrev cX0_countMutations : ByteArray := prog_1_method_29_code
def yX0_countMutations : MethodName := ⟨RX0, "countMutations", "()I"⟩
abbrev cX0_trees : ByteArray := prog_1_method_12_code
def yX0_trees : MethodName := ⟨RX0, "trees", "()I"⟩
abbrev cX0_startsRun : ByteArray := prog_1_method_37_code
def yX0_startsRun : MethodName := ⟨RX0, "startsRun", "(I)Z"⟩
abbrev cX0_differing : ByteArray := prog_1_method_15_code
def yX0_differing : MethodName := ⟨RX0, "differing", "()I"⟩
abbrev cX0_tallyLetters : ByteArray := prog_1_method_39_code
def yX0_tallyLetters : MethodName := ⟨RX0, "tallyLetters", "(I)V"⟩
abbrev cX0_letterAt : ByteArray := prog_1_method_38_code
def yX0_letterAt : MethodName := ⟨RX0, "letterAt", "(II)I"⟩
abbrev cX0_spectrum : ByteArray := prog_1_method_16_code
def yX0_spectrum : MethodName := ⟨RX0, "spectrum", "(I)I"⟩
abbrev cX0_area : ByteArray := prog_1_method_17_code
def yX0_area : MethodName := ⟨RX0, "area", "()I"⟩
abbrev cX0_countCarried : ByteArray := prog_1_method_40_code
def yX0_countCarried : MethodName := ⟨RX0, "countCarried", "(I)V"⟩
abbrev cX0_simplify : ByteArray := prog_1_method_18_code
def yX0_simplify : MethodName := ⟨RX0, "simplify", "()I"⟩
abbrev cX0_findMattering : ByteArray := prog_1_method_41_code
def yX0_findMattering : MethodName := ⟨RX0, "findMattering", "(I)I"⟩
abbrev cX0_countLiveChildren : ByteArray := prog_1_method_42_code
def yX0_countLiveChildren : MethodName := ⟨RX0, "countLiveChildren", "(II)I"⟩
abbrev cX0_renumber : ByteArray := prog_1_method_44_code
def yX0_renumber : MethodName := ⟨RX0, "renumber", "(I)I"⟩
abbrev cX0_moveMutations : ByteArray := prog_1_method_45_code
def yX0_moveMutations : MethodName := ⟨RX0, "moveMutations", "(I)V"⟩
abbrev cX0_matters : ByteArray := prog_1_method_43_code
def yX0_matters : MethodName := ⟨RX0, "matters", "(II)Z"⟩
abbrev cX0_mutationComingTo : ByteArray := prog_1_method_46_code
def yX0_mutationComingTo : MethodName := ⟨RX0, "mutationComingTo", "(II)I"⟩
abbrev cX0_moveParents : ByteArray := prog_1_method_47_code
def yX0_moveParents : MethodName := ⟨RX0, "moveParents", "(I)V"⟩
abbrev cX0_nearestMatteringAbove : ByteArray := prog_1_method_48_code
def yX0_nearestMatteringAbove : MethodName := ⟨RX0, "nearestMatteringAbove", "(II)I"⟩
abbrev cX0_moveNodes : ByteArray := prog_1_method_49_code
def yX0_moveNodes : MethodName := ⟨RX0, "moveNodes", "()V"⟩
abbrev cX0_became : ByteArray := prog_1_method_19_code
def yX0_became : MethodName := ⟨RX0, "became", "(I)I"⟩
abbrev cL_node : ByteArray := method_3_code
def yL_node : MethodName := ⟨RL, "node", "(LLineageTables;IZ[J)I"⟩
abbrev cX0_node : ByteArray := prog_1_method_2_code
def yX0_node : MethodName := ⟨RX0, "node", "(IZ)I"⟩
abbrev cL_join : ByteArray := method_4_code
def yL_join : MethodName := ⟨RL, "join", "(LLineageTables;IIII[J)I"⟩
abbrev cX0_join : ByteArray := prog_1_method_3_code
def yX0_join : MethodName := ⟨RX0, "join", "(IIII)I"⟩
abbrev cX0_isRun : ByteArray := prog_1_method_23_code
def yX0_isRun : MethodName := ⟨RX0, "isRun", "(II)Z"⟩
abbrev cX0_isNode : ByteArray := prog_1_method_20_code
def yX0_isNode : MethodName := ⟨RX0, "isNode", "(I)Z"⟩
abbrev cX0_hasParentBeside : ByteArray := prog_1_method_25_code
def yX0_hasParentBeside : MethodName := ⟨RX0, "hasParentBeside", "(IIII)Z"⟩
abbrev cX0_setParents : ByteArray := prog_1_method_26_code
def yX0_setParents : MethodName := ⟨RX0, "setParents", "(IIII)I"⟩
abbrev cL_part : ByteArray := method_5_code
def yL_part : MethodName := ⟨RL, "part", "(LLineageTables;III[J)I"⟩
abbrev cX0_part : ByteArray := prog_1_method_4_code
def yX0_part : MethodName := ⟨RX0, "part", "(III)I"⟩
abbrev cL_site : ByteArray := method_6_code
def yL_site : MethodName := ⟨RL, "site", "(LLineageTables;II[J)I"⟩
abbrev cX0_site : ByteArray := prog_1_method_5_code
def yX0_site : MethodName := ⟨RX0, "site", "(II)I"⟩
abbrev cX0_isPlace : ByteArray := prog_1_method_22_code
def yX0_isPlace : MethodName := ⟨RX0, "isPlace", "(I)Z"⟩
abbrev cX0_hasSite : ByteArray := prog_1_method_27_code
def yX0_hasSite : MethodName := ⟨RX0, "hasSite", "(I)Z"⟩
abbrev cL_mutate : ByteArray := method_7_code
def yL_mutate : MethodName := ⟨RL, "mutate", "(LLineageTables;III[J)I"⟩
abbrev cX0_mutate : ByteArray := prog_1_method_6_code
def yX0_mutate : MethodName := ⟨RX0, "mutate", "(III)I"⟩
abbrev cX0_isSite : ByteArray := prog_1_method_21_code
def yX0_isSite : MethodName := ⟨RX0, "isSite", "(I)Z"⟩
abbrev cL_time : ByteArray := method_8_code
def yL_time : MethodName := ⟨RL, "time", "(LLineageTables;I[J)I"⟩
abbrev cX0_time : ByteArray := prog_1_method_8_code
def yX0_time : MethodName := ⟨RX0, "time", "(I)I"⟩
abbrev cL_edge : ByteArray := method_9_code
def yL_edge : MethodName := ⟨RL, "edge", "(LLineageTables;II[J)I"⟩
abbrev cX0_edge : ByteArray := prog_1_method_9_code
def yX0_edge : MethodName := ⟨RX0, "edge", "(II)I"⟩
abbrev cX0_findEdge : ByteArray := prog_1_method_33_code
def yX0_findEdge : MethodName := ⟨RX0, "findEdge", "(I)I"⟩
abbrev cX0_nextByTime : ByteArray := prog_1_method_34_code
def yX0_nextByTime : MethodName := ⟨RX0, "nextByTime", "(I)I"⟩
abbrev cX0_isEarlier : ByteArray := prog_1_method_35_code
def yX0_isEarlier : MethodName := ⟨RX0, "isEarlier", "(II)Z"⟩
abbrev cX0_edgeEnd : ByteArray := prog_1_method_32_code
def yX0_edgeEnd : MethodName := ⟨RX0, "edgeEnd", "(II)I"⟩
abbrev cL_parent : ByteArray := method_10_code
def yL_parent : MethodName := ⟨RL, "parent", "(LLineageTables;II[J)I"⟩
abbrev cX0_parent : ByteArray := prog_1_method_10_code
def yX0_parent : MethodName := ⟨RX0, "parent", "(II)I"⟩
abbrev cL_meet : ByteArray := method_11_code
def yL_meet : MethodName := ⟨RL, "meet", "(LLineageTables;III[J)I"⟩
abbrev cX0_meet : ByteArray := prog_1_method_11_code
def yX0_meet : MethodName := ⟨RX0, "meet", "(III)I"⟩
abbrev cX0_isAtOrAbove : ByteArray := prog_1_method_36_code
def yX0_isAtOrAbove : MethodName := ⟨RX0, "isAtOrAbove", "(III)Z"⟩
abbrev cL_cut : ByteArray := method_12_code
def yL_cut : MethodName := ⟨RL, "cut", "(LLineageTables;I[J)I"⟩
abbrev cX0_cut : ByteArray := prog_1_method_13_code
def yX0_cut : MethodName := ⟨RX0, "cut", "(I)I"⟩
abbrev cL_letter : ByteArray := method_13_code
def yL_letter : MethodName := ⟨RL, "letter", "(LLineageTables;II[J)I"⟩
abbrev cX0_letter : ByteArray := prog_1_method_14_code
def yX0_letter : MethodName := ⟨RX0, "letter", "(II)I"⟩
abbrev cX1_init : ByteArray := prog_3_method_1_code
def yX1_init : MethodName := ⟨RX1, "<init>", "()V"⟩
abbrev cX1_thrown : ByteArray := prog_3_method_2_code
def yX1_thrown : MethodName := ⟨RX1, "thrown", "()I"⟩
abbrev cX1_node : ByteArray := prog_3_method_14_code
def yX1_node : MethodName := ⟨RX1, "node", "(IZ)I"⟩
abbrev cX1_refused : ByteArray := prog_3_method_3_code
def yX1_refused : MethodName := ⟨RX1, "refused", "(I)Z"⟩
abbrev cX1_join : ByteArray := prog_3_method_15_code
def yX1_join : MethodName := ⟨RX1, "join", "(IIII)I"⟩
abbrev cX1_isRun : ByteArray := prog_3_method_7_code
def yX1_isRun : MethodName := ⟨RX1, "isRun", "(II)Z"⟩
abbrev cX1_isNode : ByteArray := prog_3_method_4_code
def yX1_isNode : MethodName := ⟨RX1, "isNode", "(I)Z"⟩
abbrev cX1_up : ByteArray := prog_3_method_8_code
def yX1_up : MethodName := ⟨RX1, "up", "(II)I"⟩
abbrev cX1_part : ByteArray := prog_3_method_16_code
def yX1_part : MethodName := ⟨RX1, "part", "(III)I"⟩
abbrev cX1_site : ByteArray := prog_3_method_18_code
def yX1_site : MethodName := ⟨RX1, "site", "(II)I"⟩
abbrev cX1_isPlace : ByteArray := prog_3_method_6_code
def yX1_isPlace : MethodName := ⟨RX1, "isPlace", "(I)Z"⟩
abbrev cX1_isTaken : ByteArray := prog_3_method_17_code
def yX1_isTaken : MethodName := ⟨RX1, "isTaken", "(I)Z"⟩
abbrev cX1_mutate : ByteArray := prog_3_method_19_code
def yX1_mutate : MethodName := ⟨RX1, "mutate", "(III)I"⟩
abbrev cX1_isSite : ByteArray := prog_3_method_5_code
def yX1_isSite : MethodName := ⟨RX1, "isSite", "(I)Z"⟩
abbrev cX1_count : ByteArray := prog_3_method_22_code
def yX1_count : MethodName := ⟨RX1, "count", "(I)I"⟩
abbrev cX1_samples : ByteArray := prog_3_method_11_code
def yX1_samples : MethodName := ⟨RX1, "samples", "()I"⟩
abbrev cX1_find : ByteArray := prog_3_method_21_code
def yX1_find : MethodName := ⟨RX1, "find", "(I)I"⟩
abbrev cX1_begins : ByteArray := prog_3_method_20_code
def yX1_begins : MethodName := ⟨RX1, "begins", "(II)Z"⟩
abbrev cX1_time : ByteArray := prog_3_method_23_code
def yX1_time : MethodName := ⟨RX1, "time", "(I)I"⟩
abbrev cX1_edge : ByteArray := prog_3_method_24_code
def yX1_edge : MethodName := ⟨RX1, "edge", "(II)I"⟩
abbrev cX1_parent : ByteArray := prog_3_method_25_code
def yX1_parent : MethodName := ⟨RX1, "parent", "(II)I"⟩
abbrev cX1_meet : ByteArray := prog_3_method_26_code
def yX1_meet : MethodName := ⟨RX1, "meet", "(III)I"⟩
abbrev cX1_holds : ByteArray := prog_3_method_9_code
def yX1_holds : MethodName := ⟨RX1, "holds", "(III)Z"⟩
abbrev cX1_trees : ByteArray := prog_3_method_28_code
def yX1_trees : MethodName := ⟨RX1, "trees", "()I"⟩
abbrev cX1_differs : ByteArray := prog_3_method_27_code
def yX1_differs : MethodName := ⟨RX1, "differs", "(I)Z"⟩
abbrev cX1_cut : ByteArray := prog_3_method_29_code
def yX1_cut : MethodName := ⟨RX1, "cut", "(I)I"⟩
abbrev cX1_letter : ByteArray := prog_3_method_31_code
def yX1_letter : MethodName := ⟨RX1, "letter", "(II)I"⟩
abbrev cX1_letterAt : ByteArray := prog_3_method_30_code
def yX1_letterAt : MethodName := ⟨RX1, "letterAt", "(II)I"⟩
abbrev cX1_differing : ByteArray := prog_3_method_32_code
def yX1_differing : MethodName := ⟨RX1, "differing", "()I"⟩
abbrev cX1_spectrum : ByteArray := prog_3_method_33_code
def yX1_spectrum : MethodName := ⟨RX1, "spectrum", "(I)I"⟩
abbrev cX1_area : ByteArray := prog_3_method_34_code
def yX1_area : MethodName := ⟨RX1, "area", "()I"⟩
abbrev cX1_under : ByteArray := prog_3_method_10_code
def yX1_under : MethodName := ⟨RX1, "under", "(II)I"⟩
abbrev cX1_simplify : ByteArray := prog_3_method_38_code
def yX1_simplify : MethodName := ⟨RX1, "simplify", "()I"⟩
abbrev cX1_stays : ByteArray := prog_3_method_35_code
def yX1_stays : MethodName := ⟨RX1, "stays", "(I)Z"⟩
abbrev cX1_isFork : ByteArray := prog_3_method_12_code
def yX1_isFork : MethodName := ⟨RX1, "isFork", "(II)Z"⟩
abbrev cX1_matters : ByteArray := prog_3_method_13_code
def yX1_matters : MethodName := ⟨RX1, "matters", "(II)Z"⟩
abbrev cX1_nearest : ByteArray := prog_3_method_36_code
def yX1_nearest : MethodName := ⟨RX1, "nearest", "(II)I"⟩
abbrev cX1_comes : ByteArray := prog_3_method_37_code
def yX1_comes : MethodName := ⟨RX1, "comes", "(II)I"⟩
abbrev cX1_became : ByteArray := prog_3_method_39_code
def yX1_became : MethodName := ⟨RX1, "became", "(I)I"⟩
abbrev cJ7_fill : ByteArray := prog_12_method_103_code
def yJ7_fill : MethodName := ⟨RJ7, "fill", "([II)V"⟩
def wsX0_init : List Cond := Cond.code yX0_init cX0_init 1 none :: jW0
theorem kX0_init_c : Cond.code yX0_init cX0_init 1 none ∈ jW0 := List.mem_filter.mpr ⟨List.mem_of_getElem? (i := 61) (by decide +kernel), by decide +kernel⟩
def wsX0_count : List Cond := Cond.code yX0_count cX0_count 2 (some .int) :: jW0
theorem kX0_count_c : Cond.code yX0_count cX0_count 2 (some .int) ∈ jW0 := List.mem_filter.mpr ⟨List.mem_of_getElem? (i := 113) (by decide +kernel), by decide +kernel⟩
def wsX0_countSamples : List Cond := Cond.code yX0_countSamples cX0_countSamples 3 (some .int) :: jW0
theorem kX0_countSamples_c : Cond.code yX0_countSamples cX0_countSamples 3 (some .int) ∈ jW0 := List.mem_filter.mpr ⟨List.mem_of_getElem? (i := 117) (by decide +kernel), by decide +kernel⟩
def wsX0_countEdges : List Cond := Cond.code yX0_countEdges cX0_countEdges 4 (some .int) :: jW0
theorem kX0_countEdges_c : Cond.code yX0_countEdges cX0_countEdges 4 (some .int) ∈ jW0 := List.mem_filter.mpr ⟨List.mem_of_getElem? (i := 121) (by decide +kernel), by decide +kernel⟩
def wsX0_startsEdge : List Cond := Cond.code yX0_startsEdge cX0_startsEdge 4 (some .boolean) :: jW0
theorem kX0_startsEdge_c : Cond.code yX0_startsEdge cX0_startsEdge 4 (some .boolean) ∈ jW0 := List.mem_filter.mpr ⟨List.mem_of_getElem? (i := 125) (by decide +kernel), by decide +kernel⟩
def wsX0_parentAt : List Cond := Cond.code yX0_parentAt cX0_parentAt 3 (some .int) :: jW0
theorem kX0_parentAt_c : Cond.code yX0_parentAt cX0_parentAt 3 (some .int) ∈ jW0 := List.mem_filter.mpr ⟨List.mem_of_getElem? (i := 129) (by decide +kernel), by decide +kernel⟩
def wsX0_countMutations : List Cond := Cond.code yX0_countMutations cX0_countMutations 3 (some .int) :: jW0
theorem kX0_countMutations_c : Cond.code yX0_countMutations cX0_countMutations 3 (some .int) ∈ jW0 := List.mem_filter.mpr ⟨List.mem_of_getElem? (i := 133) (by decide +kernel), by decide +kernel⟩
def wsX0_trees : List Cond := Cond.code yX0_trees cX0_trees 3 (some .int) :: jW0
theorem kX0_trees_c : Cond.code yX0_trees cX0_trees 3 (some .int) ∈ jW0 := List.mem_filter.mpr ⟨List.mem_of_getElem? (i := 137) (by decide +kernel), by decide +kernel⟩
def wsX0_startsRun : List Cond := Cond.code yX0_startsRun cX0_startsRun 3 (some .boolean) :: jW0
theorem kX0_startsRun_c : Cond.code yX0_startsRun cX0_startsRun 3 (some .boolean) ∈ jW0 := List.mem_filter.mpr ⟨List.mem_of_getElem? (i := 141) (by decide +kernel), by decide +kernel⟩
def wsX0_differing : List Cond := Cond.code yX0_differing cX0_differing 5 (some .int) :: jW0
theorem kX0_differing_c : Cond.code yX0_differing cX0_differing 5 (some .int) ∈ jW0 := List.mem_filter.mpr ⟨List.mem_of_getElem? (i := 145) (by decide +kernel), by decide +kernel⟩
def wsX0_tallyLetters : List Cond := Cond.code yX0_tallyLetters cX0_tallyLetters 3 none :: jW0
theorem kX0_tallyLetters_c : Cond.code yX0_tallyLetters cX0_tallyLetters 3 none ∈ jW0 := List.mem_filter.mpr ⟨List.mem_of_getElem? (i := 149) (by decide +kernel), by decide +kernel⟩
def wsX0_letterAt : List Cond := Cond.code yX0_letterAt cX0_letterAt 6 (some .int) :: jW0
theorem kX0_letterAt_c : Cond.code yX0_letterAt cX0_letterAt 6 (some .int) ∈ jW0 := List.mem_filter.mpr ⟨List.mem_of_getElem? (i := 153) (by decide +kernel), by decide +kernel⟩
def wsX0_spectrum : List Cond := Cond.code yX0_spectrum cX0_spectrum 5 (some .int) :: jW0
theorem kX0_spectrum_c : Cond.code yX0_spectrum cX0_spectrum 5 (some .int) ∈ jW0 := List.mem_filter.mpr ⟨List.mem_of_getElem? (i := 157) (by decide +kernel), by decide +kernel⟩
def wsX0_area : List Cond := Cond.code yX0_area cX0_area 6 (some .int) :: jW0
theorem kX0_area_c : Cond.code yX0_area cX0_area 6 (some .int) ∈ jW0 := List.mem_filter.mpr ⟨List.mem_of_getElem? (i := 161) (by decide +kernel), by decide +kernel⟩
def wsX0_countCarried : List Cond := Cond.code yX0_countCarried cX0_countCarried 5 none :: jW0
theorem kX0_countCarried_c : Cond.code yX0_countCarried cX0_countCarried 5 none ∈ jW0 := List.mem_filter.mpr ⟨List.mem_of_getElem? (i := 165) (by decide +kernel), by decide +kernel⟩
def wsX0_simplify : List Cond := Cond.code yX0_simplify cX0_simplify 4 (some .int) :: jW0
theorem kX0_simplify_c : Cond.code yX0_simplify cX0_simplify 4 (some .int) ∈ jW0 := List.mem_filter.mpr ⟨List.mem_of_getElem? (i := 169) (by decide +kernel), by decide +kernel⟩
def wsX0_findMattering : List Cond := Cond.code yX0_findMattering cX0_findMattering 4 (some .int) :: jW0
theorem kX0_findMattering_c : Cond.code yX0_findMattering cX0_findMattering 4 (some .int) ∈ jW0 := List.mem_filter.mpr ⟨List.mem_of_getElem? (i := 173) (by decide +kernel), by decide +kernel⟩
def wsX0_countLiveChildren : List Cond := Cond.code yX0_countLiveChildren cX0_countLiveChildren 5 (some .int) :: jW0
theorem kX0_countLiveChildren_c : Cond.code yX0_countLiveChildren cX0_countLiveChildren 5 (some .int) ∈ jW0 := List.mem_filter.mpr ⟨List.mem_of_getElem? (i := 177) (by decide +kernel), by decide +kernel⟩
def wsX0_renumber : List Cond := Cond.code yX0_renumber cX0_renumber 4 (some .int) :: jW0
theorem kX0_renumber_c : Cond.code yX0_renumber cX0_renumber 4 (some .int) ∈ jW0 := List.mem_filter.mpr ⟨List.mem_of_getElem? (i := 181) (by decide +kernel), by decide +kernel⟩
def wsX0_moveMutations : List Cond := Cond.code yX0_moveMutations cX0_moveMutations 4 none :: jW0
theorem kX0_moveMutations_c : Cond.code yX0_moveMutations cX0_moveMutations 4 none ∈ jW0 := List.mem_filter.mpr ⟨List.mem_of_getElem? (i := 185) (by decide +kernel), by decide +kernel⟩
def wsX0_matters : List Cond := Cond.code yX0_matters cX0_matters 3 (some .boolean) :: jW0
theorem kX0_matters_c : Cond.code yX0_matters cX0_matters 3 (some .boolean) ∈ jW0 := List.mem_filter.mpr ⟨List.mem_of_getElem? (i := 189) (by decide +kernel), by decide +kernel⟩
def wsX0_mutationComingTo : List Cond := Cond.code yX0_mutationComingTo cX0_mutationComingTo 7 (some .int) :: jW0
theorem kX0_mutationComingTo_c : Cond.code yX0_mutationComingTo cX0_mutationComingTo 7 (some .int) ∈ jW0 := List.mem_filter.mpr ⟨List.mem_of_getElem? (i := 193) (by decide +kernel), by decide +kernel⟩
def wsX0_moveParents : List Cond := Cond.code yX0_moveParents cX0_moveParents 4 none :: jW0
theorem kX0_moveParents_c : Cond.code yX0_moveParents cX0_moveParents 4 none ∈ jW0 := List.mem_filter.mpr ⟨List.mem_of_getElem? (i := 200) (by decide +kernel), by decide +kernel⟩
def wsX0_nearestMatteringAbove : List Cond := Cond.code yX0_nearestMatteringAbove cX0_nearestMatteringAbove 5 (some .int) :: jW0
theorem kX0_nearestMatteringAbove_c : Cond.code yX0_nearestMatteringAbove cX0_nearestMatteringAbove 5 (some .int) ∈ jW0 := List.mem_filter.mpr ⟨List.mem_of_getElem? (i := 204) (by decide +kernel), by decide +kernel⟩
def wsX0_moveNodes : List Cond := Cond.code yX0_moveNodes cX0_moveNodes 3 none :: jW0
theorem kX0_moveNodes_c : Cond.code yX0_moveNodes cX0_moveNodes 3 none ∈ jW0 := List.mem_filter.mpr ⟨List.mem_of_getElem? (i := 208) (by decide +kernel), by decide +kernel⟩
def wsX0_became : List Cond := Cond.code yX0_became cX0_became 2 (some .int) :: jW0
theorem kX0_became_c : Cond.code yX0_became cX0_became 2 (some .int) ∈ jW0 := List.mem_filter.mpr ⟨List.mem_of_getElem? (i := 212) (by decide +kernel), by decide +kernel⟩
def wsL_node : List Cond := Cond.codeWith yL_node cL_node 5 (some .int) [(0, 10, 13, 13), (0, 10, 17, 15)] :: jW0
theorem kL_node_c : Cond.codeWith yL_node cL_node 5 (some .int) [(0, 10, 13, 13), (0, 10, 17, 15)] ∈ jW0 := List.mem_filter.mpr ⟨List.mem_of_getElem? (i := 215) (by decide +kernel), by decide +kernel⟩
def wsX0_node : List Cond := Cond.code yX0_node cX0_node 3 (some .int) :: jW0
theorem kX0_node_c : Cond.code yX0_node cX0_node 3 (some .int) ∈ jW0 := List.mem_filter.mpr ⟨List.mem_of_getElem? (i := 221) (by decide +kernel), by decide +kernel⟩
def wsL_join : List Cond := Cond.codeWith yL_join cL_join 7 (some .int) [(0, 14, 17, 21), (0, 14, 21, 13), (0, 14, 25, 15)] :: jW0
theorem kL_join_c : Cond.codeWith yL_join cL_join 7 (some .int) [(0, 14, 17, 21), (0, 14, 21, 13), (0, 14, 25, 15)] ∈ jW0 := List.mem_filter.mpr ⟨List.mem_of_getElem? (i := 308) (by decide +kernel), by decide +kernel⟩
def wsX0_join : List Cond := Cond.code yX0_join cX0_join 5 (some .int) :: jW0
theorem kX0_join_c : Cond.code yX0_join cX0_join 5 (some .int) ∈ jW0 := List.mem_filter.mpr ⟨List.mem_of_getElem? (i := 313) (by decide +kernel), by decide +kernel⟩
def wsX0_isRun : List Cond := Cond.code yX0_isRun cX0_isRun 2 (some .boolean) :: jW0
theorem kX0_isRun_c : Cond.code yX0_isRun cX0_isRun 2 (some .boolean) ∈ jW0 := List.mem_filter.mpr ⟨List.mem_of_getElem? (i := 316) (by decide +kernel), by decide +kernel⟩
def wsX0_isNode : List Cond := Cond.code yX0_isNode cX0_isNode 2 (some .boolean) :: jW0
theorem kX0_isNode_c : Cond.code yX0_isNode cX0_isNode 2 (some .boolean) ∈ jW0 := List.mem_filter.mpr ⟨List.mem_of_getElem? (i := 320) (by decide +kernel), by decide +kernel⟩
def wsX0_hasParentBeside : List Cond := Cond.code yX0_hasParentBeside cX0_hasParentBeside 7 (some .boolean) :: jW0
theorem kX0_hasParentBeside_c : Cond.code yX0_hasParentBeside cX0_hasParentBeside 7 (some .boolean) ∈ jW0 := List.mem_filter.mpr ⟨List.mem_of_getElem? (i := 341) (by decide +kernel), by decide +kernel⟩
def wsX0_setParents : List Cond := Cond.code yX0_setParents cX0_setParents 7 (some .int) :: jW0
theorem kX0_setParents_c : Cond.code yX0_setParents cX0_setParents 7 (some .int) ∈ jW0 := List.mem_filter.mpr ⟨List.mem_of_getElem? (i := 346) (by decide +kernel), by decide +kernel⟩
def wsL_part : List Cond := Cond.codeWith yL_part cL_part 6 (some .int) [(0, 12, 15, 21)] :: jW0
theorem kL_part_c : Cond.codeWith yL_part cL_part 6 (some .int) [(0, 12, 15, 21)] ∈ jW0 := List.mem_filter.mpr ⟨List.mem_of_getElem? (i := 349) (by decide +kernel), by decide +kernel⟩
def wsX0_part : List Cond := Cond.code yX0_part cX0_part 4 (some .int) :: jW0
theorem kX0_part_c : Cond.code yX0_part cX0_part 4 (some .int) ∈ jW0 := List.mem_filter.mpr ⟨List.mem_of_getElem? (i := 353) (by decide +kernel), by decide +kernel⟩
def wsL_site : List Cond := Cond.codeWith yL_site cL_site 5 (some .int) [(0, 10, 13, 21), (0, 10, 17, 13), (0, 10, 21, 15)] :: jW0
theorem kL_site_c : Cond.codeWith yL_site cL_site 5 (some .int) [(0, 10, 13, 21), (0, 10, 17, 13), (0, 10, 21, 15)] ∈ jW0 := List.mem_filter.mpr ⟨List.mem_of_getElem? (i := 356) (by decide +kernel), by decide +kernel⟩
def wsX0_site : List Cond := Cond.code yX0_site cX0_site 3 (some .int) :: jW0
theorem kX0_site_c : Cond.code yX0_site cX0_site 3 (some .int) ∈ jW0 := List.mem_filter.mpr ⟨List.mem_of_getElem? (i := 360) (by decide +kernel), by decide +kernel⟩
def wsX0_isPlace : List Cond := Cond.code yX0_isPlace cX0_isPlace 1 (some .boolean) :: jW0
theorem kX0_isPlace_c : Cond.code yX0_isPlace cX0_isPlace 1 (some .boolean) ∈ jW0 := List.mem_filter.mpr ⟨List.mem_of_getElem? (i := 363) (by decide +kernel), by decide +kernel⟩
def wsX0_hasSite : List Cond := Cond.code yX0_hasSite cX0_hasSite 3 (some .boolean) :: jW0
theorem kX0_hasSite_c : Cond.code yX0_hasSite cX0_hasSite 3 (some .boolean) ∈ jW0 := List.mem_filter.mpr ⟨List.mem_of_getElem? (i := 368) (by decide +kernel), by decide +kernel⟩
def wsL_mutate : List Cond := Cond.codeWith yL_mutate cL_mutate 6 (some .int) [(0, 12, 15, 21), (0, 12, 19, 13)] :: jW0
theorem kL_mutate_c : Cond.codeWith yL_mutate cL_mutate 6 (some .int) [(0, 12, 15, 21), (0, 12, 19, 13)] ∈ jW0 := List.mem_filter.mpr ⟨List.mem_of_getElem? (i := 373) (by decide +kernel), by decide +kernel⟩
def wsX0_mutate : List Cond := Cond.code yX0_mutate cX0_mutate 5 (some .int) :: jW0
theorem kX0_mutate_c : Cond.code yX0_mutate cX0_mutate 5 (some .int) ∈ jW0 := List.mem_filter.mpr ⟨List.mem_of_getElem? (i := 377) (by decide +kernel), by decide +kernel⟩
def wsX0_isSite : List Cond := Cond.code yX0_isSite cX0_isSite 2 (some .boolean) :: jW0
theorem kX0_isSite_c : Cond.code yX0_isSite cX0_isSite 2 (some .boolean) ∈ jW0 := List.mem_filter.mpr ⟨List.mem_of_getElem? (i := 381) (by decide +kernel), by decide +kernel⟩
def wsL_time : List Cond := Cond.codeWith yL_time cL_time 4 (some .int) [(0, 9, 12, 21)] :: jW0
theorem kL_time_c : Cond.codeWith yL_time cL_time 4 (some .int) [(0, 9, 12, 21)] ∈ jW0 := List.mem_filter.mpr ⟨List.mem_of_getElem? (i := 386) (by decide +kernel), by decide +kernel⟩
def wsX0_time : List Cond := Cond.code yX0_time cX0_time 2 (some .int) :: jW0
theorem kX0_time_c : Cond.code yX0_time cX0_time 2 (some .int) ∈ jW0 := List.mem_filter.mpr ⟨List.mem_of_getElem? (i := 390) (by decide +kernel), by decide +kernel⟩
def wsL_edge : List Cond := Cond.codeWith yL_edge cL_edge 5 (some .int) [(0, 10, 13, 21)] :: jW0
theorem kL_edge_c : Cond.codeWith yL_edge cL_edge 5 (some .int) [(0, 10, 13, 21)] ∈ jW0 := List.mem_filter.mpr ⟨List.mem_of_getElem? (i := 394) (by decide +kernel), by decide +kernel⟩
def wsX0_edge : List Cond := Cond.code yX0_edge cX0_edge 6 (some .int) :: jW0
theorem kX0_edge_c : Cond.code yX0_edge cX0_edge 6 (some .int) ∈ jW0 := List.mem_filter.mpr ⟨List.mem_of_getElem? (i := 398) (by decide +kernel), by decide +kernel⟩
def wsX0_findEdge : List Cond := Cond.code yX0_findEdge cX0_findEdge 7 (some .int) :: jW0
theorem kX0_findEdge_c : Cond.code yX0_findEdge cX0_findEdge 7 (some .int) ∈ jW0 := List.mem_filter.mpr ⟨List.mem_of_getElem? (i := 402) (by decide +kernel), by decide +kernel⟩
def wsX0_nextByTime : List Cond := Cond.code yX0_nextByTime cX0_nextByTime 4 (some .int) :: jW0
theorem kX0_nextByTime_c : Cond.code yX0_nextByTime cX0_nextByTime 4 (some .int) ∈ jW0 := List.mem_filter.mpr ⟨List.mem_of_getElem? (i := 406) (by decide +kernel), by decide +kernel⟩
def wsX0_isEarlier : List Cond := Cond.code yX0_isEarlier cX0_isEarlier 3 (some .boolean) :: jW0
theorem kX0_isEarlier_c : Cond.code yX0_isEarlier cX0_isEarlier 3 (some .boolean) ∈ jW0 := List.mem_filter.mpr ⟨List.mem_of_getElem? (i := 410) (by decide +kernel), by decide +kernel⟩
def wsX0_edgeEnd : List Cond := Cond.code yX0_edgeEnd cX0_edgeEnd 4 (some .int) :: jW0
theorem kX0_edgeEnd_c : Cond.code yX0_edgeEnd cX0_edgeEnd 4 (some .int) ∈ jW0 := List.mem_filter.mpr ⟨List.mem_of_getElem? (i := 415) (by decide +kernel), by decide +kernel⟩
def wsL_parent : List Cond := Cond.codeWith yL_parent cL_parent 5 (some .int) [(0, 10, 13, 21)] :: jW0
theorem kL_parent_c : Cond.codeWith yL_parent cL_parent 5 (some .int) [(0, 10, 13, 21)] ∈ jW0 := List.mem_filter.mpr ⟨List.mem_of_getElem? (i := 418) (by decide +kernel), by decide +kernel⟩
def wsX0_parent : List Cond := Cond.code yX0_parent cX0_parent 3 (some .int) :: jW0
theorem kX0_parent_c : Cond.code yX0_parent cX0_parent 3 (some .int) ∈ jW0 := List.mem_filter.mpr ⟨List.mem_of_getElem? (i := 422) (by decide +kernel), by decide +kernel⟩
def wsL_meet : List Cond := Cond.codeWith yL_meet cL_meet 6 (some .int) [(0, 12, 15, 21)] :: jW0
theorem kL_meet_c : Cond.codeWith yL_meet cL_meet 6 (some .int) [(0, 12, 15, 21)] ∈ jW0 := List.mem_filter.mpr ⟨List.mem_of_getElem? (i := 426) (by decide +kernel), by decide +kernel⟩
def wsX0_meet : List Cond := Cond.code yX0_meet cX0_meet 6 (some .int) :: jW0
theorem kX0_meet_c : Cond.code yX0_meet cX0_meet 6 (some .int) ∈ jW0 := List.mem_filter.mpr ⟨List.mem_of_getElem? (i := 430) (by decide +kernel), by decide +kernel⟩
def wsX0_isAtOrAbove : List Cond := Cond.code yX0_isAtOrAbove cX0_isAtOrAbove 6 (some .boolean) :: jW0
theorem kX0_isAtOrAbove_c : Cond.code yX0_isAtOrAbove cX0_isAtOrAbove 6 (some .boolean) ∈ jW0 := List.mem_filter.mpr ⟨List.mem_of_getElem? (i := 434) (by decide +kernel), by decide +kernel⟩
def wsL_cut : List Cond := Cond.codeWith yL_cut cL_cut 4 (some .int) [(0, 9, 12, 21)] :: jW0
theorem kL_cut_c : Cond.codeWith yL_cut cL_cut 4 (some .int) [(0, 9, 12, 21)] ∈ jW0 := List.mem_filter.mpr ⟨List.mem_of_getElem? (i := 437) (by decide +kernel), by decide +kernel⟩
def wsX0_cut : List Cond := Cond.code yX0_cut cX0_cut 4 (some .int) :: jW0
theorem kX0_cut_c : Cond.code yX0_cut cX0_cut 4 (some .int) ∈ jW0 := List.mem_filter.mpr ⟨List.mem_of_getElem? (i := 441) (by decide +kernel), by decide +kernel⟩
def wsL_letter : List Cond := Cond.codeWith yL_letter cL_letter 5 (some .int) [(0, 10, 13, 21)] :: jW0
theorem kL_letter_c : Cond.codeWith yL_letter cL_letter 5 (some .int) [(0, 10, 13, 21)] ∈ jW0 := List.mem_filter.mpr ⟨List.mem_of_getElem? (i := 445) (by decide +kernel), by decide +kernel⟩
def wsX0_letter : List Cond := Cond.code yX0_letter cX0_letter 3 (some .int) :: jW0
theorem kX0_letter_c : Cond.code yX0_letter cX0_letter 3 (some .int) ∈ jW0 := List.mem_filter.mpr ⟨List.mem_of_getElem? (i := 449) (by decide +kernel), by decide +kernel⟩
def wsX1_init : List Cond := Cond.code yX1_init cX1_init 2 none :: jW0
theorem kX1_init_c : Cond.code yX1_init cX1_init 2 none ∈ jW0 := List.mem_filter.mpr ⟨List.mem_of_getElem? (i := 454) (by decide +kernel), by decide +kernel⟩
def wsX1_thrown : List Cond := Cond.code yX1_thrown cX1_thrown 1 (some .int) :: jW0
theorem kX1_thrown_c : Cond.code yX1_thrown cX1_thrown 1 (some .int) ∈ jW0 := List.mem_filter.mpr ⟨List.mem_of_getElem? (i := 508) (by decide +kernel), by decide +kernel⟩
def wsX1_node : List Cond := Cond.code yX1_node cX1_node 4 (some .int) :: jW0
theorem kX1_node_c : Cond.code yX1_node cX1_node 4 (some .int) ∈ jW0 := List.mem_filter.mpr ⟨List.mem_of_getElem? (i := 512) (by decide +kernel), by decide +kernel⟩
def wsX1_refused : List Cond := Cond.code yX1_refused cX1_refused 2 (some .boolean) :: jW0
theorem kX1_refused_c : Cond.code yX1_refused cX1_refused 2 (some .boolean) ∈ jW0 := List.mem_filter.mpr ⟨List.mem_of_getElem? (i := 516) (by decide +kernel), by decide +kernel⟩
def wsX1_join : List Cond := Cond.code yX1_join cX1_join 8 (some .int) :: jW0
theorem kX1_join_c : Cond.code yX1_join cX1_join 8 (some .int) ∈ jW0 := List.mem_filter.mpr ⟨List.mem_of_getElem? (i := 520) (by decide +kernel), by decide +kernel⟩
def wsX1_isRun : List Cond := Cond.code yX1_isRun cX1_isRun 2 (some .boolean) :: jW0
theorem kX1_isRun_c : Cond.code yX1_isRun cX1_isRun 2 (some .boolean) ∈ jW0 := List.mem_filter.mpr ⟨List.mem_of_getElem? (i := 523) (by decide +kernel), by decide +kernel⟩
def wsX1_isNode : List Cond := Cond.code yX1_isNode cX1_isNode 2 (some .boolean) :: jW0
theorem kX1_isNode_c : Cond.code yX1_isNode cX1_isNode 2 (some .boolean) ∈ jW0 := List.mem_filter.mpr ⟨List.mem_of_getElem? (i := 527) (by decide +kernel), by decide +kernel⟩
def wsX1_up : List Cond := Cond.code yX1_up cX1_up 3 (some .int) :: jW0
theorem kX1_up_c : Cond.code yX1_up cX1_up 3 (some .int) ∈ jW0 := List.mem_filter.mpr ⟨List.mem_of_getElem? (i := 531) (by decide +kernel), by decide +kernel⟩
def wsX1_part : List Cond := Cond.code yX1_part cX1_part 6 (some .int) :: jW0
theorem kX1_part_c : Cond.code yX1_part cX1_part 6 (some .int) ∈ jW0 := List.mem_filter.mpr ⟨List.mem_of_getElem? (i := 535) (by decide +kernel), by decide +kernel⟩
def wsX1_site : List Cond := Cond.code yX1_site cX1_site 3 (some .int) :: jW0
theorem kX1_site_c : Cond.code yX1_site cX1_site 3 (some .int) ∈ jW0 := List.mem_filter.mpr ⟨List.mem_of_getElem? (i := 539) (by decide +kernel), by decide +kernel⟩
def wsX1_isPlace : List Cond := Cond.code yX1_isPlace cX1_isPlace 1 (some .boolean) :: jW0
theorem kX1_isPlace_c : Cond.code yX1_isPlace cX1_isPlace 1 (some .boolean) ∈ jW0 := List.mem_filter.mpr ⟨List.mem_of_getElem? (i := 542) (by decide +kernel), by decide +kernel⟩
def wsX1_isTaken : List Cond := Cond.code yX1_isTaken cX1_isTaken 4 (some .boolean) :: jW0
theorem kX1_isTaken_c : Cond.code yX1_isTaken cX1_isTaken 4 (some .boolean) ∈ jW0 := List.mem_filter.mpr ⟨List.mem_of_getElem? (i := 546) (by decide +kernel), by decide +kernel⟩
def wsX1_mutate : List Cond := Cond.code yX1_mutate cX1_mutate 5 (some .int) :: jW0
theorem kX1_mutate_c : Cond.code yX1_mutate cX1_mutate 5 (some .int) ∈ jW0 := List.mem_filter.mpr ⟨List.mem_of_getElem? (i := 550) (by decide +kernel), by decide +kernel⟩
def wsX1_isSite : List Cond := Cond.code yX1_isSite cX1_isSite 2 (some .boolean) :: jW0
theorem kX1_isSite_c : Cond.code yX1_isSite cX1_isSite 2 (some .boolean) ∈ jW0 := List.mem_filter.mpr ⟨List.mem_of_getElem? (i := 554) (by decide +kernel), by decide +kernel⟩
def wsX1_count : List Cond := Cond.code yX1_count cX1_count 5 (some .int) :: jW0
theorem kX1_count_c : Cond.code yX1_count cX1_count 5 (some .int) ∈ jW0 := List.mem_filter.mpr ⟨List.mem_of_getElem? (i := 558) (by decide +kernel), by decide +kernel⟩
def wsX1_samples : List Cond := Cond.code yX1_samples cX1_samples 3 (some .int) :: jW0
theorem kX1_samples_c : Cond.code yX1_samples cX1_samples 3 (some .int) ∈ jW0 := List.mem_filter.mpr ⟨List.mem_of_getElem? (i := 562) (by decide +kernel), by decide +kernel⟩
def wsX1_find : List Cond := Cond.code yX1_find cX1_find 7 (some .int) :: jW0
theorem kX1_find_c : Cond.code yX1_find cX1_find 7 (some .int) ∈ jW0 := List.mem_filter.mpr ⟨List.mem_of_getElem? (i := 566) (by decide +kernel), by decide +kernel⟩
def wsX1_begins : List Cond := Cond.code yX1_begins cX1_begins 3 (some .boolean) :: jW0
theorem kX1_begins_c : Cond.code yX1_begins cX1_begins 3 (some .boolean) ∈ jW0 := List.mem_filter.mpr ⟨List.mem_of_getElem? (i := 570) (by decide +kernel), by decide +kernel⟩
def wsX1_time : List Cond := Cond.code yX1_time cX1_time 2 (some .int) :: jW0
theorem kX1_time_c : Cond.code yX1_time cX1_time 2 (some .int) ∈ jW0 := List.mem_filter.mpr ⟨List.mem_of_getElem? (i := 574) (by decide +kernel), by decide +kernel⟩
def wsX1_edge : List Cond := Cond.code yX1_edge cX1_edge 3 (some .int) :: jW0
theorem kX1_edge_c : Cond.code yX1_edge cX1_edge 3 (some .int) ∈ jW0 := List.mem_filter.mpr ⟨List.mem_of_getElem? (i := 578) (by decide +kernel), by decide +kernel⟩
def wsX1_parent : List Cond := Cond.code yX1_parent cX1_parent 3 (some .int) :: jW0
theorem kX1_parent_c : Cond.code yX1_parent cX1_parent 3 (some .int) ∈ jW0 := List.mem_filter.mpr ⟨List.mem_of_getElem? (i := 582) (by decide +kernel), by decide +kernel⟩
def wsX1_meet : List Cond := Cond.code yX1_meet cX1_meet 5 (some .int) :: jW0
theorem kX1_meet_c : Cond.code yX1_meet cX1_meet 5 (some .int) ∈ jW0 := List.mem_filter.mpr ⟨List.mem_of_getElem? (i := 586) (by decide +kernel), by decide +kernel⟩
def wsX1_holds : List Cond := Cond.code yX1_holds cX1_holds 5 (some .boolean) :: jW0
theorem kX1_holds_c : Cond.code yX1_holds cX1_holds 5 (some .boolean) ∈ jW0 := List.mem_filter.mpr ⟨List.mem_of_getElem? (i := 590) (by decide +kernel), by decide +kernel⟩
def wsX1_trees : List Cond := Cond.code yX1_trees cX1_trees 3 (some .int) :: jW0
theorem kX1_trees_c : Cond.code yX1_trees cX1_trees 3 (some .int) ∈ jW0 := List.mem_filter.mpr ⟨List.mem_of_getElem? (i := 594) (by decide +kernel), by decide +kernel⟩
def wsX1_differs : List Cond := Cond.code yX1_differs cX1_differs 4 (some .boolean) :: jW0
theorem kX1_differs_c : Cond.code yX1_differs cX1_differs 4 (some .boolean) ∈ jW0 := List.mem_filter.mpr ⟨List.mem_of_getElem? (i := 598) (by decide +kernel), by decide +kernel⟩
def wsX1_cut : List Cond := Cond.code yX1_cut cX1_cut 5 (some .int) :: jW0
theorem kX1_cut_c : Cond.code yX1_cut cX1_cut 5 (some .int) ∈ jW0 := List.mem_filter.mpr ⟨List.mem_of_getElem? (i := 602) (by decide +kernel), by decide +kernel⟩
def wsX1_letter : List Cond := Cond.code yX1_letter cX1_letter 3 (some .int) :: jW0
theorem kX1_letter_c : Cond.code yX1_letter cX1_letter 3 (some .int) ∈ jW0 := List.mem_filter.mpr ⟨List.mem_of_getElem? (i := 607) (by decide +kernel), by decide +kernel⟩
def wsX1_letterAt : List Cond := Cond.code yX1_letterAt cX1_letterAt 4 (some .int) :: jW0
theorem kX1_letterAt_c : Cond.code yX1_letterAt cX1_letterAt 4 (some .int) ∈ jW0 := List.mem_filter.mpr ⟨List.mem_of_getElem? (i := 611) (by decide +kernel), by decide +kernel⟩
def wsX1_differing : List Cond := Cond.code yX1_differing cX1_differing 5 (some .int) :: jW0
theorem kX1_differing_c : Cond.code yX1_differing cX1_differing 5 (some .int) ∈ jW0 := List.mem_filter.mpr ⟨List.mem_of_getElem? (i := 615) (by decide +kernel), by decide +kernel⟩
def wsX1_spectrum : List Cond := Cond.code yX1_spectrum cX1_spectrum 7 (some .int) :: jW0
theorem kX1_spectrum_c : Cond.code yX1_spectrum cX1_spectrum 7 (some .int) ∈ jW0 := List.mem_filter.mpr ⟨List.mem_of_getElem? (i := 619) (by decide +kernel), by decide +kernel⟩
def wsX1_area : List Cond := Cond.code yX1_area cX1_area 6 (some .int) :: jW0
theorem kX1_area_c : Cond.code yX1_area cX1_area 6 (some .int) ∈ jW0 := List.mem_filter.mpr ⟨List.mem_of_getElem? (i := 623) (by decide +kernel), by decide +kernel⟩
def wsX1_under : List Cond := Cond.code yX1_under cX1_under 5 (some .int) :: jW0
theorem kX1_under_c : Cond.code yX1_under cX1_under 5 (some .int) ∈ jW0 := List.mem_filter.mpr ⟨List.mem_of_getElem? (i := 627) (by decide +kernel), by decide +kernel⟩
def wsX1_simplify : List Cond := Cond.code yX1_simplify cX1_simplify 5 (some .int) :: jW0
theorem kX1_simplify_c : Cond.code yX1_simplify cX1_simplify 5 (some .int) ∈ jW0 := List.mem_filter.mpr ⟨List.mem_of_getElem? (i := 631) (by decide +kernel), by decide +kernel⟩
def wsX1_stays : List Cond := Cond.code yX1_stays cX1_stays 4 (some .boolean) :: jW0
theorem kX1_stays_c : Cond.code yX1_stays cX1_stays 4 (some .boolean) ∈ jW0 := List.mem_filter.mpr ⟨List.mem_of_getElem? (i := 635) (by decide +kernel), by decide +kernel⟩
def wsX1_isFork : List Cond := Cond.code yX1_isFork cX1_isFork 5 (some .boolean) :: jW0
theorem kX1_isFork_c : Cond.code yX1_isFork cX1_isFork 5 (some .boolean) ∈ jW0 := List.mem_filter.mpr ⟨List.mem_of_getElem? (i := 639) (by decide +kernel), by decide +kernel⟩
def wsX1_matters : List Cond := Cond.code yX1_matters cX1_matters 3 (some .boolean) :: jW0
theorem kX1_matters_c : Cond.code yX1_matters cX1_matters 3 (some .boolean) ∈ jW0 := List.mem_filter.mpr ⟨List.mem_of_getElem? (i := 643) (by decide +kernel), by decide +kernel⟩
def wsX1_nearest : List Cond := Cond.code yX1_nearest cX1_nearest 4 (some .int) :: jW0
theorem kX1_nearest_c : Cond.code yX1_nearest cX1_nearest 4 (some .int) ∈ jW0 := List.mem_filter.mpr ⟨List.mem_of_getElem? (i := 647) (by decide +kernel), by decide +kernel⟩
def wsX1_comes : List Cond := Cond.code yX1_comes cX1_comes 5 (some .int) :: jW0
theorem kX1_comes_c : Cond.code yX1_comes cX1_comes 5 (some .int) ∈ jW0 := List.mem_filter.mpr ⟨List.mem_of_getElem? (i := 651) (by decide +kernel), by decide +kernel⟩
def wsX1_became : List Cond := Cond.code yX1_became cX1_became 2 (some .int) :: jW0
theorem kX1_became_c : Cond.code yX1_became cX1_became 2 (some .int) ∈ jW0 := List.mem_filter.mpr ⟨List.mem_of_getElem? (i := 655) (by decide +kernel), by decide +kernel⟩
def wsJ7_fill : List Cond := Cond.code yJ7_fill cJ7_fill 4 none :: jW0
theorem kJ7_fill_c : Cond.code yJ7_fill cJ7_fill 4 none ∈ jW0 := List.mem_filter.mpr ⟨List.mem_of_getElem? (i := 67) (by decide +kernel), by decide +kernel⟩
theorem kini_X0 : Cond.initialized RX0 ∈ jW0 := List.mem_filter.mpr ⟨List.mem_of_getElem? (i := 47) (by decide +kernel), by decide +kernel⟩
theorem kini_X1 : Cond.initialized RX1 ∈ jW0 := List.mem_filter.mpr ⟨List.mem_of_getElem? (i := 49) (by decide +kernel), by decide +kernel⟩
theorem kini_L : Cond.initialized RL ∈ jW0 := List.mem_filter.mpr ⟨List.mem_of_getElem? (i := 46) (by decide +kernel), by decide +kernel⟩
theorem kini_J7 : Cond.initialized RJ7 ∈ jW0 := List.mem_filter.mpr ⟨List.mem_of_getElem? (i := 48) (by decide +kernel), by decide +kernel⟩
theorem kini_sys : Cond.initialized "java/lang/System" ∈ jW0 := List.mem_filter.mpr ⟨List.mem_of_getElem? (i := 56) (by decide +kernel), by decide +kernel⟩
theorem kX0_init_i : Cond.instanceMethod yX0_init ∈ jW0 := List.mem_filter.mpr ⟨List.mem_of_getElem? (i := 60) (by decide +kernel), by decide +kernel⟩
theorem kX0_count_i : Cond.instanceMethod yX0_count ∈ jW0 := List.mem_filter.mpr ⟨List.mem_of_getElem? (i := 111) (by decide +kernel), by decide +kernel⟩
theorem kX0_count_v : Cond.selects RX0 yX0_count yX0_count ∈ jW0 := List.mem_filter.mpr ⟨List.mem_of_getElem? (i := 112) (by decide +kernel), by decide +kernel⟩
theorem kX0_countSamples_i : Cond.instanceMethod yX0_countSamples ∈ jW0 := List.mem_filter.mpr ⟨List.mem_of_getElem? (i := 116) (by decide +kernel), by decide +kernel⟩
theorem kX0_countSamples_v : Cond.selects RX0 yX0_countSamples yX0_countSamples ∈ jW0 := List.mem_filter.mpr ⟨List.mem_of_getElem? (i := 0) (by decide +kernel), by decide +kernel⟩
theorem kX0_countEdges_i : Cond.instanceMethod yX0_countEdges ∈ jW0 := List.mem_filter.mpr ⟨List.mem_of_getElem? (i := 120) (by decide +kernel), by decide +kernel⟩
theorem kX0_countEdges_v : Cond.selects RX0 yX0_countEdges yX0_countEdges ∈ jW0 := List.mem_filter.mpr ⟨List.mem_of_getElem? (i := 1) (by decide +kernel), by decide +kernel⟩
theorem kX0_startsEdge_i : Cond.instanceMethod yX0_startsEdge ∈ jW0 := List.mem_filter.mpr ⟨List.mem_of_getElem? (i := 124) (by decide +kernel), by decide +kernel⟩
theorem kX0_startsEdge_v : Cond.selects RX0 yX0_startsEdge yX0_startsEdge ∈ jW0 := List.mem_filter.mpr ⟨List.mem_of_getElem? (i := 2) (by decide +kernel), by decide +kernel⟩
theorem kX0_parentAt_i : Cond.instanceMethod yX0_parentAt ∈ jW0 := List.mem_filter.mpr ⟨List.mem_of_getElem? (i := 128) (by decide +kernel), by decide +kernel⟩
theorem kX0_parentAt_v : Cond.selects RX0 yX0_parentAt yX0_parentAt ∈ jW0 := List.mem_filter.mpr ⟨List.mem_of_getElem? (i := 3) (by decide +kernel), by decide +kernel⟩
theorem kX0_countMutations_i : Cond.instanceMethod yX0_countMutations ∈ jW0 := List.mem_filter.mpr ⟨List.mem_of_getElem? (i := 132) (by decide +kernel), by decide +kernel⟩
theorem kX0_countMutations_v : Cond.selects RX0 yX0_countMutations yX0_countMutations ∈ jW0 := List.mem_filter.mpr ⟨List.mem_of_getElem? (i := 4) (by decide +kernel), by decide +kernel⟩
theorem kX0_trees_i : Cond.instanceMethod yX0_trees ∈ jW0 := List.mem_filter.mpr ⟨List.mem_of_getElem? (i := 135) (by decide +kernel), by decide +kernel⟩
theorem kX0_trees_v : Cond.selects RX0 yX0_trees yX0_trees ∈ jW0 := List.mem_filter.mpr ⟨List.mem_of_getElem? (i := 136) (by decide +kernel), by decide +kernel⟩
theorem kX0_startsRun_i : Cond.instanceMethod yX0_startsRun ∈ jW0 := List.mem_filter.mpr ⟨List.mem_of_getElem? (i := 140) (by decide +kernel), by decide +kernel⟩
theorem kX0_startsRun_v : Cond.selects RX0 yX0_startsRun yX0_startsRun ∈ jW0 := List.mem_filter.mpr ⟨List.mem_of_getElem? (i := 5) (by decide +kernel), by decide +kernel⟩
theorem kX0_differing_i : Cond.instanceMethod yX0_differing ∈ jW0 := List.mem_filter.mpr ⟨List.mem_of_getElem? (i := 143) (by decide +kernel), by decide +kernel⟩
theorem kX0_differing_v : Cond.selects RX0 yX0_differing yX0_differing ∈ jW0 := List.mem_filter.mpr ⟨List.mem_of_getElem? (i := 144) (by decide +kernel), by decide +kernel⟩
theorem kX0_tallyLetters_i : Cond.instanceMethod yX0_tallyLetters ∈ jW0 := List.mem_filter.mpr ⟨List.mem_of_getElem? (i := 148) (by decide +kernel), by decide +kernel⟩
theorem kX0_tallyLetters_v : Cond.selects RX0 yX0_tallyLetters yX0_tallyLetters ∈ jW0 := List.mem_filter.mpr ⟨List.mem_of_getElem? (i := 6) (by decide +kernel), by decide +kernel⟩
theorem kX0_letterAt_i : Cond.instanceMethod yX0_letterAt ∈ jW0 := List.mem_filter.mpr ⟨List.mem_of_getElem? (i := 152) (by decide +kernel), by decide +kernel⟩
theorem kX0_letterAt_v : Cond.selects RX0 yX0_letterAt yX0_letterAt ∈ jW0 := List.mem_filter.mpr ⟨List.mem_of_getElem? (i := 7) (by decide +kernel), by decide +kernel⟩
theorem kX0_spectrum_i : Cond.instanceMethod yX0_spectrum ∈ jW0 := List.mem_filter.mpr ⟨List.mem_of_getElem? (i := 155) (by decide +kernel), by decide +kernel⟩
theorem kX0_spectrum_v : Cond.selects RX0 yX0_spectrum yX0_spectrum ∈ jW0 := List.mem_filter.mpr ⟨List.mem_of_getElem? (i := 156) (by decide +kernel), by decide +kernel⟩
theorem kX0_area_i : Cond.instanceMethod yX0_area ∈ jW0 := List.mem_filter.mpr ⟨List.mem_of_getElem? (i := 159) (by decide +kernel), by decide +kernel⟩
theorem kX0_area_v : Cond.selects RX0 yX0_area yX0_area ∈ jW0 := List.mem_filter.mpr ⟨List.mem_of_getElem? (i := 160) (by decide +kernel), by decide +kernel⟩
theorem kX0_countCarried_i : Cond.instanceMethod yX0_countCarried ∈ jW0 := List.mem_filter.mpr ⟨List.mem_of_getElem? (i := 164) (by decide +kernel), by decide +kernel⟩
theorem kX0_countCarried_v : Cond.selects RX0 yX0_countCarried yX0_countCarried ∈ jW0 := List.mem_filter.mpr ⟨List.mem_of_getElem? (i := 8) (by decide +kernel), by decide +kernel⟩
theorem kX0_simplify_i : Cond.instanceMethod yX0_simplify ∈ jW0 := List.mem_filter.mpr ⟨List.mem_of_getElem? (i := 167) (by decide +kernel), by decide +kernel⟩
theorem kX0_simplify_v : Cond.selects RX0 yX0_simplify yX0_simplify ∈ jW0 := List.mem_filter.mpr ⟨List.mem_of_getElem? (i := 168) (by decide +kernel), by decide +kernel⟩
theorem kX0_findMattering_i : Cond.instanceMethod yX0_findMattering ∈ jW0 := List.mem_filter.mpr ⟨List.mem_of_getElem? (i := 172) (by decide +kernel), by decide +kernel⟩
theorem kX0_findMattering_v : Cond.selects RX0 yX0_findMattering yX0_findMattering ∈ jW0 := List.mem_filter.mpr ⟨List.mem_of_getElem? (i := 9) (by decide +kernel), by decide +kernel⟩
theorem kX0_countLiveChildren_i : Cond.instanceMethod yX0_countLiveChildren ∈ jW0 := List.mem_filter.mpr ⟨List.mem_of_getElem? (i := 176) (by decide +kernel), by decide +kernel⟩
theorem kX0_countLiveChildren_v : Cond.selects RX0 yX0_countLiveChildren yX0_countLiveChildren ∈ jW0 := List.mem_filter.mpr ⟨List.mem_of_getElem? (i := 10) (by decide +kernel), by decide +kernel⟩
theorem kX0_renumber_i : Cond.instanceMethod yX0_renumber ∈ jW0 := List.mem_filter.mpr ⟨List.mem_of_getElem? (i := 180) (by decide +kernel), by decide +kernel⟩
theorem kX0_renumber_v : Cond.selects RX0 yX0_renumber yX0_renumber ∈ jW0 := List.mem_filter.mpr ⟨List.mem_of_getElem? (i := 11) (by decide +kernel), by decide +kernel⟩
theorem kX0_moveMutations_i : Cond.instanceMethod yX0_moveMutations ∈ jW0 := List.mem_filter.mpr ⟨List.mem_of_getElem? (i := 184) (by decide +kernel), by decide +kernel⟩
theorem kX0_moveMutations_v : Cond.selects RX0 yX0_moveMutations yX0_moveMutations ∈ jW0 := List.mem_filter.mpr ⟨List.mem_of_getElem? (i := 12) (by decide +kernel), by decide +kernel⟩
theorem kX0_matters_i : Cond.instanceMethod yX0_matters ∈ jW0 := List.mem_filter.mpr ⟨List.mem_of_getElem? (i := 188) (by decide +kernel), by decide +kernel⟩
theorem kX0_matters_v : Cond.selects RX0 yX0_matters yX0_matters ∈ jW0 := List.mem_filter.mpr ⟨List.mem_of_getElem? (i := 13) (by decide +kernel), by decide +kernel⟩
theorem kX0_mutationComingTo_i : Cond.instanceMethod yX0_mutationComingTo ∈ jW0 := List.mem_filter.mpr ⟨List.mem_of_getElem? (i := 192) (by decide +kernel), by decide +kernel⟩
theorem kX0_mutationComingTo_v : Cond.selects RX0 yX0_mutationComingTo yX0_mutationComingTo ∈ jW0 := List.mem_filter.mpr ⟨List.mem_of_getElem? (i := 14) (by decide +kernel), by decide +kernel⟩
theorem kX0_moveParents_i : Cond.instanceMethod yX0_moveParents ∈ jW0 := List.mem_filter.mpr ⟨List.mem_of_getElem? (i := 199) (by decide +kernel), by decide +kernel⟩
theorem kX0_moveParents_v : Cond.selects RX0 yX0_moveParents yX0_moveParents ∈ jW0 := List.mem_filter.mpr ⟨List.mem_of_getElem? (i := 15) (by decide +kernel), by decide +kernel⟩
theorem kX0_nearestMatteringAbove_i : Cond.instanceMethod yX0_nearestMatteringAbove ∈ jW0 := List.mem_filter.mpr ⟨List.mem_of_getElem? (i := 203) (by decide +kernel), by decide +kernel⟩
theorem kX0_nearestMatteringAbove_v : Cond.selects RX0 yX0_nearestMatteringAbove yX0_nearestMatteringAbove ∈ jW0 := List.mem_filter.mpr ⟨List.mem_of_getElem? (i := 16) (by decide +kernel), by decide +kernel⟩
theorem kX0_moveNodes_i : Cond.instanceMethod yX0_moveNodes ∈ jW0 := List.mem_filter.mpr ⟨List.mem_of_getElem? (i := 207) (by decide +kernel), by decide +kernel⟩
theorem kX0_moveNodes_v : Cond.selects RX0 yX0_moveNodes yX0_moveNodes ∈ jW0 := List.mem_filter.mpr ⟨List.mem_of_getElem? (i := 17) (by decide +kernel), by decide +kernel⟩
theorem kX0_became_i : Cond.instanceMethod yX0_became ∈ jW0 := List.mem_filter.mpr ⟨List.mem_of_getElem? (i := 210) (by decide +kernel), by decide +kernel⟩
theorem kX0_became_v : Cond.selects RX0 yX0_became yX0_became ∈ jW0 := List.mem_filter.mpr ⟨List.mem_of_getElem? (i := 211) (by decide +kernel), by decide +kernel⟩
theorem kL_node_s : Cond.static yL_node ∈ jW0 := List.mem_filter.mpr ⟨List.mem_of_getElem? (i := 214) (by decide +kernel), by decide +kernel⟩
theorem kX0_node_i : Cond.instanceMethod yX0_node ∈ jW0 := List.mem_filter.mpr ⟨List.mem_of_getElem? (i := 219) (by decide +kernel), by decide +kernel⟩
theorem kX0_node_v : Cond.selects RX0 yX0_node yX0_node ∈ jW0 := List.mem_filter.mpr ⟨List.mem_of_getElem? (i := 220) (by decide +kernel), by decide +kernel⟩
theorem kL_join_s : Cond.static yL_join ∈ jW0 := List.mem_filter.mpr ⟨List.mem_of_getElem? (i := 307) (by decide +kernel), by decide +kernel⟩
theorem kX0_join_i : Cond.instanceMethod yX0_join ∈ jW0 := List.mem_filter.mpr ⟨List.mem_of_getElem? (i := 311) (by decide +kernel), by decide +kernel⟩
theorem kX0_join_v : Cond.selects RX0 yX0_join yX0_join ∈ jW0 := List.mem_filter.mpr ⟨List.mem_of_getElem? (i := 312) (by decide +kernel), by decide +kernel⟩
theorem kX0_isRun_s : Cond.static yX0_isRun ∈ jW0 := List.mem_filter.mpr ⟨List.mem_of_getElem? (i := 315) (by decide +kernel), by decide +kernel⟩
theorem kX0_isNode_i : Cond.instanceMethod yX0_isNode ∈ jW0 := List.mem_filter.mpr ⟨List.mem_of_getElem? (i := 319) (by decide +kernel), by decide +kernel⟩
theorem kX0_isNode_v : Cond.selects RX0 yX0_isNode yX0_isNode ∈ jW0 := List.mem_filter.mpr ⟨List.mem_of_getElem? (i := 19) (by decide +kernel), by decide +kernel⟩
theorem kX0_hasParentBeside_i : Cond.instanceMethod yX0_hasParentBeside ∈ jW0 := List.mem_filter.mpr ⟨List.mem_of_getElem? (i := 340) (by decide +kernel), by decide +kernel⟩
theorem kX0_hasParentBeside_v : Cond.selects RX0 yX0_hasParentBeside yX0_hasParentBeside ∈ jW0 := List.mem_filter.mpr ⟨List.mem_of_getElem? (i := 20) (by decide +kernel), by decide +kernel⟩
theorem kX0_setParents_i : Cond.instanceMethod yX0_setParents ∈ jW0 := List.mem_filter.mpr ⟨List.mem_of_getElem? (i := 345) (by decide +kernel), by decide +kernel⟩
theorem kX0_setParents_v : Cond.selects RX0 yX0_setParents yX0_setParents ∈ jW0 := List.mem_filter.mpr ⟨List.mem_of_getElem? (i := 21) (by decide +kernel), by decide +kernel⟩
theorem kL_part_s : Cond.static yL_part ∈ jW0 := List.mem_filter.mpr ⟨List.mem_of_getElem? (i := 348) (by decide +kernel), by decide +kernel⟩
theorem kX0_part_i : Cond.instanceMethod yX0_part ∈ jW0 := List.mem_filter.mpr ⟨List.mem_of_getElem? (i := 351) (by decide +kernel), by decide +kernel⟩
theorem kX0_part_v : Cond.selects RX0 yX0_part yX0_part ∈ jW0 := List.mem_filter.mpr ⟨List.mem_of_getElem? (i := 352) (by decide +kernel), by decide +kernel⟩
theorem kL_site_s : Cond.static yL_site ∈ jW0 := List.mem_filter.mpr ⟨List.mem_of_getElem? (i := 355) (by decide +kernel), by decide +kernel⟩
theorem kX0_site_i : Cond.instanceMethod yX0_site ∈ jW0 := List.mem_filter.mpr ⟨List.mem_of_getElem? (i := 358) (by decide +kernel), by decide +kernel⟩
theorem kX0_site_v : Cond.selects RX0 yX0_site yX0_site ∈ jW0 := List.mem_filter.mpr ⟨List.mem_of_getElem? (i := 359) (by decide +kernel), by decide +kernel⟩
theorem kX0_isPlace_s : Cond.static yX0_isPlace ∈ jW0 := List.mem_filter.mpr ⟨List.mem_of_getElem? (i := 362) (by decide +kernel), by decide +kernel⟩
theorem kX0_hasSite_i : Cond.instanceMethod yX0_hasSite ∈ jW0 := List.mem_filter.mpr ⟨List.mem_of_getElem? (i := 367) (by decide +kernel), by decide +kernel⟩
theorem kX0_hasSite_v : Cond.selects RX0 yX0_hasSite yX0_hasSite ∈ jW0 := List.mem_filter.mpr ⟨List.mem_of_getElem? (i := 22) (by decide +kernel), by decide +kernel⟩
theorem kL_mutate_s : Cond.static yL_mutate ∈ jW0 := List.mem_filter.mpr ⟨List.mem_of_getElem? (i := 372) (by decide +kernel), by decide +kernel⟩
theorem kX0_mutate_i : Cond.instanceMethod yX0_mutate ∈ jW0 := List.mem_filter.mpr ⟨List.mem_of_getElem? (i := 375) (by decide +kernel), by decide +kernel⟩
theorem kX0_mutate_v : Cond.selects RX0 yX0_mutate yX0_mutate ∈ jW0 := List.mem_filter.mpr ⟨List.mem_of_getElem? (i := 376) (by decide +kernel), by decide +kernel⟩
theorem kX0_isSite_i : Cond.instanceMethod yX0_isSite ∈ jW0 := List.mem_filter.mpr ⟨List.mem_of_getElem? (i := 380) (by decide +kernel), by decide +kernel⟩
theorem kX0_isSite_v : Cond.selects RX0 yX0_isSite yX0_isSite ∈ jW0 := List.mem_filter.mpr ⟨List.mem_of_getElem? (i := 23) (by decide +kernel), by decide +kernel⟩
theorem kL_time_s : Cond.static yL_time ∈ jW0 := List.mem_filter.mpr ⟨List.mem_of_getElem? (i := 385) (by decide +kernel), by decide +kernel⟩
theorem kX0_time_i : Cond.instanceMethod yX0_time ∈ jW0 := List.mem_filter.mpr ⟨List.mem_of_getElem? (i := 388) (by decide +kernel), by decide +kernel⟩
theorem kX0_time_v : Cond.selects RX0 yX0_time yX0_time ∈ jW0 := List.mem_filter.mpr ⟨List.mem_of_getElem? (i := 389) (by decide +kernel), by decide +kernel⟩
theorem kL_edge_s : Cond.static yL_edge ∈ jW0 := List.mem_filter.mpr ⟨List.mem_of_getElem? (i := 393) (by decide +kernel), by decide +kernel⟩
theorem kX0_edge_i : Cond.instanceMethod yX0_edge ∈ jW0 := List.mem_filter.mpr ⟨List.mem_of_getElem? (i := 396) (by decide +kernel), by decide +kernel⟩
theorem kX0_edge_v : Cond.selects RX0 yX0_edge yX0_edge ∈ jW0 := List.mem_filter.mpr ⟨List.mem_of_getElem? (i := 397) (by decide +kernel), by decide +kernel⟩
theorem kX0_findEdge_i : Cond.instanceMethod yX0_findEdge ∈ jW0 := List.mem_filter.mpr ⟨List.mem_of_getElem? (i := 401) (by decide +kernel), by decide +kernel⟩
theorem kX0_findEdge_v : Cond.selects RX0 yX0_findEdge yX0_findEdge ∈ jW0 := List.mem_filter.mpr ⟨List.mem_of_getElem? (i := 24) (by decide +kernel), by decide +kernel⟩
theorem kX0_nextByTime_i : Cond.instanceMethod yX0_nextByTime ∈ jW0 := List.mem_filter.mpr ⟨List.mem_of_getElem? (i := 405) (by decide +kernel), by decide +kernel⟩
theorem kX0_nextByTime_v : Cond.selects RX0 yX0_nextByTime yX0_nextByTime ∈ jW0 := List.mem_filter.mpr ⟨List.mem_of_getElem? (i := 25) (by decide +kernel), by decide +kernel⟩
theorem kX0_isEarlier_i : Cond.instanceMethod yX0_isEarlier ∈ jW0 := List.mem_filter.mpr ⟨List.mem_of_getElem? (i := 409) (by decide +kernel), by decide +kernel⟩
theorem kX0_isEarlier_v : Cond.selects RX0 yX0_isEarlier yX0_isEarlier ∈ jW0 := List.mem_filter.mpr ⟨List.mem_of_getElem? (i := 26) (by decide +kernel), by decide +kernel⟩
theorem kX0_edgeEnd_i : Cond.instanceMethod yX0_edgeEnd ∈ jW0 := List.mem_filter.mpr ⟨List.mem_of_getElem? (i := 414) (by decide +kernel), by decide +kernel⟩
theorem kX0_edgeEnd_v : Cond.selects RX0 yX0_edgeEnd yX0_edgeEnd ∈ jW0 := List.mem_filter.mpr ⟨List.mem_of_getElem? (i := 27) (by decide +kernel), by decide +kernel⟩
theorem kL_parent_s : Cond.static yL_parent ∈ jW0 := List.mem_filter.mpr ⟨List.mem_of_getElem? (i := 417) (by decide +kernel), by decide +kernel⟩
theorem kX0_parent_i : Cond.instanceMethod yX0_parent ∈ jW0 := List.mem_filter.mpr ⟨List.mem_of_getElem? (i := 420) (by decide +kernel), by decide +kernel⟩
theorem kX0_parent_v : Cond.selects RX0 yX0_parent yX0_parent ∈ jW0 := List.mem_filter.mpr ⟨List.mem_of_getElem? (i := 421) (by decide +kernel), by decide +kernel⟩
theorem kL_meet_s : Cond.static yL_meet ∈ jW0 := List.mem_filter.mpr ⟨List.mem_of_getElem? (i := 425) (by decide +kernel), by decide +kernel⟩
theorem kX0_meet_i : Cond.instanceMethod yX0_meet ∈ jW0 := List.mem_filter.mpr ⟨List.mem_of_getElem? (i := 428) (by decide +kernel), by decide +kernel⟩
theorem kX0_meet_v : Cond.selects RX0 yX0_meet yX0_meet ∈ jW0 := List.mem_filter.mpr ⟨List.mem_of_getElem? (i := 429) (by decide +kernel), by decide +kernel⟩
theorem kX0_isAtOrAbove_i : Cond.instanceMethod yX0_isAtOrAbove ∈ jW0 := List.mem_filter.mpr ⟨List.mem_of_getElem? (i := 433) (by decide +kernel), by decide +kernel⟩
theorem kX0_isAtOrAbove_v : Cond.selects RX0 yX0_isAtOrAbove yX0_isAtOrAbove ∈ jW0 := List.mem_filter.mpr ⟨List.mem_of_getElem? (i := 28) (by decide +kernel), by decide +kernel⟩
theorem kL_cut_s : Cond.static yL_cut ∈ jW0 := List.mem_filter.mpr ⟨List.mem_of_getElem? (i := 436) (by decide +kernel), by decide +kernel⟩
theorem kX0_cut_i : Cond.instanceMethod yX0_cut ∈ jW0 := List.mem_filter.mpr ⟨List.mem_of_getElem? (i := 439) (by decide +kernel), by decide +kernel⟩
theorem kX0_cut_v : Cond.selects RX0 yX0_cut yX0_cut ∈ jW0 := List.mem_filter.mpr ⟨List.mem_of_getElem? (i := 440) (by decide +kernel), by decide +kernel⟩
theorem kL_letter_s : Cond.static yL_letter ∈ jW0 := List.mem_filter.mpr ⟨List.mem_of_getElem? (i := 444) (by decide +kernel), by decide +kernel⟩
theorem kX0_letter_i : Cond.instanceMethod yX0_letter ∈ jW0 := List.mem_filter.mpr ⟨List.mem_of_getElem? (i := 447) (by decide +kernel), by decide +kernel⟩
theorem kX0_letter_v : Cond.selects RX0 yX0_letter yX0_letter ∈ jW0 := List.mem_filter.mpr ⟨List.mem_of_getElem? (i := 448) (by decide +kernel), by decide +kernel⟩
theorem kX1_init_i : Cond.instanceMethod yX1_init ∈ jW0 := List.mem_filter.mpr ⟨List.mem_of_getElem? (i := 453) (by decide +kernel), by decide +kernel⟩
theorem kX1_thrown_i : Cond.instanceMethod yX1_thrown ∈ jW0 := List.mem_filter.mpr ⟨List.mem_of_getElem? (i := 506) (by decide +kernel), by decide +kernel⟩
theorem kX1_thrown_v : Cond.selects RX1 yX1_thrown yX1_thrown ∈ jW0 := List.mem_filter.mpr ⟨List.mem_of_getElem? (i := 507) (by decide +kernel), by decide +kernel⟩
theorem kX1_node_i : Cond.instanceMethod yX1_node ∈ jW0 := List.mem_filter.mpr ⟨List.mem_of_getElem? (i := 510) (by decide +kernel), by decide +kernel⟩
theorem kX1_node_v : Cond.selects RX1 yX1_node yX1_node ∈ jW0 := List.mem_filter.mpr ⟨List.mem_of_getElem? (i := 511) (by decide +kernel), by decide +kernel⟩
theorem kX1_refused_i : Cond.instanceMethod yX1_refused ∈ jW0 := List.mem_filter.mpr ⟨List.mem_of_getElem? (i := 515) (by decide +kernel), by decide +kernel⟩
theorem kX1_refused_v : Cond.selects RX1 yX1_refused yX1_refused ∈ jW0 := List.mem_filter.mpr ⟨List.mem_of_getElem? (i := 29) (by decide +kernel), by decide +kernel⟩
theorem kX1_join_i : Cond.instanceMethod yX1_join ∈ jW0 := List.mem_filter.mpr ⟨List.mem_of_getElem? (i := 518) (by decide +kernel), by decide +kernel⟩
theorem kX1_join_v : Cond.selects RX1 yX1_join yX1_join ∈ jW0 := List.mem_filter.mpr ⟨List.mem_of_getElem? (i := 519) (by decide +kernel), by decide +kernel⟩
theorem kX1_isRun_s : Cond.static yX1_isRun ∈ jW0 := List.mem_filter.mpr ⟨List.mem_of_getElem? (i := 522) (by decide +kernel), by decide +kernel⟩
theorem kX1_isNode_i : Cond.instanceMethod yX1_isNode ∈ jW0 := List.mem_filter.mpr ⟨List.mem_of_getElem? (i := 526) (by decide +kernel), by decide +kernel⟩
theorem kX1_isNode_v : Cond.selects RX1 yX1_isNode yX1_isNode ∈ jW0 := List.mem_filter.mpr ⟨List.mem_of_getElem? (i := 30) (by decide +kernel), by decide +kernel⟩
theorem kX1_up_i : Cond.instanceMethod yX1_up ∈ jW0 := List.mem_filter.mpr ⟨List.mem_of_getElem? (i := 530) (by decide +kernel), by decide +kernel⟩
theorem kX1_up_v : Cond.selects RX1 yX1_up yX1_up ∈ jW0 := List.mem_filter.mpr ⟨List.mem_of_getElem? (i := 31) (by decide +kernel), by decide +kernel⟩
theorem kX1_part_i : Cond.instanceMethod yX1_part ∈ jW0 := List.mem_filter.mpr ⟨List.mem_of_getElem? (i := 533) (by decide +kernel), by decide +kernel⟩
theorem kX1_part_v : Cond.selects RX1 yX1_part yX1_part ∈ jW0 := List.mem_filter.mpr ⟨List.mem_of_getElem? (i := 534) (by decide +kernel), by decide +kernel⟩
theorem kX1_site_i : Cond.instanceMethod yX1_site ∈ jW0 := List.mem_filter.mpr ⟨List.mem_of_getElem? (i := 537) (by decide +kernel), by decide +kernel⟩
theorem kX1_site_v : Cond.selects RX1 yX1_site yX1_site ∈ jW0 := List.mem_filter.mpr ⟨List.mem_of_getElem? (i := 538) (by decide +kernel), by decide +kernel⟩
theorem kX1_isPlace_s : Cond.static yX1_isPlace ∈ jW0 := List.mem_filter.mpr ⟨List.mem_of_getElem? (i := 541) (by decide +kernel), by decide +kernel⟩
theorem kX1_isTaken_i : Cond.instanceMethod yX1_isTaken ∈ jW0 := List.mem_filter.mpr ⟨List.mem_of_getElem? (i := 545) (by decide +kernel), by decide +kernel⟩
theorem kX1_isTaken_v : Cond.selects RX1 yX1_isTaken yX1_isTaken ∈ jW0 := List.mem_filter.mpr ⟨List.mem_of_getElem? (i := 32) (by decide +kernel), by decide +kernel⟩
theorem kX1_mutate_i : Cond.instanceMethod yX1_mutate ∈ jW0 := List.mem_filter.mpr ⟨List.mem_of_getElem? (i := 548) (by decide +kernel), by decide +kernel⟩
theorem kX1_mutate_v : Cond.selects RX1 yX1_mutate yX1_mutate ∈ jW0 := List.mem_filter.mpr ⟨List.mem_of_getElem? (i := 549) (by decide +kernel), by decide +kernel⟩
theorem kX1_isSite_i : Cond.instanceMethod yX1_isSite ∈ jW0 := List.mem_filter.mpr ⟨List.mem_of_getElem? (i := 553) (by decide +kernel), by decide +kernel⟩
theorem kX1_isSite_v : Cond.selects RX1 yX1_isSite yX1_isSite ∈ jW0 := List.mem_filter.mpr ⟨List.mem_of_getElem? (i := 33) (by decide +kernel), by decide +kernel⟩
theorem kX1_count_i : Cond.instanceMethod yX1_count ∈ jW0 := List.mem_filter.mpr ⟨List.mem_of_getElem? (i := 556) (by decide +kernel), by decide +kernel⟩
theorem kX1_count_v : Cond.selects RX1 yX1_count yX1_count ∈ jW0 := List.mem_filter.mpr ⟨List.mem_of_getElem? (i := 557) (by decide +kernel), by decide +kernel⟩
theorem kX1_samples_i : Cond.instanceMethod yX1_samples ∈ jW0 := List.mem_filter.mpr ⟨List.mem_of_getElem? (i := 561) (by decide +kernel), by decide +kernel⟩
theorem kX1_samples_v : Cond.selects RX1 yX1_samples yX1_samples ∈ jW0 := List.mem_filter.mpr ⟨List.mem_of_getElem? (i := 34) (by decide +kernel), by decide +kernel⟩
theorem kX1_find_i : Cond.instanceMethod yX1_find ∈ jW0 := List.mem_filter.mpr ⟨List.mem_of_getElem? (i := 565) (by decide +kernel), by decide +kernel⟩
theorem kX1_find_v : Cond.selects RX1 yX1_find yX1_find ∈ jW0 := List.mem_filter.mpr ⟨List.mem_of_getElem? (i := 35) (by decide +kernel), by decide +kernel⟩
theorem kX1_begins_i : Cond.instanceMethod yX1_begins ∈ jW0 := List.mem_filter.mpr ⟨List.mem_of_getElem? (i := 569) (by decide +kernel), by decide +kernel⟩
theorem kX1_begins_v : Cond.selects RX1 yX1_begins yX1_begins ∈ jW0 := List.mem_filter.mpr ⟨List.mem_of_getElem? (i := 36) (by decide +kernel), by decide +kernel⟩
theorem kX1_time_i : Cond.instanceMethod yX1_time ∈ jW0 := List.mem_filter.mpr ⟨List.mem_of_getElem? (i := 572) (by decide +kernel), by decide +kernel⟩
theorem kX1_time_v : Cond.selects RX1 yX1_time yX1_time ∈ jW0 := List.mem_filter.mpr ⟨List.mem_of_getElem? (i := 573) (by decide +kernel), by decide +kernel⟩
theorem kX1_edge_i : Cond.instanceMethod yX1_edge ∈ jW0 := List.mem_filter.mpr ⟨List.mem_of_getElem? (i := 576) (by decide +kernel), by decide +kernel⟩
theorem kX1_edge_v : Cond.selects RX1 yX1_edge yX1_edge ∈ jW0 := List.mem_filter.mpr ⟨List.mem_of_getElem? (i := 577) (by decide +kernel), by decide +kernel⟩
theorem kX1_parent_i : Cond.instanceMethod yX1_parent ∈ jW0 := List.mem_filter.mpr ⟨List.mem_of_getElem? (i := 580) (by decide +kernel), by decide +kernel⟩
theorem kX1_parent_v : Cond.selects RX1 yX1_parent yX1_parent ∈ jW0 := List.mem_filter.mpr ⟨List.mem_of_getElem? (i := 581) (by decide +kernel), by decide +kernel⟩
theorem kX1_meet_i : Cond.instanceMethod yX1_meet ∈ jW0 := List.mem_filter.mpr ⟨List.mem_of_getElem? (i := 584) (by decide +kernel), by decide +kernel⟩
theorem kX1_meet_v : Cond.selects RX1 yX1_meet yX1_meet ∈ jW0 := List.mem_filter.mpr ⟨List.mem_of_getElem? (i := 585) (by decide +kernel), by decide +kernel⟩
theorem kX1_holds_i : Cond.instanceMethod yX1_holds ∈ jW0 := List.mem_filter.mpr ⟨List.mem_of_getElem? (i := 589) (by decide +kernel), by decide +kernel⟩
theorem kX1_holds_v : Cond.selects RX1 yX1_holds yX1_holds ∈ jW0 := List.mem_filter.mpr ⟨List.mem_of_getElem? (i := 37) (by decide +kernel), by decide +kernel⟩
theorem kX1_trees_i : Cond.instanceMethod yX1_trees ∈ jW0 := List.mem_filter.mpr ⟨List.mem_of_getElem? (i := 592) (by decide +kernel), by decide +kernel⟩
theorem kX1_trees_v : Cond.selects RX1 yX1_trees yX1_trees ∈ jW0 := List.mem_filter.mpr ⟨List.mem_of_getElem? (i := 593) (by decide +kernel), by decide +kernel⟩
theorem kX1_differs_i : Cond.instanceMethod yX1_differs ∈ jW0 := List.mem_filter.mpr ⟨List.mem_of_getElem? (i := 597) (by decide +kernel), by decide +kernel⟩
theorem kX1_differs_v : Cond.selects RX1 yX1_differs yX1_differs ∈ jW0 := List.mem_filter.mpr ⟨List.mem_of_getElem? (i := 38) (by decide +kernel), by decide +kernel⟩
theorem kX1_cut_i : Cond.instanceMethod yX1_cut ∈ jW0 := List.mem_filter.mpr ⟨List.mem_of_getElem? (i := 600) (by decide +kernel), by decide +kernel⟩
theorem kX1_cut_v : Cond.selects RX1 yX1_cut yX1_cut ∈ jW0 := List.mem_filter.mpr ⟨List.mem_of_getElem? (i := 601) (by decide +kernel), by decide +kernel⟩
theorem kX1_letter_i : Cond.instanceMethod yX1_letter ∈ jW0 := List.mem_filter.mpr ⟨List.mem_of_getElem? (i := 605) (by decide +kernel), by decide +kernel⟩
theorem kX1_letter_v : Cond.selects RX1 yX1_letter yX1_letter ∈ jW0 := List.mem_filter.mpr ⟨List.mem_of_getElem? (i := 606) (by decide +kernel), by decide +kernel⟩
theorem kX1_letterAt_i : Cond.instanceMethod yX1_letterAt ∈ jW0 := List.mem_filter.mpr ⟨List.mem_of_getElem? (i := 610) (by decide +kernel), by decide +kernel⟩
theorem kX1_letterAt_v : Cond.selects RX1 yX1_letterAt yX1_letterAt ∈ jW0 := List.mem_filter.mpr ⟨List.mem_of_getElem? (i := 39) (by decide +kernel), by decide +kernel⟩
theorem kX1_differing_i : Cond.instanceMethod yX1_differing ∈ jW0 := List.mem_filter.mpr ⟨List.mem_of_getElem? (i := 613) (by decide +kernel), by decide +kernel⟩
theorem kX1_differing_v : Cond.selects RX1 yX1_differing yX1_differing ∈ jW0 := List.mem_filter.mpr ⟨List.mem_of_getElem? (i := 614) (by decide +kernel), by decide +kernel⟩
theorem kX1_spectrum_i : Cond.instanceMethod yX1_spectrum ∈ jW0 := List.mem_filter.mpr ⟨List.mem_of_getElem? (i := 617) (by decide +kernel), by decide +kernel⟩
theorem kX1_spectrum_v : Cond.selects RX1 yX1_spectrum yX1_spectrum ∈ jW0 := List.mem_filter.mpr ⟨List.mem_of_getElem? (i := 618) (by decide +kernel), by decide +kernel⟩
theorem kX1_area_i : Cond.instanceMethod yX1_area ∈ jW0 := List.mem_filter.mpr ⟨List.mem_of_getElem? (i := 621) (by decide +kernel), by decide +kernel⟩
theorem kX1_area_v : Cond.selects RX1 yX1_area yX1_area ∈ jW0 := List.mem_filter.mpr ⟨List.mem_of_getElem? (i := 622) (by decide +kernel), by decide +kernel⟩
theorem kX1_under_i : Cond.instanceMethod yX1_under ∈ jW0 := List.mem_filter.mpr ⟨List.mem_of_getElem? (i := 626) (by decide +kernel), by decide +kernel⟩
theorem kX1_under_v : Cond.selects RX1 yX1_under yX1_under ∈ jW0 := List.mem_filter.mpr ⟨List.mem_of_getElem? (i := 40) (by decide +kernel), by decide +kernel⟩
theorem kX1_simplify_i : Cond.instanceMethod yX1_simplify ∈ jW0 := List.mem_filter.mpr ⟨List.mem_of_getElem? (i := 629) (by decide +kernel), by decide +kernel⟩
theorem kX1_simplify_v : Cond.selects RX1 yX1_simplify yX1_simplify ∈ jW0 := List.mem_filter.mpr ⟨List.mem_of_getElem? (i := 630) (by decide +kernel), by decide +kernel⟩
theorem kX1_stays_i : Cond.instanceMethod yX1_stays ∈ jW0 := List.mem_filter.mpr ⟨List.mem_of_getElem? (i := 634) (by decide +kernel), by decide +kernel⟩
theorem kX1_stays_v : Cond.selects RX1 yX1_stays yX1_stays ∈ jW0 := List.mem_filter.mpr ⟨List.mem_of_getElem? (i := 41) (by decide +kernel), by decide +kernel⟩
theorem kX1_isFork_i : Cond.instanceMethod yX1_isFork ∈ jW0 := List.mem_filter.mpr ⟨List.mem_of_getElem? (i := 638) (by decide +kernel), by decide +kernel⟩
theorem kX1_isFork_v : Cond.selects RX1 yX1_isFork yX1_isFork ∈ jW0 := List.mem_filter.mpr ⟨List.mem_of_getElem? (i := 42) (by decide +kernel), by decide +kernel⟩
theorem kX1_matters_i : Cond.instanceMethod yX1_matters ∈ jW0 := List.mem_filter.mpr ⟨List.mem_of_getElem? (i := 642) (by decide +kernel), by decide +kernel⟩
theorem kX1_matters_v : Cond.selects RX1 yX1_matters yX1_matters ∈ jW0 := List.mem_filter.mpr ⟨List.mem_of_getElem? (i := 43) (by decide +kernel), by decide +kernel⟩
theorem kX1_nearest_i : Cond.instanceMethod yX1_nearest ∈ jW0 := List.mem_filter.mpr ⟨List.mem_of_getElem? (i := 646) (by decide +kernel), by decide +kernel⟩
theorem kX1_nearest_v : Cond.selects RX1 yX1_nearest yX1_nearest ∈ jW0 := List.mem_filter.mpr ⟨List.mem_of_getElem? (i := 44) (by decide +kernel), by decide +kernel⟩
theorem kX1_comes_i : Cond.instanceMethod yX1_comes ∈ jW0 := List.mem_filter.mpr ⟨List.mem_of_getElem? (i := 650) (by decide +kernel), by decide +kernel⟩
theorem kX1_comes_v : Cond.selects RX1 yX1_comes yX1_comes ∈ jW0 := List.mem_filter.mpr ⟨List.mem_of_getElem? (i := 45) (by decide +kernel), by decide +kernel⟩
theorem kX1_became_i : Cond.instanceMethod yX1_became ∈ jW0 := List.mem_filter.mpr ⟨List.mem_of_getElem? (i := 653) (by decide +kernel), by decide +kernel⟩
theorem kX1_became_v : Cond.selects RX1 yX1_became yX1_became ∈ jW0 := List.mem_filter.mpr ⟨List.mem_of_getElem? (i := 654) (by decide +kernel), by decide +kernel⟩
theorem kJ7_fill_s : Cond.static yJ7_fill ∈ jW0 := List.mem_filter.mpr ⟨List.mem_of_getElem? (i := 66) (by decide +kernel), by decide +kernel⟩
theorem kcL_8 : Cond.classLink RL 8 RX0 ∈ jW0 := List.mem_filter.mpr ⟨List.mem_of_getElem? (i := 57) (by decide +kernel), by decide +kernel⟩
theorem klL_53 : Cond.methodLink RL 53 yX0_init ∈ jW0 := List.mem_filter.mpr ⟨List.mem_of_getElem? (i := 59) (by decide +kernel), by decide +kernel⟩
theorem klX0_1 : Cond.methodLink RX0 1 objectInit ∈ jW0 := List.mem_filter.mpr ⟨List.mem_of_getElem? (i := 62) (by decide +kernel), by decide +kernel⟩
theorem klX0_51 : Cond.methodLink RX0 51 yJ7_fill ∈ jW0 := List.mem_filter.mpr ⟨List.mem_of_getElem? (i := 65) (by decide +kernel), by decide +kernel⟩
theorem kfX0_7 : Cond.fieldLink RX0 7 "LineageTables" "nodeCount" "I" ∈ jW0 := List.mem_filter.mpr ⟨List.mem_of_getElem? (i := 68) (by decide +kernel), by decide +kernel⟩
theorem kfX0_13 : Cond.fieldLink RX0 13 "LineageTables" "times" "[I" ∈ jW0 := List.mem_filter.mpr ⟨List.mem_of_getElem? (i := 69) (by decide +kernel), by decide +kernel⟩
theorem kfX0_17 : Cond.fieldLink RX0 17 "LineageTables" "samples" "[Z" ∈ jW0 := List.mem_filter.mpr ⟨List.mem_of_getElem? (i := 70) (by decide +kernel), by decide +kernel⟩
theorem kfX0_21 : Cond.fieldLink RX0 21 "LineageTables" "parents" "[I" ∈ jW0 := List.mem_filter.mpr ⟨List.mem_of_getElem? (i := 71) (by decide +kernel), by decide +kernel⟩
theorem kfX0_24 : Cond.fieldLink RX0 24 "LineageTables" "siteCount" "I" ∈ jW0 := List.mem_filter.mpr ⟨List.mem_of_getElem? (i := 72) (by decide +kernel), by decide +kernel⟩
theorem kfX0_27 : Cond.fieldLink RX0 27 "LineageTables" "sitePlaces" "[I" ∈ jW0 := List.mem_filter.mpr ⟨List.mem_of_getElem? (i := 73) (by decide +kernel), by decide +kernel⟩
theorem kfX0_30 : Cond.fieldLink RX0 30 "LineageTables" "ancestrals" "[I" ∈ jW0 := List.mem_filter.mpr ⟨List.mem_of_getElem? (i := 74) (by decide +kernel), by decide +kernel⟩
theorem kfX0_33 : Cond.fieldLink RX0 33 "LineageTables" "mutations" "[I" ∈ jW0 := List.mem_filter.mpr ⟨List.mem_of_getElem? (i := 75) (by decide +kernel), by decide +kernel⟩
theorem kfX0_36 : Cond.fieldLink RX0 36 "LineageTables" "newNumbers" "[I" ∈ jW0 := List.mem_filter.mpr ⟨List.mem_of_getElem? (i := 76) (by decide +kernel), by decide +kernel⟩
theorem kfX0_39 : Cond.fieldLink RX0 39 "LineageTables" "carried" "[I" ∈ jW0 := List.mem_filter.mpr ⟨List.mem_of_getElem? (i := 77) (by decide +kernel), by decide +kernel⟩
theorem kfX0_42 : Cond.fieldLink RX0 42 "LineageTables" "mattering" "[I" ∈ jW0 := List.mem_filter.mpr ⟨List.mem_of_getElem? (i := 78) (by decide +kernel), by decide +kernel⟩
theorem kfX0_45 : Cond.fieldLink RX0 45 "LineageTables" "tally" "[I" ∈ jW0 := List.mem_filter.mpr ⟨List.mem_of_getElem? (i := 79) (by decide +kernel), by decide +kernel⟩
theorem kfX0_48 : Cond.fieldLink RX0 48 "LineageTables" "row" "[I" ∈ jW0 := List.mem_filter.mpr ⟨List.mem_of_getElem? (i := 80) (by decide +kernel), by decide +kernel⟩
theorem klL_82 : Cond.methodLink RL 82 yX0_count ∈ jW0 := List.mem_filter.mpr ⟨List.mem_of_getElem? (i := 110) (by decide +kernel), by decide +kernel⟩
theorem klX0_113 : Cond.methodLink RX0 113 yX0_countSamples ∈ jW0 := List.mem_filter.mpr ⟨List.mem_of_getElem? (i := 114) (by decide +kernel), by decide +kernel⟩
theorem klX0_117 : Cond.methodLink RX0 117 yX0_countEdges ∈ jW0 := List.mem_filter.mpr ⟨List.mem_of_getElem? (i := 118) (by decide +kernel), by decide +kernel⟩
theorem klX0_174 : Cond.methodLink RX0 174 yX0_startsEdge ∈ jW0 := List.mem_filter.mpr ⟨List.mem_of_getElem? (i := 122) (by decide +kernel), by decide +kernel⟩
theorem klX0_135 : Cond.methodLink RX0 135 yX0_parentAt ∈ jW0 := List.mem_filter.mpr ⟨List.mem_of_getElem? (i := 126) (by decide +kernel), by decide +kernel⟩
theorem klX0_120 : Cond.methodLink RX0 120 yX0_countMutations ∈ jW0 := List.mem_filter.mpr ⟨List.mem_of_getElem? (i := 130) (by decide +kernel), by decide +kernel⟩
theorem klL_99 : Cond.methodLink RL 99 yX0_trees ∈ jW0 := List.mem_filter.mpr ⟨List.mem_of_getElem? (i := 134) (by decide +kernel), by decide +kernel⟩
theorem klX0_144 : Cond.methodLink RX0 144 yX0_startsRun ∈ jW0 := List.mem_filter.mpr ⟨List.mem_of_getElem? (i := 138) (by decide +kernel), by decide +kernel⟩
theorem klL_109 : Cond.methodLink RL 109 yX0_differing ∈ jW0 := List.mem_filter.mpr ⟨List.mem_of_getElem? (i := 142) (by decide +kernel), by decide +kernel⟩
theorem klX0_152 : Cond.methodLink RX0 152 yX0_tallyLetters ∈ jW0 := List.mem_filter.mpr ⟨List.mem_of_getElem? (i := 146) (by decide +kernel), by decide +kernel⟩
theorem klX0_149 : Cond.methodLink RX0 149 yX0_letterAt ∈ jW0 := List.mem_filter.mpr ⟨List.mem_of_getElem? (i := 150) (by decide +kernel), by decide +kernel⟩
theorem klL_113 : Cond.methodLink RL 113 yX0_spectrum ∈ jW0 := List.mem_filter.mpr ⟨List.mem_of_getElem? (i := 154) (by decide +kernel), by decide +kernel⟩
theorem klL_117 : Cond.methodLink RL 117 yX0_area ∈ jW0 := List.mem_filter.mpr ⟨List.mem_of_getElem? (i := 158) (by decide +kernel), by decide +kernel⟩
theorem klX0_156 : Cond.methodLink RX0 156 yX0_countCarried ∈ jW0 := List.mem_filter.mpr ⟨List.mem_of_getElem? (i := 162) (by decide +kernel), by decide +kernel⟩
theorem klL_121 : Cond.methodLink RL 121 yX0_simplify ∈ jW0 := List.mem_filter.mpr ⟨List.mem_of_getElem? (i := 166) (by decide +kernel), by decide +kernel⟩
theorem klX0_159 : Cond.methodLink RX0 159 yX0_findMattering ∈ jW0 := List.mem_filter.mpr ⟨List.mem_of_getElem? (i := 170) (by decide +kernel), by decide +kernel⟩
theorem klX0_183 : Cond.methodLink RX0 183 yX0_countLiveChildren ∈ jW0 := List.mem_filter.mpr ⟨List.mem_of_getElem? (i := 174) (by decide +kernel), by decide +kernel⟩
theorem klX0_162 : Cond.methodLink RX0 162 yX0_renumber ∈ jW0 := List.mem_filter.mpr ⟨List.mem_of_getElem? (i := 178) (by decide +kernel), by decide +kernel⟩
theorem klX0_165 : Cond.methodLink RX0 165 yX0_moveMutations ∈ jW0 := List.mem_filter.mpr ⟨List.mem_of_getElem? (i := 182) (by decide +kernel), by decide +kernel⟩
theorem klX0_186 : Cond.methodLink RX0 186 yX0_matters ∈ jW0 := List.mem_filter.mpr ⟨List.mem_of_getElem? (i := 186) (by decide +kernel), by decide +kernel⟩
theorem klX0_189 : Cond.methodLink RX0 189 yX0_mutationComingTo ∈ jW0 := List.mem_filter.mpr ⟨List.mem_of_getElem? (i := 190) (by decide +kernel), by decide +kernel⟩
theorem klX0_192 : Cond.methodLink RX0 192 arraycopyName ∈ jW0 := List.mem_filter.mpr ⟨List.mem_of_getElem? (i := 194) (by decide +kernel), by decide +kernel⟩
theorem klX0_168 : Cond.methodLink RX0 168 yX0_moveParents ∈ jW0 := List.mem_filter.mpr ⟨List.mem_of_getElem? (i := 197) (by decide +kernel), by decide +kernel⟩
theorem klX0_198 : Cond.methodLink RX0 198 yX0_nearestMatteringAbove ∈ jW0 := List.mem_filter.mpr ⟨List.mem_of_getElem? (i := 201) (by decide +kernel), by decide +kernel⟩
theorem klX0_171 : Cond.methodLink RX0 171 yX0_moveNodes ∈ jW0 := List.mem_filter.mpr ⟨List.mem_of_getElem? (i := 205) (by decide +kernel), by decide +kernel⟩
theorem klL_125 : Cond.methodLink RL 125 yX0_became ∈ jW0 := List.mem_filter.mpr ⟨List.mem_of_getElem? (i := 209) (by decide +kernel), by decide +kernel⟩
theorem klL_57 : Cond.methodLink RL 57 yL_node ∈ jW0 := List.mem_filter.mpr ⟨List.mem_of_getElem? (i := 213) (by decide +kernel), by decide +kernel⟩
theorem kcL_13 : Cond.classLink RL 13 "java/lang/IllegalArgumentException" ∈ jW0 := List.mem_filter.mpr ⟨List.mem_of_getElem? (i := 216) (by decide +kernel), by decide +kernel⟩
theorem kcL_15 : Cond.classLink RL 15 "java/lang/IllegalStateException" ∈ jW0 := List.mem_filter.mpr ⟨List.mem_of_getElem? (i := 217) (by decide +kernel), by decide +kernel⟩
theorem klL_7 : Cond.methodLink RL 7 yX0_node ∈ jW0 := List.mem_filter.mpr ⟨List.mem_of_getElem? (i := 218) (by decide +kernel), by decide +kernel⟩
theorem kcX0_57 : Cond.classLink RX0 57 "java/lang/IllegalArgumentException" ∈ jW0 := List.mem_filter.mpr ⟨List.mem_of_getElem? (i := 222) (by decide +kernel), by decide +kernel⟩
theorem kcX0_64 : Cond.classLink RX0 64 "java/lang/IllegalStateException" ∈ jW0 := List.mem_filter.mpr ⟨List.mem_of_getElem? (i := 290) (by decide +kernel), by decide +kernel⟩
theorem klL_67 : Cond.methodLink RL 67 yL_join ∈ jW0 := List.mem_filter.mpr ⟨List.mem_of_getElem? (i := 306) (by decide +kernel), by decide +kernel⟩
theorem kcL_21 : Cond.classLink RL 21 "java/lang/IndexOutOfBoundsException" ∈ jW0 := List.mem_filter.mpr ⟨List.mem_of_getElem? (i := 309) (by decide +kernel), by decide +kernel⟩
theorem klL_17 : Cond.methodLink RL 17 yX0_join ∈ jW0 := List.mem_filter.mpr ⟨List.mem_of_getElem? (i := 310) (by decide +kernel), by decide +kernel⟩
theorem klX0_69 : Cond.methodLink RX0 69 yX0_isRun ∈ jW0 := List.mem_filter.mpr ⟨List.mem_of_getElem? (i := 314) (by decide +kernel), by decide +kernel⟩
theorem klX0_73 : Cond.methodLink RX0 73 yX0_isNode ∈ jW0 := List.mem_filter.mpr ⟨List.mem_of_getElem? (i := 317) (by decide +kernel), by decide +kernel⟩
theorem kcX0_77 : Cond.classLink RX0 77 "java/lang/IndexOutOfBoundsException" ∈ jW0 := List.mem_filter.mpr ⟨List.mem_of_getElem? (i := 321) (by decide +kernel), by decide +kernel⟩
theorem klX0_84 : Cond.methodLink RX0 84 yX0_hasParentBeside ∈ jW0 := List.mem_filter.mpr ⟨List.mem_of_getElem? (i := 338) (by decide +kernel), by decide +kernel⟩
theorem klX0_90 : Cond.methodLink RX0 90 yX0_setParents ∈ jW0 := List.mem_filter.mpr ⟨List.mem_of_getElem? (i := 343) (by decide +kernel), by decide +kernel⟩
theorem klL_71 : Cond.methodLink RL 71 yL_part ∈ jW0 := List.mem_filter.mpr ⟨List.mem_of_getElem? (i := 347) (by decide +kernel), by decide +kernel⟩
theorem klL_23 : Cond.methodLink RL 23 yX0_part ∈ jW0 := List.mem_filter.mpr ⟨List.mem_of_getElem? (i := 350) (by decide +kernel), by decide +kernel⟩
theorem klL_75 : Cond.methodLink RL 75 yL_site ∈ jW0 := List.mem_filter.mpr ⟨List.mem_of_getElem? (i := 354) (by decide +kernel), by decide +kernel⟩
theorem klL_27 : Cond.methodLink RL 27 yX0_site ∈ jW0 := List.mem_filter.mpr ⟨List.mem_of_getElem? (i := 357) (by decide +kernel), by decide +kernel⟩
theorem klX0_94 : Cond.methodLink RX0 94 yX0_isPlace ∈ jW0 := List.mem_filter.mpr ⟨List.mem_of_getElem? (i := 361) (by decide +kernel), by decide +kernel⟩
theorem klX0_99 : Cond.methodLink RX0 99 yX0_hasSite ∈ jW0 := List.mem_filter.mpr ⟨List.mem_of_getElem? (i := 365) (by decide +kernel), by decide +kernel⟩
theorem klL_79 : Cond.methodLink RL 79 yL_mutate ∈ jW0 := List.mem_filter.mpr ⟨List.mem_of_getElem? (i := 371) (by decide +kernel), by decide +kernel⟩
theorem klL_31 : Cond.methodLink RL 31 yX0_mutate ∈ jW0 := List.mem_filter.mpr ⟨List.mem_of_getElem? (i := 374) (by decide +kernel), by decide +kernel⟩
theorem klX0_106 : Cond.methodLink RX0 106 yX0_isSite ∈ jW0 := List.mem_filter.mpr ⟨List.mem_of_getElem? (i := 378) (by decide +kernel), by decide +kernel⟩
theorem klL_86 : Cond.methodLink RL 86 yL_time ∈ jW0 := List.mem_filter.mpr ⟨List.mem_of_getElem? (i := 384) (by decide +kernel), by decide +kernel⟩
theorem klL_34 : Cond.methodLink RL 34 yX0_time ∈ jW0 := List.mem_filter.mpr ⟨List.mem_of_getElem? (i := 387) (by decide +kernel), by decide +kernel⟩
theorem klL_90 : Cond.methodLink RL 90 yL_edge ∈ jW0 := List.mem_filter.mpr ⟨List.mem_of_getElem? (i := 392) (by decide +kernel), by decide +kernel⟩
theorem klL_38 : Cond.methodLink RL 38 yX0_edge ∈ jW0 := List.mem_filter.mpr ⟨List.mem_of_getElem? (i := 395) (by decide +kernel), by decide +kernel⟩
theorem klX0_125 : Cond.methodLink RX0 125 yX0_findEdge ∈ jW0 := List.mem_filter.mpr ⟨List.mem_of_getElem? (i := 399) (by decide +kernel), by decide +kernel⟩
theorem klX0_177 : Cond.methodLink RX0 177 yX0_nextByTime ∈ jW0 := List.mem_filter.mpr ⟨List.mem_of_getElem? (i := 403) (by decide +kernel), by decide +kernel⟩
theorem klX0_180 : Cond.methodLink RX0 180 yX0_isEarlier ∈ jW0 := List.mem_filter.mpr ⟨List.mem_of_getElem? (i := 407) (by decide +kernel), by decide +kernel⟩
theorem klX0_131 : Cond.methodLink RX0 131 yX0_edgeEnd ∈ jW0 := List.mem_filter.mpr ⟨List.mem_of_getElem? (i := 412) (by decide +kernel), by decide +kernel⟩
theorem klL_93 : Cond.methodLink RL 93 yL_parent ∈ jW0 := List.mem_filter.mpr ⟨List.mem_of_getElem? (i := 416) (by decide +kernel), by decide +kernel⟩
theorem klL_41 : Cond.methodLink RL 41 yX0_parent ∈ jW0 := List.mem_filter.mpr ⟨List.mem_of_getElem? (i := 419) (by decide +kernel), by decide +kernel⟩
theorem klL_96 : Cond.methodLink RL 96 yL_meet ∈ jW0 := List.mem_filter.mpr ⟨List.mem_of_getElem? (i := 424) (by decide +kernel), by decide +kernel⟩
theorem klL_44 : Cond.methodLink RL 44 yX0_meet ∈ jW0 := List.mem_filter.mpr ⟨List.mem_of_getElem? (i := 427) (by decide +kernel), by decide +kernel⟩
theorem klX0_140 : Cond.methodLink RX0 140 yX0_isAtOrAbove ∈ jW0 := List.mem_filter.mpr ⟨List.mem_of_getElem? (i := 431) (by decide +kernel), by decide +kernel⟩
theorem klL_103 : Cond.methodLink RL 103 yL_cut ∈ jW0 := List.mem_filter.mpr ⟨List.mem_of_getElem? (i := 435) (by decide +kernel), by decide +kernel⟩
theorem klL_47 : Cond.methodLink RL 47 yX0_cut ∈ jW0 := List.mem_filter.mpr ⟨List.mem_of_getElem? (i := 438) (by decide +kernel), by decide +kernel⟩
theorem klL_106 : Cond.methodLink RL 106 yL_letter ∈ jW0 := List.mem_filter.mpr ⟨List.mem_of_getElem? (i := 443) (by decide +kernel), by decide +kernel⟩
theorem klL_50 : Cond.methodLink RL 50 yX0_letter ∈ jW0 := List.mem_filter.mpr ⟨List.mem_of_getElem? (i := 446) (by decide +kernel), by decide +kernel⟩
theorem kcL_54 : Cond.classLink RL 54 RX1 ∈ jW0 := List.mem_filter.mpr ⟨List.mem_of_getElem? (i := 450) (by decide +kernel), by decide +kernel⟩
theorem klL_56 : Cond.methodLink RL 56 yX1_init ∈ jW0 := List.mem_filter.mpr ⟨List.mem_of_getElem? (i := 452) (by decide +kernel), by decide +kernel⟩
theorem klX1_1 : Cond.methodLink RX1 1 objectInit ∈ jW0 := List.mem_filter.mpr ⟨List.mem_of_getElem? (i := 455) (by decide +kernel), by decide +kernel⟩
theorem kfX1_38 : Cond.fieldLink RX1 38 "LineageTablesModel" "fault" "I" ∈ jW0 := List.mem_filter.mpr ⟨List.mem_of_getElem? (i := 456) (by decide +kernel), by decide +kernel⟩
theorem kfX1_42 : Cond.fieldLink RX1 42 "LineageTablesModel" "nodes" "I" ∈ jW0 := List.mem_filter.mpr ⟨List.mem_of_getElem? (i := 457) (by decide +kernel), by decide +kernel⟩
theorem kfX1_7 : Cond.fieldLink RX1 7 "LineageTablesModel" "time" "[I" ∈ jW0 := List.mem_filter.mpr ⟨List.mem_of_getElem? (i := 458) (by decide +kernel), by decide +kernel⟩
theorem kfX1_13 : Cond.fieldLink RX1 13 "LineageTablesModel" "sample" "[Z" ∈ jW0 := List.mem_filter.mpr ⟨List.mem_of_getElem? (i := 459) (by decide +kernel), by decide +kernel⟩
theorem kfX1_17 : Cond.fieldLink RX1 17 "LineageTablesModel" "parent" "[I" ∈ jW0 := List.mem_filter.mpr ⟨List.mem_of_getElem? (i := 460) (by decide +kernel), by decide +kernel⟩
theorem kfX1_45 : Cond.fieldLink RX1 45 "LineageTablesModel" "sites" "I" ∈ jW0 := List.mem_filter.mpr ⟨List.mem_of_getElem? (i := 461) (by decide +kernel), by decide +kernel⟩
theorem kfX1_20 : Cond.fieldLink RX1 20 "LineageTablesModel" "placeOf" "[I" ∈ jW0 := List.mem_filter.mpr ⟨List.mem_of_getElem? (i := 462) (by decide +kernel), by decide +kernel⟩
theorem kfX1_23 : Cond.fieldLink RX1 23 "LineageTablesModel" "ancestral" "[I" ∈ jW0 := List.mem_filter.mpr ⟨List.mem_of_getElem? (i := 463) (by decide +kernel), by decide +kernel⟩
theorem kfX1_26 : Cond.fieldLink RX1 26 "LineageTablesModel" "mutation" "[I" ∈ jW0 := List.mem_filter.mpr ⟨List.mem_of_getElem? (i := 464) (by decide +kernel), by decide +kernel⟩
theorem kfX1_29 : Cond.fieldLink RX1 29 "LineageTablesModel" "became" "[I" ∈ jW0 := List.mem_filter.mpr ⟨List.mem_of_getElem? (i := 465) (by decide +kernel), by decide +kernel⟩
theorem kfX1_32 : Cond.fieldLink RX1 32 "LineageTablesModel" "nextParent" "[I" ∈ jW0 := List.mem_filter.mpr ⟨List.mem_of_getElem? (i := 466) (by decide +kernel), by decide +kernel⟩
theorem kfX1_35 : Cond.fieldLink RX1 35 "LineageTablesModel" "nextMutation" "[I" ∈ jW0 := List.mem_filter.mpr ⟨List.mem_of_getElem? (i := 467) (by decide +kernel), by decide +kernel⟩
theorem kfX1_85 : Cond.fieldLink RX1 85 "LineageTablesModel" "foundLeft" "I" ∈ jW0 := List.mem_filter.mpr ⟨List.mem_of_getElem? (i := 468) (by decide +kernel), by decide +kernel⟩
theorem kfX1_102 : Cond.fieldLink RX1 102 "LineageTablesModel" "foundRight" "I" ∈ jW0 := List.mem_filter.mpr ⟨List.mem_of_getElem? (i := 469) (by decide +kernel), by decide +kernel⟩
theorem kfX1_88 : Cond.fieldLink RX1 88 "LineageTablesModel" "foundParent" "I" ∈ jW0 := List.mem_filter.mpr ⟨List.mem_of_getElem? (i := 470) (by decide +kernel), by decide +kernel⟩
theorem kfX1_91 : Cond.fieldLink RX1 91 "LineageTablesModel" "foundChild" "I" ∈ jW0 := List.mem_filter.mpr ⟨List.mem_of_getElem? (i := 471) (by decide +kernel), by decide +kernel⟩
theorem klL_63 : Cond.methodLink RL 63 yX1_thrown ∈ jW0 := List.mem_filter.mpr ⟨List.mem_of_getElem? (i := 505) (by decide +kernel), by decide +kernel⟩
theorem klL_62 : Cond.methodLink RL 62 yX1_node ∈ jW0 := List.mem_filter.mpr ⟨List.mem_of_getElem? (i := 509) (by decide +kernel), by decide +kernel⟩
theorem klX1_63 : Cond.methodLink RX1 63 yX1_refused ∈ jW0 := List.mem_filter.mpr ⟨List.mem_of_getElem? (i := 513) (by decide +kernel), by decide +kernel⟩
theorem klL_70 : Cond.methodLink RL 70 yX1_join ∈ jW0 := List.mem_filter.mpr ⟨List.mem_of_getElem? (i := 517) (by decide +kernel), by decide +kernel⟩
theorem klX1_67 : Cond.methodLink RX1 67 yX1_isRun ∈ jW0 := List.mem_filter.mpr ⟨List.mem_of_getElem? (i := 521) (by decide +kernel), by decide +kernel⟩
theorem klX1_70 : Cond.methodLink RX1 70 yX1_isNode ∈ jW0 := List.mem_filter.mpr ⟨List.mem_of_getElem? (i := 524) (by decide +kernel), by decide +kernel⟩
theorem klX1_48 : Cond.methodLink RX1 48 yX1_up ∈ jW0 := List.mem_filter.mpr ⟨List.mem_of_getElem? (i := 528) (by decide +kernel), by decide +kernel⟩
theorem klL_74 : Cond.methodLink RL 74 yX1_part ∈ jW0 := List.mem_filter.mpr ⟨List.mem_of_getElem? (i := 532) (by decide +kernel), by decide +kernel⟩
theorem klL_78 : Cond.methodLink RL 78 yX1_site ∈ jW0 := List.mem_filter.mpr ⟨List.mem_of_getElem? (i := 536) (by decide +kernel), by decide +kernel⟩
theorem klX1_73 : Cond.methodLink RX1 73 yX1_isPlace ∈ jW0 := List.mem_filter.mpr ⟨List.mem_of_getElem? (i := 540) (by decide +kernel), by decide +kernel⟩
theorem klX1_76 : Cond.methodLink RX1 76 yX1_isTaken ∈ jW0 := List.mem_filter.mpr ⟨List.mem_of_getElem? (i := 543) (by decide +kernel), by decide +kernel⟩
theorem klL_81 : Cond.methodLink RL 81 yX1_mutate ∈ jW0 := List.mem_filter.mpr ⟨List.mem_of_getElem? (i := 547) (by decide +kernel), by decide +kernel⟩
theorem klX1_79 : Cond.methodLink RX1 79 yX1_isSite ∈ jW0 := List.mem_filter.mpr ⟨List.mem_of_getElem? (i := 551) (by decide +kernel), by decide +kernel⟩
theorem klL_85 : Cond.methodLink RL 85 yX1_count ∈ jW0 := List.mem_filter.mpr ⟨List.mem_of_getElem? (i := 555) (by decide +kernel), by decide +kernel⟩
theorem klX1_94 : Cond.methodLink RX1 94 yX1_samples ∈ jW0 := List.mem_filter.mpr ⟨List.mem_of_getElem? (i := 559) (by decide +kernel), by decide +kernel⟩
theorem klX1_98 : Cond.methodLink RX1 98 yX1_find ∈ jW0 := List.mem_filter.mpr ⟨List.mem_of_getElem? (i := 563) (by decide +kernel), by decide +kernel⟩
theorem klX1_82 : Cond.methodLink RX1 82 yX1_begins ∈ jW0 := List.mem_filter.mpr ⟨List.mem_of_getElem? (i := 567) (by decide +kernel), by decide +kernel⟩
theorem klL_89 : Cond.methodLink RL 89 yX1_time ∈ jW0 := List.mem_filter.mpr ⟨List.mem_of_getElem? (i := 571) (by decide +kernel), by decide +kernel⟩
theorem klL_92 : Cond.methodLink RL 92 yX1_edge ∈ jW0 := List.mem_filter.mpr ⟨List.mem_of_getElem? (i := 575) (by decide +kernel), by decide +kernel⟩
theorem klL_95 : Cond.methodLink RL 95 yX1_parent ∈ jW0 := List.mem_filter.mpr ⟨List.mem_of_getElem? (i := 579) (by decide +kernel), by decide +kernel⟩
theorem klL_98 : Cond.methodLink RL 98 yX1_meet ∈ jW0 := List.mem_filter.mpr ⟨List.mem_of_getElem? (i := 583) (by decide +kernel), by decide +kernel⟩
theorem klX1_52 : Cond.methodLink RX1 52 yX1_holds ∈ jW0 := List.mem_filter.mpr ⟨List.mem_of_getElem? (i := 587) (by decide +kernel), by decide +kernel⟩
theorem klL_102 : Cond.methodLink RL 102 yX1_trees ∈ jW0 := List.mem_filter.mpr ⟨List.mem_of_getElem? (i := 591) (by decide +kernel), by decide +kernel⟩
theorem klX1_105 : Cond.methodLink RX1 105 yX1_differs ∈ jW0 := List.mem_filter.mpr ⟨List.mem_of_getElem? (i := 595) (by decide +kernel), by decide +kernel⟩
theorem klL_105 : Cond.methodLink RL 105 yX1_cut ∈ jW0 := List.mem_filter.mpr ⟨List.mem_of_getElem? (i := 599) (by decide +kernel), by decide +kernel⟩
theorem klX1_108 : Cond.methodLink RX1 108 yX1_trees ∈ jW0 := List.mem_filter.mpr ⟨List.mem_of_getElem? (i := 603) (by decide +kernel), by decide +kernel⟩
theorem klL_108 : Cond.methodLink RL 108 yX1_letter ∈ jW0 := List.mem_filter.mpr ⟨List.mem_of_getElem? (i := 604) (by decide +kernel), by decide +kernel⟩
theorem klX1_111 : Cond.methodLink RX1 111 yX1_letterAt ∈ jW0 := List.mem_filter.mpr ⟨List.mem_of_getElem? (i := 608) (by decide +kernel), by decide +kernel⟩
theorem klL_112 : Cond.methodLink RL 112 yX1_differing ∈ jW0 := List.mem_filter.mpr ⟨List.mem_of_getElem? (i := 612) (by decide +kernel), by decide +kernel⟩
theorem klL_116 : Cond.methodLink RL 116 yX1_spectrum ∈ jW0 := List.mem_filter.mpr ⟨List.mem_of_getElem? (i := 616) (by decide +kernel), by decide +kernel⟩
theorem klL_120 : Cond.methodLink RL 120 yX1_area ∈ jW0 := List.mem_filter.mpr ⟨List.mem_of_getElem? (i := 620) (by decide +kernel), by decide +kernel⟩
theorem klX1_56 : Cond.methodLink RX1 56 yX1_under ∈ jW0 := List.mem_filter.mpr ⟨List.mem_of_getElem? (i := 624) (by decide +kernel), by decide +kernel⟩
theorem klL_124 : Cond.methodLink RL 124 yX1_simplify ∈ jW0 := List.mem_filter.mpr ⟨List.mem_of_getElem? (i := 628) (by decide +kernel), by decide +kernel⟩
theorem klX1_117 : Cond.methodLink RX1 117 yX1_stays ∈ jW0 := List.mem_filter.mpr ⟨List.mem_of_getElem? (i := 632) (by decide +kernel), by decide +kernel⟩
theorem klX1_59 : Cond.methodLink RX1 59 yX1_isFork ∈ jW0 := List.mem_filter.mpr ⟨List.mem_of_getElem? (i := 636) (by decide +kernel), by decide +kernel⟩
theorem klX1_114 : Cond.methodLink RX1 114 yX1_matters ∈ jW0 := List.mem_filter.mpr ⟨List.mem_of_getElem? (i := 640) (by decide +kernel), by decide +kernel⟩
theorem klX1_120 : Cond.methodLink RX1 120 yX1_nearest ∈ jW0 := List.mem_filter.mpr ⟨List.mem_of_getElem? (i := 644) (by decide +kernel), by decide +kernel⟩
theorem klX1_123 : Cond.methodLink RX1 123 yX1_comes ∈ jW0 := List.mem_filter.mpr ⟨List.mem_of_getElem? (i := 648) (by decide +kernel), by decide +kernel⟩
theorem klL_128 : Cond.methodLink RL 128 yX1_became ∈ jW0 := List.mem_filter.mpr ⟨List.mem_of_getElem? (i := 652) (by decide +kernel), by decide +kernel⟩
theorem kobj_i : Cond.instanceMethod objectInit ∈ jW0 := List.mem_filter.mpr ⟨List.mem_of_getElem? (i := 63) (by decide +kernel), by decide +kernel⟩
theorem karr_I : Cond.arrayClass .int ∈ jW0 := List.mem_filter.mpr ⟨List.mem_of_getElem? (i := 108) (by decide +kernel), by decide +kernel⟩
theorem karr_Z : Cond.arrayClass .boolean ∈ jW0 := List.mem_filter.mpr ⟨List.mem_of_getElem? (i := 109) (by decide +kernel), by decide +kernel⟩
theorem karr_J : Cond.arrayClass .long ∈ jW0 := List.mem_filter.mpr ⟨List.mem_of_getElem? (i := 656) (by decide +kernel), by decide +kernel⟩
theorem kmk_X0 : Cond.instantiable RX0 13 ∈ jW0 := List.mem_filter.mpr ⟨List.mem_of_getElem? (i := 58) (by decide +kernel), by decide +kernel⟩
theorem ku_X0 : ∀ w ∈ u_ws RX0 TX0 13, w ∈ jW0 := by decide +kernel
theorem kmk_X1 : Cond.instantiable RX1 16 ∈ jW0 := List.mem_filter.mpr ⟨List.mem_of_getElem? (i := 451) (by decide +kernel), by decide +kernel⟩
theorem ku_X1 : ∀ w ∈ u_ws RX1 TX1 16, w ∈ jW0 := by decide +kernel
theorem karc_n : Cond.native arraycopyName ∈ jW0 := List.mem_filter.mpr ⟨List.mem_of_getElem? (i := 196) (by decide +kernel), by decide +kernel⟩
theorem karc_s : Cond.static arraycopyName ∈ jW0 := List.mem_filter.mpr ⟨List.mem_of_getElem? (i := 195) (by decide +kernel), by decide +kernel⟩
theorem kini_IAE : Cond.initialized "java/lang/IllegalArgumentException" ∈ jW0 := List.mem_filter.mpr ⟨List.mem_of_getElem? (i := 53) (by decide +kernel), by decide +kernel⟩
theorem kini_ISE : Cond.initialized "java/lang/IllegalStateException" ∈ jW0 := List.mem_filter.mpr ⟨List.mem_of_getElem? (i := 54) (by decide +kernel), by decide +kernel⟩
theorem kini_IOB : Cond.initialized "java/lang/IndexOutOfBoundsException" ∈ jW0 := List.mem_filter.mpr ⟨List.mem_of_getElem? (i := 55) (by decide +kernel), by decide +kernel⟩
theorem gL_X0_init (c0 : Cond) : GoodIn (c0 :: jW0) wsX0_init := jGI kX0_init_c
theorem gX0_J7_fill (c0 : Cond) : GoodIn (c0 :: jW0) (va_wsS RX0 51 yJ7_fill wsJ7_fill) := jGS klX0_51 kJ7_fill_s kini_J7 kJ7_fill_c
theorem gL_X0_count (c0 : Cond) : GoodIn (c0 :: jW0) (wsV RL 82 RX0 yX0_count wsX0_count) := jGV klL_82 kX0_count_i kX0_count_v kini_X0 kX0_count_c
theorem gX0_X0_countSamples (c0 : Cond) : GoodIn (c0 :: jW0) (wsV RX0 113 RX0 yX0_countSamples wsX0_countSamples) := jGV klX0_113 kX0_countSamples_i kX0_countSamples_v kini_X0 kX0_countSamples_c
theorem gX0_X0_countEdges (c0 : Cond) : GoodIn (c0 :: jW0) (wsV RX0 117 RX0 yX0_countEdges wsX0_countEdges) := jGV klX0_117 kX0_countEdges_i kX0_countEdges_v kini_X0 kX0_countEdges_c
theorem gX0_X0_startsEdge (c0 : Cond) : GoodIn (c0 :: jW0) (wsV RX0 174 RX0 yX0_startsEdge wsX0_startsEdge) := jGV klX0_174 kX0_startsEdge_i kX0_startsEdge_v kini_X0 kX0_startsEdge_c
theorem gX0_X0_parentAt (c0 : Cond) : GoodIn (c0 :: jW0) (wsV RX0 135 RX0 yX0_parentAt wsX0_parentAt) := jGV klX0_135 kX0_parentAt_i kX0_parentAt_v kini_X0 kX0_parentAt_c
theorem gX0_X0_countMutations (c0 : Cond) : GoodIn (c0 :: jW0) (wsV RX0 120 RX0 yX0_countMutations wsX0_countMutations) := jGV klX0_120 kX0_countMutations_i kX0_countMutations_v kini_X0 kX0_countMutations_c
theorem gL_X0_trees (c0 : Cond) : GoodIn (c0 :: jW0) (wsV RL 99 RX0 yX0_trees wsX0_trees) := jGV klL_99 kX0_trees_i kX0_trees_v kini_X0 kX0_trees_c
theorem gX0_X0_startsRun (c0 : Cond) : GoodIn (c0 :: jW0) (wsV RX0 144 RX0 yX0_startsRun wsX0_startsRun) := jGV klX0_144 kX0_startsRun_i kX0_startsRun_v kini_X0 kX0_startsRun_c
theorem gL_X0_differing (c0 : Cond) : GoodIn (c0 :: jW0) (wsV RL 109 RX0 yX0_differing wsX0_differing) := jGV klL_109 kX0_differing_i kX0_differing_v kini_X0 kX0_differing_c
theorem gX0_X0_tallyLetters (c0 : Cond) : GoodIn (c0 :: jW0) (wsV RX0 152 RX0 yX0_tallyLetters wsX0_tallyLetters) := jGV klX0_152 kX0_tallyLetters_i kX0_tallyLetters_v kini_X0 kX0_tallyLetters_c
theorem gX0_X0_letterAt (c0 : Cond) : GoodIn (c0 :: jW0) (wsV RX0 149 RX0 yX0_letterAt wsX0_letterAt) := jGV klX0_149 kX0_letterAt_i kX0_letterAt_v kini_X0 kX0_letterAt_c
theorem gL_X0_spectrum (c0 : Cond) : GoodIn (c0 :: jW0) (wsV RL 113 RX0 yX0_spectrum wsX0_spectrum) := jGV klL_113 kX0_spectrum_i kX0_spectrum_v kini_X0 kX0_spectrum_c
theorem gL_X0_area (c0 : Cond) : GoodIn (c0 :: jW0) (wsV RL 117 RX0 yX0_area wsX0_area) := jGV klL_117 kX0_area_i kX0_area_v kini_X0 kX0_area_c
theorem gX0_X0_countCarried (c0 : Cond) : GoodIn (c0 :: jW0) (wsV RX0 156 RX0 yX0_countCarried wsX0_countCarried) := jGV klX0_156 kX0_countCarried_i kX0_countCarried_v kini_X0 kX0_countCarried_c
theorem gL_X0_simplify (c0 : Cond) : GoodIn (c0 :: jW0) (wsV RL 121 RX0 yX0_simplify wsX0_simplify) := jGV klL_121 kX0_simplify_i kX0_simplify_v kini_X0 kX0_simplify_c
theorem gX0_X0_findMattering (c0 : Cond) : GoodIn (c0 :: jW0) (wsV RX0 159 RX0 yX0_findMattering wsX0_findMattering) := jGV klX0_159 kX0_findMattering_i kX0_findMattering_v kini_X0 kX0_findMattering_c
theorem gX0_X0_countLiveChildren (c0 : Cond) : GoodIn (c0 :: jW0) (wsV RX0 183 RX0 yX0_countLiveChildren wsX0_countLiveChildren) := jGV klX0_183 kX0_countLiveChildren_i kX0_countLiveChildren_v kini_X0 kX0_countLiveChildren_c
theorem gX0_X0_renumber (c0 : Cond) : GoodIn (c0 :: jW0) (wsV RX0 162 RX0 yX0_renumber wsX0_renumber) := jGV klX0_162 kX0_renumber_i kX0_renumber_v kini_X0 kX0_renumber_c
theorem gX0_X0_moveMutations (c0 : Cond) : GoodIn (c0 :: jW0) (wsV RX0 165 RX0 yX0_moveMutations wsX0_moveMutations) := jGV klX0_165 kX0_moveMutations_i kX0_moveMutations_v kini_X0 kX0_moveMutations_c
theorem gX0_X0_matters (c0 : Cond) : GoodIn (c0 :: jW0) (wsV RX0 186 RX0 yX0_matters wsX0_matters) := jGV klX0_186 kX0_matters_i kX0_matters_v kini_X0 kX0_matters_c
theorem gX0_X0_mutationComingTo (c0 : Cond) : GoodIn (c0 :: jW0) (wsV RX0 189 RX0 yX0_mutationComingTo wsX0_mutationComingTo) := jGV klX0_189 kX0_mutationComingTo_i kX0_mutationComingTo_v kini_X0 kX0_mutationComingTo_c
theorem gX0_X0_moveParents (c0 : Cond) : GoodIn (c0 :: jW0) (wsV RX0 168 RX0 yX0_moveParents wsX0_moveParents) := jGV klX0_168 kX0_moveParents_i kX0_moveParents_v kini_X0 kX0_moveParents_c
theorem gX0_X0_nearestMatteringAbove (c0 : Cond) : GoodIn (c0 :: jW0) (wsV RX0 198 RX0 yX0_nearestMatteringAbove wsX0_nearestMatteringAbove) := jGV klX0_198 kX0_nearestMatteringAbove_i kX0_nearestMatteringAbove_v kini_X0 kX0_nearestMatteringAbove_c
theorem gX0_X0_moveNodes (c0 : Cond) : GoodIn (c0 :: jW0) (wsV RX0 171 RX0 yX0_moveNodes wsX0_moveNodes) := jGV klX0_171 kX0_moveNodes_i kX0_moveNodes_v kini_X0 kX0_moveNodes_c
theorem gL_X0_became (c0 : Cond) : GoodIn (c0 :: jW0) (wsV RL 125 RX0 yX0_became wsX0_became) := jGV klL_125 kX0_became_i kX0_became_v kini_X0 kX0_became_c
theorem gL_L_node (c0 : Cond) : GoodIn (c0 :: jW0) (va_wsS RL 57 yL_node wsL_node) := jGW klL_57 kL_node_s kini_L kL_node_c
theorem gL_X0_node (c0 : Cond) : GoodIn (c0 :: jW0) (wsV RL 7 RX0 yX0_node wsX0_node) := jGV klL_7 kX0_node_i kX0_node_v kini_X0 kX0_node_c
theorem gL_L_join (c0 : Cond) : GoodIn (c0 :: jW0) (va_wsS RL 67 yL_join wsL_join) := jGW klL_67 kL_join_s kini_L kL_join_c
theorem gL_X0_join (c0 : Cond) : GoodIn (c0 :: jW0) (wsV RL 17 RX0 yX0_join wsX0_join) := jGV klL_17 kX0_join_i kX0_join_v kini_X0 kX0_join_c
theorem gX0_X0_isRun (c0 : Cond) : GoodIn (c0 :: jW0) (va_wsS RX0 69 yX0_isRun wsX0_isRun) := jGS klX0_69 kX0_isRun_s kini_X0 kX0_isRun_c
theorem gX0_X0_isNode (c0 : Cond) : GoodIn (c0 :: jW0) (wsV RX0 73 RX0 yX0_isNode wsX0_isNode) := jGV klX0_73 kX0_isNode_i kX0_isNode_v kini_X0 kX0_isNode_c
theorem gX0_X0_hasParentBeside (c0 : Cond) : GoodIn (c0 :: jW0) (wsV RX0 84 RX0 yX0_hasParentBeside wsX0_hasParentBeside) := jGV klX0_84 kX0_hasParentBeside_i kX0_hasParentBeside_v kini_X0 kX0_hasParentBeside_c
theorem gX0_X0_setParents (c0 : Cond) : GoodIn (c0 :: jW0) (wsV RX0 90 RX0 yX0_setParents wsX0_setParents) := jGV klX0_90 kX0_setParents_i kX0_setParents_v kini_X0 kX0_setParents_c
theorem gL_L_part (c0 : Cond) : GoodIn (c0 :: jW0) (va_wsS RL 71 yL_part wsL_part) := jGW klL_71 kL_part_s kini_L kL_part_c
theorem gL_X0_part (c0 : Cond) : GoodIn (c0 :: jW0) (wsV RL 23 RX0 yX0_part wsX0_part) := jGV klL_23 kX0_part_i kX0_part_v kini_X0 kX0_part_c
theorem gL_L_site (c0 : Cond) : GoodIn (c0 :: jW0) (va_wsS RL 75 yL_site wsL_site) := jGW klL_75 kL_site_s kini_L kL_site_c
theorem gL_X0_site (c0 : Cond) : GoodIn (c0 :: jW0) (wsV RL 27 RX0 yX0_site wsX0_site) := jGV klL_27 kX0_site_i kX0_site_v kini_X0 kX0_site_c
theorem gX0_X0_isPlace (c0 : Cond) : GoodIn (c0 :: jW0) (va_wsS RX0 94 yX0_isPlace wsX0_isPlace) := jGS klX0_94 kX0_isPlace_s kini_X0 kX0_isPlace_c
theorem gX0_X0_hasSite (c0 : Cond) : GoodIn (c0 :: jW0) (wsV RX0 99 RX0 yX0_hasSite wsX0_hasSite) := jGV klX0_99 kX0_hasSite_i kX0_hasSite_v kini_X0 kX0_hasSite_c
theorem gL_L_mutate (c0 : Cond) : GoodIn (c0 :: jW0) (va_wsS RL 79 yL_mutate wsL_mutate) := jGW klL_79 kL_mutate_s kini_L kL_mutate_c
theorem gL_X0_mutate (c0 : Cond) : GoodIn (c0 :: jW0) (wsV RL 31 RX0 yX0_mutate wsX0_mutate) := jGV klL_31 kX0_mutate_i kX0_mutate_v kini_X0 kX0_mutate_c
theorem gX0_X0_isSite (c0 : Cond) : GoodIn (c0 :: jW0) (wsV RX0 106 RX0 yX0_isSite wsX0_isSite) := jGV klX0_106 kX0_isSite_i kX0_isSite_v kini_X0 kX0_isSite_c
theorem gL_L_time (c0 : Cond) : GoodIn (c0 :: jW0) (va_wsS RL 86 yL_time wsL_time) := jGW klL_86 kL_time_s kini_L kL_time_c
theorem gL_X0_time (c0 : Cond) : GoodIn (c0 :: jW0) (wsV RL 34 RX0 yX0_time wsX0_time) := jGV klL_34 kX0_time_i kX0_time_v kini_X0 kX0_time_c
theorem gL_L_edge (c0 : Cond) : GoodIn (c0 :: jW0) (va_wsS RL 90 yL_edge wsL_edge) := jGW klL_90 kL_edge_s kini_L kL_edge_c
theorem gL_X0_edge (c0 : Cond) : GoodIn (c0 :: jW0) (wsV RL 38 RX0 yX0_edge wsX0_edge) := jGV klL_38 kX0_edge_i kX0_edge_v kini_X0 kX0_edge_c
theorem gX0_X0_findEdge (c0 : Cond) : GoodIn (c0 :: jW0) (wsV RX0 125 RX0 yX0_findEdge wsX0_findEdge) := jGV klX0_125 kX0_findEdge_i kX0_findEdge_v kini_X0 kX0_findEdge_c
theorem gX0_X0_nextByTime (c0 : Cond) : GoodIn (c0 :: jW0) (wsV RX0 177 RX0 yX0_nextByTime wsX0_nextByTime) := jGV klX0_177 kX0_nextByTime_i kX0_nextByTime_v kini_X0 kX0_nextByTime_c
theorem gX0_X0_isEarlier (c0 : Cond) : GoodIn (c0 :: jW0) (wsV RX0 180 RX0 yX0_isEarlier wsX0_isEarlier) := jGV klX0_180 kX0_isEarlier_i kX0_isEarlier_v kini_X0 kX0_isEarlier_c
theorem gX0_X0_edgeEnd (c0 : Cond) : GoodIn (c0 :: jW0) (wsV RX0 131 RX0 yX0_edgeEnd wsX0_edgeEnd) := jGV klX0_131 kX0_edgeEnd_i kX0_edgeEnd_v kini_X0 kX0_edgeEnd_c
theorem gL_L_parent (c0 : Cond) : GoodIn (c0 :: jW0) (va_wsS RL 93 yL_parent wsL_parent) := jGW klL_93 kL_parent_s kini_L kL_parent_c
theorem gL_X0_parent (c0 : Cond) : GoodIn (c0 :: jW0) (wsV RL 41 RX0 yX0_parent wsX0_parent) := jGV klL_41 kX0_parent_i kX0_parent_v kini_X0 kX0_parent_c
theorem gL_L_meet (c0 : Cond) : GoodIn (c0 :: jW0) (va_wsS RL 96 yL_meet wsL_meet) := jGW klL_96 kL_meet_s kini_L kL_meet_c
theorem gL_X0_meet (c0 : Cond) : GoodIn (c0 :: jW0) (wsV RL 44 RX0 yX0_meet wsX0_meet) := jGV klL_44 kX0_meet_i kX0_meet_v kini_X0 kX0_meet_c
theorem gX0_X0_isAtOrAbove (c0 : Cond) : GoodIn (c0 :: jW0) (wsV RX0 140 RX0 yX0_isAtOrAbove wsX0_isAtOrAbove) := jGV klX0_140 kX0_isAtOrAbove_i kX0_isAtOrAbove_v kini_X0 kX0_isAtOrAbove_c
theorem gL_L_cut (c0 : Cond) : GoodIn (c0 :: jW0) (va_wsS RL 103 yL_cut wsL_cut) := jGW klL_103 kL_cut_s kini_L kL_cut_c
theorem gL_X0_cut (c0 : Cond) : GoodIn (c0 :: jW0) (wsV RL 47 RX0 yX0_cut wsX0_cut) := jGV klL_47 kX0_cut_i kX0_cut_v kini_X0 kX0_cut_c
theorem gL_L_letter (c0 : Cond) : GoodIn (c0 :: jW0) (va_wsS RL 106 yL_letter wsL_letter) := jGW klL_106 kL_letter_s kini_L kL_letter_c
theorem gL_X0_letter (c0 : Cond) : GoodIn (c0 :: jW0) (wsV RL 50 RX0 yX0_letter wsX0_letter) := jGV klL_50 kX0_letter_i kX0_letter_v kini_X0 kX0_letter_c
theorem gL_X1_init (c0 : Cond) : GoodIn (c0 :: jW0) wsX1_init := jGI kX1_init_c
theorem gL_X1_thrown (c0 : Cond) : GoodIn (c0 :: jW0) (wsV RL 63 RX1 yX1_thrown wsX1_thrown) := jGV klL_63 kX1_thrown_i kX1_thrown_v kini_X1 kX1_thrown_c
theorem gL_X1_node (c0 : Cond) : GoodIn (c0 :: jW0) (wsV RL 62 RX1 yX1_node wsX1_node) := jGV klL_62 kX1_node_i kX1_node_v kini_X1 kX1_node_c
theorem gX1_X1_refused (c0 : Cond) : GoodIn (c0 :: jW0) (wsV RX1 63 RX1 yX1_refused wsX1_refused) := jGV klX1_63 kX1_refused_i kX1_refused_v kini_X1 kX1_refused_c
theorem gL_X1_join (c0 : Cond) : GoodIn (c0 :: jW0) (wsV RL 70 RX1 yX1_join wsX1_join) := jGV klL_70 kX1_join_i kX1_join_v kini_X1 kX1_join_c
theorem gX1_X1_isRun (c0 : Cond) : GoodIn (c0 :: jW0) (va_wsS RX1 67 yX1_isRun wsX1_isRun) := jGS klX1_67 kX1_isRun_s kini_X1 kX1_isRun_c
theorem gX1_X1_isNode (c0 : Cond) : GoodIn (c0 :: jW0) (wsV RX1 70 RX1 yX1_isNode wsX1_isNode) := jGV klX1_70 kX1_isNode_i kX1_isNode_v kini_X1 kX1_isNode_c
theorem gX1_X1_up (c0 : Cond) : GoodIn (c0 :: jW0) (wsV RX1 48 RX1 yX1_up wsX1_up) := jGV klX1_48 kX1_up_i kX1_up_v kini_X1 kX1_up_c
theorem gL_X1_part (c0 : Cond) : GoodIn (c0 :: jW0) (wsV RL 74 RX1 yX1_part wsX1_part) := jGV klL_74 kX1_part_i kX1_part_v kini_X1 kX1_part_c
theorem gL_X1_site (c0 : Cond) : GoodIn (c0 :: jW0) (wsV RL 78 RX1 yX1_site wsX1_site) := jGV klL_78 kX1_site_i kX1_site_v kini_X1 kX1_site_c
theorem gX1_X1_isPlace (c0 : Cond) : GoodIn (c0 :: jW0) (va_wsS RX1 73 yX1_isPlace wsX1_isPlace) := jGS klX1_73 kX1_isPlace_s kini_X1 kX1_isPlace_c
theorem gX1_X1_isTaken (c0 : Cond) : GoodIn (c0 :: jW0) (wsV RX1 76 RX1 yX1_isTaken wsX1_isTaken) := jGV klX1_76 kX1_isTaken_i kX1_isTaken_v kini_X1 kX1_isTaken_c
theorem gL_X1_mutate (c0 : Cond) : GoodIn (c0 :: jW0) (wsV RL 81 RX1 yX1_mutate wsX1_mutate) := jGV klL_81 kX1_mutate_i kX1_mutate_v kini_X1 kX1_mutate_c
theorem gX1_X1_isSite (c0 : Cond) : GoodIn (c0 :: jW0) (wsV RX1 79 RX1 yX1_isSite wsX1_isSite) := jGV klX1_79 kX1_isSite_i kX1_isSite_v kini_X1 kX1_isSite_c
theorem gL_X1_count (c0 : Cond) : GoodIn (c0 :: jW0) (wsV RL 85 RX1 yX1_count wsX1_count) := jGV klL_85 kX1_count_i kX1_count_v kini_X1 kX1_count_c
theorem gX1_X1_samples (c0 : Cond) : GoodIn (c0 :: jW0) (wsV RX1 94 RX1 yX1_samples wsX1_samples) := jGV klX1_94 kX1_samples_i kX1_samples_v kini_X1 kX1_samples_c
theorem gX1_X1_find (c0 : Cond) : GoodIn (c0 :: jW0) (wsV RX1 98 RX1 yX1_find wsX1_find) := jGV klX1_98 kX1_find_i kX1_find_v kini_X1 kX1_find_c
theorem gX1_X1_begins (c0 : Cond) : GoodIn (c0 :: jW0) (wsV RX1 82 RX1 yX1_begins wsX1_begins) := jGV klX1_82 kX1_begins_i kX1_begins_v kini_X1 kX1_begins_c
theorem gL_X1_time (c0 : Cond) : GoodIn (c0 :: jW0) (wsV RL 89 RX1 yX1_time wsX1_time) := jGV klL_89 kX1_time_i kX1_time_v kini_X1 kX1_time_c
theorem gL_X1_edge (c0 : Cond) : GoodIn (c0 :: jW0) (wsV RL 92 RX1 yX1_edge wsX1_edge) := jGV klL_92 kX1_edge_i kX1_edge_v kini_X1 kX1_edge_c
theorem gL_X1_parent (c0 : Cond) : GoodIn (c0 :: jW0) (wsV RL 95 RX1 yX1_parent wsX1_parent) := jGV klL_95 kX1_parent_i kX1_parent_v kini_X1 kX1_parent_c
theorem gL_X1_meet (c0 : Cond) : GoodIn (c0 :: jW0) (wsV RL 98 RX1 yX1_meet wsX1_meet) := jGV klL_98 kX1_meet_i kX1_meet_v kini_X1 kX1_meet_c
theorem gX1_X1_holds (c0 : Cond) : GoodIn (c0 :: jW0) (wsV RX1 52 RX1 yX1_holds wsX1_holds) := jGV klX1_52 kX1_holds_i kX1_holds_v kini_X1 kX1_holds_c
theorem gL_X1_trees (c0 : Cond) : GoodIn (c0 :: jW0) (wsV RL 102 RX1 yX1_trees wsX1_trees) := jGV klL_102 kX1_trees_i kX1_trees_v kini_X1 kX1_trees_c
theorem gX1_X1_differs (c0 : Cond) : GoodIn (c0 :: jW0) (wsV RX1 105 RX1 yX1_differs wsX1_differs) := jGV klX1_105 kX1_differs_i kX1_differs_v kini_X1 kX1_differs_c
theorem gL_X1_cut (c0 : Cond) : GoodIn (c0 :: jW0) (wsV RL 105 RX1 yX1_cut wsX1_cut) := jGV klL_105 kX1_cut_i kX1_cut_v kini_X1 kX1_cut_c
theorem gX1_X1_trees (c0 : Cond) : GoodIn (c0 :: jW0) (wsV RX1 108 RX1 yX1_trees wsX1_trees) := jGV klX1_108 kX1_trees_i kX1_trees_v kini_X1 kX1_trees_c
theorem gL_X1_letter (c0 : Cond) : GoodIn (c0 :: jW0) (wsV RL 108 RX1 yX1_letter wsX1_letter) := jGV klL_108 kX1_letter_i kX1_letter_v kini_X1 kX1_letter_c
theorem gX1_X1_letterAt (c0 : Cond) : GoodIn (c0 :: jW0) (wsV RX1 111 RX1 yX1_letterAt wsX1_letterAt) := jGV klX1_111 kX1_letterAt_i kX1_letterAt_v kini_X1 kX1_letterAt_c
theorem gL_X1_differing (c0 : Cond) : GoodIn (c0 :: jW0) (wsV RL 112 RX1 yX1_differing wsX1_differing) := jGV klL_112 kX1_differing_i kX1_differing_v kini_X1 kX1_differing_c
theorem gL_X1_spectrum (c0 : Cond) : GoodIn (c0 :: jW0) (wsV RL 116 RX1 yX1_spectrum wsX1_spectrum) := jGV klL_116 kX1_spectrum_i kX1_spectrum_v kini_X1 kX1_spectrum_c
theorem gL_X1_area (c0 : Cond) : GoodIn (c0 :: jW0) (wsV RL 120 RX1 yX1_area wsX1_area) := jGV klL_120 kX1_area_i kX1_area_v kini_X1 kX1_area_c
theorem gX1_X1_under (c0 : Cond) : GoodIn (c0 :: jW0) (wsV RX1 56 RX1 yX1_under wsX1_under) := jGV klX1_56 kX1_under_i kX1_under_v kini_X1 kX1_under_c
theorem gL_X1_simplify (c0 : Cond) : GoodIn (c0 :: jW0) (wsV RL 124 RX1 yX1_simplify wsX1_simplify) := jGV klL_124 kX1_simplify_i kX1_simplify_v kini_X1 kX1_simplify_c
theorem gX1_X1_stays (c0 : Cond) : GoodIn (c0 :: jW0) (wsV RX1 117 RX1 yX1_stays wsX1_stays) := jGV klX1_117 kX1_stays_i kX1_stays_v kini_X1 kX1_stays_c
theorem gX1_X1_isFork (c0 : Cond) : GoodIn (c0 :: jW0) (wsV RX1 59 RX1 yX1_isFork wsX1_isFork) := jGV klX1_59 kX1_isFork_i kX1_isFork_v kini_X1 kX1_isFork_c
theorem gX1_X1_matters (c0 : Cond) : GoodIn (c0 :: jW0) (wsV RX1 114 RX1 yX1_matters wsX1_matters) := jGV klX1_114 kX1_matters_i kX1_matters_v kini_X1 kX1_matters_c
theorem gX1_X1_nearest (c0 : Cond) : GoodIn (c0 :: jW0) (wsV RX1 120 RX1 yX1_nearest wsX1_nearest) := jGV klX1_120 kX1_nearest_i kX1_nearest_v kini_X1 kX1_nearest_c
theorem gX1_X1_comes (c0 : Cond) : GoodIn (c0 :: jW0) (wsV RX1 123 RX1 yX1_comes wsX1_comes) := jGV klX1_123 kX1_comes_i kX1_comes_v kini_X1 kX1_comes_c
theorem gL_X1_became (c0 : Cond) : GoodIn (c0 :: jW0) (wsV RL 128 RX1 yX1_became wsX1_became) := jGV klL_128 kX1_became_i kX1_became_v kini_X1 kX1_became_c
end
section
theorem dX0_init_0 : decode cX0_init 0 = .ok (.aload_n 0, 1) := by decide +kernel
theorem dX0_init_1 : decode cX0_init 1 = .ok (.invokespecial 1, 3) := by decide +kernel
theorem dX0_init_4 : decode cX0_init 4 = .ok (.aload_n 0, 1) := by decide +kernel
theorem dX0_init_5 : decode cX0_init 5 = .ok (.iconst 0, 1) := by decide +kernel
theorem dX0_init_6 : decode cX0_init 6 = .ok (.putfield 7, 3) := by decide +kernel
theorem dX0_init_9 : decode cX0_init 9 = .ok (.aload_n 0, 1) := by decide +kernel
theorem dX0_init_10 : decode cX0_init 10 = .ok (.bipush 14, 2) := by decide +kernel
theorem dX0_init_12 : decode cX0_init 12 = .ok (.newarray .int, 2) := by decide +kernel
theorem dX0_init_14 : decode cX0_init 14 = .ok (.putfield 13, 3) := by decide +kernel
theorem dX0_init_17 : decode cX0_init 17 = .ok (.aload_n 0, 1) := by decide +kernel
theorem dX0_init_18 : decode cX0_init 18 = .ok (.bipush 14, 2) := by decide +kernel
theorem dX0_init_20 : decode cX0_init 20 = .ok (.newarray .boolean, 2) := by decide +kernel
theorem dX0_init_22 : decode cX0_init 22 = .ok (.putfield 17, 3) := by decide +kernel
theorem dX0_init_25 : decode cX0_init 25 = .ok (.aload_n 0, 1) := by decide +kernel
theorem dX0_init_26 : decode cX0_init 26 = .ok (.sipush 840, 3) := by decide +kernel
theorem dX0_init_29 : decode cX0_init 29 = .ok (.newarray .int, 2) := by decide +kernel
theorem dX0_init_31 : decode cX0_init 31 = .ok (.putfield 21, 3) := by decide +kernel
theorem dX0_init_34 : decode cX0_init 34 = .ok (.aload_n 0, 1) := by decide +kernel
theorem dX0_init_35 : decode cX0_init 35 = .ok (.iconst 0, 1) := by decide +kernel
theorem dX0_init_36 : decode cX0_init 36 = .ok (.putfield 24, 3) := by decide +kernel
theorem dX0_init_39 : decode cX0_init 39 = .ok (.aload_n 0, 1) := by decide +kernel
theorem dX0_init_40 : decode cX0_init 40 = .ok (.bipush 8, 2) := by decide +kernel
theorem dX0_init_42 : decode cX0_init 42 = .ok (.newarray .int, 2) := by decide +kernel
theorem dX0_init_44 : decode cX0_init 44 = .ok (.putfield 27, 3) := by decide +kernel
theorem dX0_init_47 : decode cX0_init 47 = .ok (.aload_n 0, 1) := by decide +kernel
theorem dX0_init_48 : decode cX0_init 48 = .ok (.bipush 8, 2) := by decide +kernel
theorem dX0_init_50 : decode cX0_init 50 = .ok (.newarray .int, 2) := by decide +kernel
theorem dX0_init_52 : decode cX0_init 52 = .ok (.putfield 30, 3) := by decide +kernel
theorem dX0_init_55 : decode cX0_init 55 = .ok (.aload_n 0, 1) := by decide +kernel
theorem dX0_init_56 : decode cX0_init 56 = .ok (.bipush 112, 2) := by decide +kernel
theorem dX0_init_58 : decode cX0_init 58 = .ok (.newarray .int, 2) := by decide +kernel
theorem dX0_init_60 : decode cX0_init 60 = .ok (.putfield 33, 3) := by decide +kernel
theorem dX0_init_63 : decode cX0_init 63 = .ok (.aload_n 0, 1) := by decide +kernel
theorem dX0_init_64 : decode cX0_init 64 = .ok (.bipush 14, 2) := by decide +kernel
theorem dX0_init_66 : decode cX0_init 66 = .ok (.newarray .int, 2) := by decide +kernel
theorem dX0_init_68 : decode cX0_init 68 = .ok (.putfield 36, 3) := by decide +kernel
theorem dX0_init_71 : decode cX0_init 71 = .ok (.aload_n 0, 1) := by decide +kernel
theorem dX0_init_72 : decode cX0_init 72 = .ok (.bipush 14, 2) := by decide +kernel
theorem dX0_init_74 : decode cX0_init 74 = .ok (.newarray .int, 2) := by decide +kernel
theorem dX0_init_76 : decode cX0_init 76 = .ok (.putfield 39, 3) := by decide +kernel
theorem dX0_init_79 : decode cX0_init 79 = .ok (.aload_n 0, 1) := by decide +kernel
theorem dX0_init_80 : decode cX0_init 80 = .ok (.bipush 60, 2) := by decide +kernel
theorem dX0_init_82 : decode cX0_init 82 = .ok (.newarray .int, 2) := by decide +kernel
theorem dX0_init_84 : decode cX0_init 84 = .ok (.putfield 42, 3) := by decide +kernel
theorem dX0_init_87 : decode cX0_init 87 = .ok (.aload_n 0, 1) := by decide +kernel
theorem dX0_init_88 : decode cX0_init 88 = .ok (.iconst 4, 1) := by decide +kernel
theorem dX0_init_89 : decode cX0_init 89 = .ok (.newarray .int, 2) := by decide +kernel
theorem dX0_init_91 : decode cX0_init 91 = .ok (.putfield 45, 3) := by decide +kernel
theorem dX0_init_94 : decode cX0_init 94 = .ok (.aload_n 0, 1) := by decide +kernel
theorem dX0_init_95 : decode cX0_init 95 = .ok (.bipush 14, 2) := by decide +kernel
theorem dX0_init_97 : decode cX0_init 97 = .ok (.newarray .int, 2) := by decide +kernel
theorem dX0_init_99 : decode cX0_init 99 = .ok (.putfield 48, 3) := by decide +kernel
theorem dX0_init_102 : decode cX0_init 102 = .ok (.aload_n 0, 1) := by decide +kernel
theorem dX0_init_103 : decode cX0_init 103 = .ok (.getfield 21, 3) := by decide +kernel
theorem dX0_init_106 : decode cX0_init 106 = .ok (.iconst (-1), 1) := by decide +kernel
theorem dX0_init_107 : decode cX0_init 107 = .ok (.invokestatic 51, 3) := by decide +kernel
theorem dX0_init_110 : decode cX0_init 110 = .ok (.aload_n 0, 1) := by decide +kernel
theorem dX0_init_111 : decode cX0_init 111 = .ok (.getfield 33, 3) := by decide +kernel
theorem dX0_init_114 : decode cX0_init 114 = .ok (.iconst (-1), 1) := by decide +kernel
theorem dX0_init_115 : decode cX0_init 115 = .ok (.invokestatic 51, 3) := by decide +kernel
theorem dX0_init_118 : decode cX0_init 118 = .ok (.aload_n 0, 1) := by decide +kernel
theorem dX0_init_119 : decode cX0_init 119 = .ok (.getfield 36, 3) := by decide +kernel
theorem dX0_init_122 : decode cX0_init 122 = .ok (.iconst (-1), 1) := by decide +kernel
theorem dX0_init_123 : decode cX0_init 123 = .ok (.invokestatic 51, 3) := by decide +kernel
theorem dX0_init_126 : decode cX0_init 126 = .ok (.return_, 1) := by decide +kernel
theorem dX0_count_0 : decode cX0_count 0 = .ok (.iload_n 1, 1) := by decide +kernel
theorem dX0_count_1 : decode cX0_count 1 = .ok (.tableswitch 60 0 4 #[35, 40, 45, 50, 55], 35) := by decide +kernel
theorem dX0_count_36 : decode cX0_count 36 = .ok (.aload_n 0, 1) := by decide +kernel
theorem dX0_count_37 : decode cX0_count 37 = .ok (.getfield 7, 3) := by decide +kernel
theorem dX0_count_40 : decode cX0_count 40 = .ok (.ireturn, 1) := by decide +kernel
theorem dX0_count_41 : decode cX0_count 41 = .ok (.aload_n 0, 1) := by decide +kernel
theorem dX0_count_42 : decode cX0_count 42 = .ok (.invokevirtual 113, 3) := by decide +kernel
theorem dX0_count_45 : decode cX0_count 45 = .ok (.ireturn, 1) := by decide +kernel
theorem dX0_count_46 : decode cX0_count 46 = .ok (.aload_n 0, 1) := by decide +kernel
theorem dX0_count_47 : decode cX0_count 47 = .ok (.invokevirtual 117, 3) := by decide +kernel
theorem dX0_count_50 : decode cX0_count 50 = .ok (.ireturn, 1) := by decide +kernel
theorem dX0_count_51 : decode cX0_count 51 = .ok (.aload_n 0, 1) := by decide +kernel
theorem dX0_count_52 : decode cX0_count 52 = .ok (.getfield 24, 3) := by decide +kernel
theorem dX0_count_55 : decode cX0_count 55 = .ok (.ireturn, 1) := by decide +kernel
theorem dX0_count_56 : decode cX0_count 56 = .ok (.aload_n 0, 1) := by decide +kernel
theorem dX0_count_57 : decode cX0_count 57 = .ok (.invokevirtual 120, 3) := by decide +kernel
theorem dX0_count_60 : decode cX0_count 60 = .ok (.ireturn, 1) := by decide +kernel
theorem dX0_count_61 : decode cX0_count 61 = .ok (.iconst (-1), 1) := by decide +kernel
theorem dX0_count_62 : decode cX0_count 62 = .ok (.ireturn, 1) := by decide +kernel
theorem dX0_countSamples_0 : decode cX0_countSamples 0 = .ok (.iconst 0, 1) := by decide +kernel
theorem dX0_countSamples_1 : decode cX0_countSamples 1 = .ok (.istore_n 1, 1) := by decide +kernel
theorem dX0_countSamples_2 : decode cX0_countSamples 2 = .ok (.iconst 0, 1) := by decide +kernel
theorem dX0_countSamples_3 : decode cX0_countSamples 3 = .ok (.istore_n 2, 1) := by decide +kernel
theorem dX0_countSamples_4 : decode cX0_countSamples 4 = .ok (.iload_n 2, 1) := by decide +kernel
theorem dX0_countSamples_5 : decode cX0_countSamples 5 = .ok (.aload_n 0, 1) := by decide +kernel
theorem dX0_countSamples_6 : decode cX0_countSamples 6 = .ok (.getfield 7, 3) := by decide +kernel
theorem dX0_countSamples_9 : decode cX0_countSamples 9 = .ok (.if_icmp .ge 21, 3) := by decide +kernel
theorem dX0_countSamples_12 : decode cX0_countSamples 12 = .ok (.aload_n 0, 1) := by decide +kernel
theorem dX0_countSamples_13 : decode cX0_countSamples 13 = .ok (.getfield 17, 3) := by decide +kernel
theorem dX0_countSamples_16 : decode cX0_countSamples 16 = .ok (.iload_n 2, 1) := by decide +kernel
theorem dX0_countSamples_17 : decode cX0_countSamples 17 = .ok (.baload, 1) := by decide +kernel
theorem dX0_countSamples_18 : decode cX0_countSamples 18 = .ok (.ifCond .eq 6, 3) := by decide +kernel
theorem dX0_countSamples_21 : decode cX0_countSamples 21 = .ok (.iinc 1 1, 3) := by decide +kernel
theorem dX0_countSamples_24 : decode cX0_countSamples 24 = .ok (.iinc 2 1, 3) := by decide +kernel
theorem dX0_countSamples_27 : decode cX0_countSamples 27 = .ok (.goto (-23), 3) := by decide +kernel
theorem dX0_countSamples_30 : decode cX0_countSamples 30 = .ok (.iload_n 1, 1) := by decide +kernel
theorem dX0_countSamples_31 : decode cX0_countSamples 31 = .ok (.ireturn, 1) := by decide +kernel
theorem dX0_countEdges_0 : decode cX0_countEdges 0 = .ok (.iconst 0, 1) := by decide +kernel
theorem dX0_countEdges_1 : decode cX0_countEdges 1 = .ok (.istore_n 1, 1) := by decide +kernel
theorem dX0_countEdges_2 : decode cX0_countEdges 2 = .ok (.iconst 0, 1) := by decide +kernel
theorem dX0_countEdges_3 : decode cX0_countEdges 3 = .ok (.istore_n 2, 1) := by decide +kernel
theorem dX0_countEdges_4 : decode cX0_countEdges 4 = .ok (.iload_n 2, 1) := by decide +kernel
theorem dX0_countEdges_5 : decode cX0_countEdges 5 = .ok (.bipush 60, 2) := by decide +kernel
theorem dX0_countEdges_7 : decode cX0_countEdges 7 = .ok (.if_icmp .ge 37, 3) := by decide +kernel
theorem dX0_countEdges_10 : decode cX0_countEdges 10 = .ok (.iconst 0, 1) := by decide +kernel
theorem dX0_countEdges_11 : decode cX0_countEdges 11 = .ok (.istore_n 3, 1) := by decide +kernel
theorem dX0_countEdges_12 : decode cX0_countEdges 12 = .ok (.iload_n 3, 1) := by decide +kernel
theorem dX0_countEdges_13 : decode cX0_countEdges 13 = .ok (.aload_n 0, 1) := by decide +kernel
theorem dX0_countEdges_14 : decode cX0_countEdges 14 = .ok (.getfield 7, 3) := by decide +kernel
theorem dX0_countEdges_17 : decode cX0_countEdges 17 = .ok (.if_icmp .ge 21, 3) := by decide +kernel
theorem dX0_countEdges_20 : decode cX0_countEdges 20 = .ok (.aload_n 0, 1) := by decide +kernel
theorem dX0_countEdges_21 : decode cX0_countEdges 21 = .ok (.iload_n 2, 1) := by decide +kernel
theorem dX0_countEdges_22 : decode cX0_countEdges 22 = .ok (.iload_n 3, 1) := by decide +kernel
theorem dX0_countEdges_23 : decode cX0_countEdges 23 = .ok (.invokevirtual 174, 3) := by decide +kernel
theorem dX0_countEdges_26 : decode cX0_countEdges 26 = .ok (.ifCond .eq 6, 3) := by decide +kernel
theorem dX0_countEdges_29 : decode cX0_countEdges 29 = .ok (.iinc 1 1, 3) := by decide +kernel
theorem dX0_countEdges_32 : decode cX0_countEdges 32 = .ok (.iinc 3 1, 3) := by decide +kernel
theorem dX0_countEdges_35 : decode cX0_countEdges 35 = .ok (.goto (-23), 3) := by decide +kernel
theorem dX0_countEdges_38 : decode cX0_countEdges 38 = .ok (.iinc 2 1, 3) := by decide +kernel
theorem dX0_countEdges_41 : decode cX0_countEdges 41 = .ok (.goto (-37), 3) := by decide +kernel
theorem dX0_countEdges_44 : decode cX0_countEdges 44 = .ok (.iload_n 1, 1) := by decide +kernel
theorem dX0_countEdges_45 : decode cX0_countEdges 45 = .ok (.ireturn, 1) := by decide +kernel
theorem dX0_startsEdge_0 : decode cX0_startsEdge 0 = .ok (.aload_n 0, 1) := by decide +kernel
theorem dX0_startsEdge_1 : decode cX0_startsEdge 1 = .ok (.iload_n 1, 1) := by decide +kernel
theorem dX0_startsEdge_2 : decode cX0_startsEdge 2 = .ok (.iload_n 2, 1) := by decide +kernel
theorem dX0_startsEdge_3 : decode cX0_startsEdge 3 = .ok (.invokevirtual 135, 3) := by decide +kernel
theorem dX0_startsEdge_6 : decode cX0_startsEdge 6 = .ok (.istore_n 3, 1) := by decide +kernel
theorem dX0_startsEdge_7 : decode cX0_startsEdge 7 = .ok (.iload_n 3, 1) := by decide +kernel
theorem dX0_startsEdge_8 : decode cX0_startsEdge 8 = .ok (.iconst (-1), 1) := by decide +kernel
theorem dX0_startsEdge_9 : decode cX0_startsEdge 9 = .ok (.if_icmp .eq 23, 3) := by decide +kernel
theorem dX0_startsEdge_12 : decode cX0_startsEdge 12 = .ok (.iload_n 1, 1) := by decide +kernel
theorem dX0_startsEdge_13 : decode cX0_startsEdge 13 = .ok (.ifCond .eq 15, 3) := by decide +kernel
theorem dX0_startsEdge_16 : decode cX0_startsEdge 16 = .ok (.aload_n 0, 1) := by decide +kernel
theorem dX0_startsEdge_17 : decode cX0_startsEdge 17 = .ok (.iload_n 1, 1) := by decide +kernel
theorem dX0_startsEdge_18 : decode cX0_startsEdge 18 = .ok (.iconst 1, 1) := by decide +kernel
theorem dX0_startsEdge_19 : decode cX0_startsEdge 19 = .ok (.isub, 1) := by decide +kernel
theorem dX0_startsEdge_20 : decode cX0_startsEdge 20 = .ok (.iload_n 2, 1) := by decide +kernel
theorem dX0_startsEdge_21 : decode cX0_startsEdge 21 = .ok (.invokevirtual 135, 3) := by decide +kernel
theorem dX0_startsEdge_24 : decode cX0_startsEdge 24 = .ok (.iload_n 3, 1) := by decide +kernel
theorem dX0_startsEdge_25 : decode cX0_startsEdge 25 = .ok (.if_icmp .eq 7, 3) := by decide +kernel
theorem dX0_startsEdge_28 : decode cX0_startsEdge 28 = .ok (.iconst 1, 1) := by decide +kernel
theorem dX0_startsEdge_29 : decode cX0_startsEdge 29 = .ok (.goto 4, 3) := by decide +kernel
theorem dX0_startsEdge_32 : decode cX0_startsEdge 32 = .ok (.iconst 0, 1) := by decide +kernel
theorem dX0_startsEdge_33 : decode cX0_startsEdge 33 = .ok (.ireturn, 1) := by decide +kernel
theorem dX0_parentAt_0 : decode cX0_parentAt 0 = .ok (.aload_n 0, 1) := by decide +kernel
theorem dX0_parentAt_1 : decode cX0_parentAt 1 = .ok (.getfield 21, 3) := by decide +kernel
theorem dX0_parentAt_4 : decode cX0_parentAt 4 = .ok (.iload_n 1, 1) := by decide +kernel
theorem dX0_parentAt_5 : decode cX0_parentAt 5 = .ok (.bipush 14, 2) := by decide +kernel
theorem dX0_parentAt_7 : decode cX0_parentAt 7 = .ok (.imul, 1) := by decide +kernel
theorem dX0_parentAt_8 : decode cX0_parentAt 8 = .ok (.iload_n 2, 1) := by decide +kernel
theorem dX0_parentAt_9 : decode cX0_parentAt 9 = .ok (.iadd, 1) := by decide +kernel
theorem dX0_parentAt_10 : decode cX0_parentAt 10 = .ok (.iaload, 1) := by decide +kernel
theorem dX0_parentAt_11 : decode cX0_parentAt 11 = .ok (.ireturn, 1) := by decide +kernel
theorem dX0_countMutations_0 : decode cX0_countMutations 0 = .ok (.iconst 0, 1) := by decide +kernel
theorem dX0_countMutations_1 : decode cX0_countMutations 1 = .ok (.istore_n 1, 1) := by decide +kernel
theorem dX0_countMutations_2 : decode cX0_countMutations 2 = .ok (.iconst 0, 1) := by decide +kernel
theorem dX0_countMutations_3 : decode cX0_countMutations 3 = .ok (.istore_n 2, 1) := by decide +kernel
theorem dX0_countMutations_4 : decode cX0_countMutations 4 = .ok (.iload_n 2, 1) := by decide +kernel
theorem dX0_countMutations_5 : decode cX0_countMutations 5 = .ok (.aload_n 0, 1) := by decide +kernel
theorem dX0_countMutations_6 : decode cX0_countMutations 6 = .ok (.getfield 33, 3) := by decide +kernel
theorem dX0_countMutations_9 : decode cX0_countMutations 9 = .ok (.arraylength, 1) := by decide +kernel
theorem dX0_countMutations_10 : decode cX0_countMutations 10 = .ok (.if_icmp .ge 22, 3) := by decide +kernel
theorem dX0_countMutations_13 : decode cX0_countMutations 13 = .ok (.aload_n 0, 1) := by decide +kernel
theorem dX0_countMutations_14 : decode cX0_countMutations 14 = .ok (.getfield 33, 3) := by decide +kernel
theorem dX0_countMutations_17 : decode cX0_countMutations 17 = .ok (.iload_n 2, 1) := by decide +kernel
theorem dX0_countMutations_18 : decode cX0_countMutations 18 = .ok (.iaload, 1) := by decide +kernel
theorem dX0_countMutations_19 : decode cX0_countMutations 19 = .ok (.iconst (-1), 1) := by decide +kernel
theorem dX0_countMutations_20 : decode cX0_countMutations 20 = .ok (.if_icmp .eq 6, 3) := by decide +kernel
theorem dX0_countMutations_23 : decode cX0_countMutations 23 = .ok (.iinc 1 1, 3) := by decide +kernel
theorem dX0_countMutations_26 : decode cX0_countMutations 26 = .ok (.iinc 2 1, 3) := by decide +kernel
theorem dX0_countMutations_29 : decode cX0_countMutations 29 = .ok (.goto (-25), 3) := by decide +kernel
theorem dX0_countMutations_32 : decode cX0_countMutations 32 = .ok (.iload_n 1, 1) := by decide +kernel
theorem dX0_countMutations_33 : decode cX0_countMutations 33 = .ok (.ireturn, 1) := by decide +kernel
theorem dX0_trees_0 : decode cX0_trees 0 = .ok (.iconst 0, 1) := by decide +kernel
theorem dX0_trees_1 : decode cX0_trees 1 = .ok (.istore_n 1, 1) := by decide +kernel
theorem dX0_trees_2 : decode cX0_trees 2 = .ok (.iconst 0, 1) := by decide +kernel
theorem dX0_trees_3 : decode cX0_trees 3 = .ok (.istore_n 2, 1) := by decide +kernel
theorem dX0_trees_4 : decode cX0_trees 4 = .ok (.iload_n 2, 1) := by decide +kernel
theorem dX0_trees_5 : decode cX0_trees 5 = .ok (.bipush 60, 2) := by decide +kernel
theorem dX0_trees_7 : decode cX0_trees 7 = .ok (.if_icmp .ge 20, 3) := by decide +kernel
theorem dX0_trees_10 : decode cX0_trees 10 = .ok (.aload_n 0, 1) := by decide +kernel
theorem dX0_trees_11 : decode cX0_trees 11 = .ok (.iload_n 2, 1) := by decide +kernel
theorem dX0_trees_12 : decode cX0_trees 12 = .ok (.invokevirtual 144, 3) := by decide +kernel
theorem dX0_trees_15 : decode cX0_trees 15 = .ok (.ifCond .eq 6, 3) := by decide +kernel
theorem dX0_trees_18 : decode cX0_trees 18 = .ok (.iinc 1 1, 3) := by decide +kernel
theorem dX0_trees_21 : decode cX0_trees 21 = .ok (.iinc 2 1, 3) := by decide +kernel
theorem dX0_trees_24 : decode cX0_trees 24 = .ok (.goto (-20), 3) := by decide +kernel
theorem dX0_trees_27 : decode cX0_trees 27 = .ok (.iload_n 1, 1) := by decide +kernel
theorem dX0_trees_28 : decode cX0_trees 28 = .ok (.ireturn, 1) := by decide +kernel
theorem dX0_startsRun_0 : decode cX0_startsRun 0 = .ok (.iload_n 1, 1) := by decide +kernel
theorem dX0_startsRun_1 : decode cX0_startsRun 1 = .ok (.ifCond .ne 5, 3) := by decide +kernel
theorem dX0_startsRun_4 : decode cX0_startsRun 4 = .ok (.iconst 1, 1) := by decide +kernel
theorem dX0_startsRun_5 : decode cX0_startsRun 5 = .ok (.ireturn, 1) := by decide +kernel
theorem dX0_startsRun_6 : decode cX0_startsRun 6 = .ok (.iconst 0, 1) := by decide +kernel
theorem dX0_startsRun_7 : decode cX0_startsRun 7 = .ok (.istore_n 2, 1) := by decide +kernel
theorem dX0_startsRun_8 : decode cX0_startsRun 8 = .ok (.iload_n 2, 1) := by decide +kernel
theorem dX0_startsRun_9 : decode cX0_startsRun 9 = .ok (.aload_n 0, 1) := by decide +kernel
theorem dX0_startsRun_10 : decode cX0_startsRun 10 = .ok (.getfield 7, 3) := by decide +kernel
theorem dX0_startsRun_13 : decode cX0_startsRun 13 = .ok (.if_icmp .ge 28, 3) := by decide +kernel
theorem dX0_startsRun_16 : decode cX0_startsRun 16 = .ok (.aload_n 0, 1) := by decide +kernel
theorem dX0_startsRun_17 : decode cX0_startsRun 17 = .ok (.iload_n 1, 1) := by decide +kernel
theorem dX0_startsRun_18 : decode cX0_startsRun 18 = .ok (.iload_n 2, 1) := by decide +kernel
theorem dX0_startsRun_19 : decode cX0_startsRun 19 = .ok (.invokevirtual 135, 3) := by decide +kernel
theorem dX0_startsRun_22 : decode cX0_startsRun 22 = .ok (.aload_n 0, 1) := by decide +kernel
theorem dX0_startsRun_23 : decode cX0_startsRun 23 = .ok (.iload_n 1, 1) := by decide +kernel
theorem dX0_startsRun_24 : decode cX0_startsRun 24 = .ok (.iconst 1, 1) := by decide +kernel
theorem dX0_startsRun_25 : decode cX0_startsRun 25 = .ok (.isub, 1) := by decide +kernel
theorem dX0_startsRun_26 : decode cX0_startsRun 26 = .ok (.iload_n 2, 1) := by decide +kernel
theorem dX0_startsRun_27 : decode cX0_startsRun 27 = .ok (.invokevirtual 135, 3) := by decide +kernel
theorem dX0_startsRun_30 : decode cX0_startsRun 30 = .ok (.if_icmp .eq 5, 3) := by decide +kernel
theorem dX0_startsRun_33 : decode cX0_startsRun 33 = .ok (.iconst 1, 1) := by decide +kernel
theorem dX0_startsRun_34 : decode cX0_startsRun 34 = .ok (.ireturn, 1) := by decide +kernel
theorem dX0_startsRun_35 : decode cX0_startsRun 35 = .ok (.iinc 2 1, 3) := by decide +kernel
theorem dX0_startsRun_38 : decode cX0_startsRun 38 = .ok (.goto (-30), 3) := by decide +kernel
theorem dX0_startsRun_41 : decode cX0_startsRun 41 = .ok (.iconst 0, 1) := by decide +kernel
theorem dX0_startsRun_42 : decode cX0_startsRun 42 = .ok (.ireturn, 1) := by decide +kernel
theorem dX0_differing_0 : decode cX0_differing 0 = .ok (.iconst 0, 1) := by decide +kernel
theorem dX0_differing_1 : decode cX0_differing 1 = .ok (.istore_n 1, 1) := by decide +kernel
theorem dX0_differing_2 : decode cX0_differing 2 = .ok (.iconst 0, 1) := by decide +kernel
theorem dX0_differing_3 : decode cX0_differing 3 = .ok (.istore_n 2, 1) := by decide +kernel
theorem dX0_differing_4 : decode cX0_differing 4 = .ok (.iload_n 2, 1) := by decide +kernel
theorem dX0_differing_5 : decode cX0_differing 5 = .ok (.aload_n 0, 1) := by decide +kernel
theorem dX0_differing_6 : decode cX0_differing 6 = .ok (.getfield 24, 3) := by decide +kernel
theorem dX0_differing_9 : decode cX0_differing 9 = .ok (.if_icmp .ge 53, 3) := by decide +kernel
theorem dX0_differing_12 : decode cX0_differing 12 = .ok (.aload_n 0, 1) := by decide +kernel
theorem dX0_differing_13 : decode cX0_differing 13 = .ok (.iload_n 2, 1) := by decide +kernel
theorem dX0_differing_14 : decode cX0_differing 14 = .ok (.invokevirtual 152, 3) := by decide +kernel
theorem dX0_differing_17 : decode cX0_differing 17 = .ok (.iconst 0, 1) := by decide +kernel
theorem dX0_differing_18 : decode cX0_differing 18 = .ok (.istore_n 3, 1) := by decide +kernel
theorem dX0_differing_19 : decode cX0_differing 19 = .ok (.iconst 0, 1) := by decide +kernel
theorem dX0_differing_20 : decode cX0_differing 20 = .ok (.istore 4, 2) := by decide +kernel
theorem dX0_differing_22 : decode cX0_differing 22 = .ok (.iload 4, 2) := by decide +kernel
theorem dX0_differing_24 : decode cX0_differing 24 = .ok (.iconst 4, 1) := by decide +kernel
theorem dX0_differing_25 : decode cX0_differing 25 = .ok (.if_icmp .ge 31, 3) := by decide +kernel
theorem dX0_differing_28 : decode cX0_differing 28 = .ok (.iload_n 1, 1) := by decide +kernel
theorem dX0_differing_29 : decode cX0_differing 29 = .ok (.iload_n 3, 1) := by decide +kernel
theorem dX0_differing_30 : decode cX0_differing 30 = .ok (.aload_n 0, 1) := by decide +kernel
theorem dX0_differing_31 : decode cX0_differing 31 = .ok (.getfield 45, 3) := by decide +kernel
theorem dX0_differing_34 : decode cX0_differing 34 = .ok (.iload 4, 2) := by decide +kernel
theorem dX0_differing_36 : decode cX0_differing 36 = .ok (.iaload, 1) := by decide +kernel
theorem dX0_differing_37 : decode cX0_differing 37 = .ok (.imul, 1) := by decide +kernel
theorem dX0_differing_38 : decode cX0_differing 38 = .ok (.iadd, 1) := by decide +kernel
theorem dX0_differing_39 : decode cX0_differing 39 = .ok (.istore_n 1, 1) := by decide +kernel
theorem dX0_differing_40 : decode cX0_differing 40 = .ok (.iload_n 3, 1) := by decide +kernel
theorem dX0_differing_41 : decode cX0_differing 41 = .ok (.aload_n 0, 1) := by decide +kernel
theorem dX0_differing_42 : decode cX0_differing 42 = .ok (.getfield 45, 3) := by decide +kernel
theorem dX0_differing_45 : decode cX0_differing 45 = .ok (.iload 4, 2) := by decide +kernel
theorem dX0_differing_47 : decode cX0_differing 47 = .ok (.iaload, 1) := by decide +kernel
theorem dX0_differing_48 : decode cX0_differing 48 = .ok (.iadd, 1) := by decide +kernel
theorem dX0_differing_49 : decode cX0_differing 49 = .ok (.istore_n 3, 1) := by decide +kernel
theorem dX0_differing_50 : decode cX0_differing 50 = .ok (.iinc 4 1, 3) := by decide +kernel
theorem dX0_differing_53 : decode cX0_differing 53 = .ok (.goto (-31), 3) := by decide +kernel
theorem dX0_differing_56 : decode cX0_differing 56 = .ok (.iinc 2 1, 3) := by decide +kernel
theorem dX0_differing_59 : decode cX0_differing 59 = .ok (.goto (-55), 3) := by decide +kernel
theorem dX0_differing_62 : decode cX0_differing 62 = .ok (.iload_n 1, 1) := by decide +kernel
theorem dX0_differing_63 : decode cX0_differing 63 = .ok (.ireturn, 1) := by decide +kernel
theorem dX0_tallyLetters_0 : decode cX0_tallyLetters 0 = .ok (.aload_n 0, 1) := by decide +kernel
theorem dX0_tallyLetters_1 : decode cX0_tallyLetters 1 = .ok (.getfield 45, 3) := by decide +kernel
theorem dX0_tallyLetters_4 : decode cX0_tallyLetters 4 = .ok (.iconst 0, 1) := by decide +kernel
theorem dX0_tallyLetters_5 : decode cX0_tallyLetters 5 = .ok (.invokestatic 51, 3) := by decide +kernel
theorem dX0_tallyLetters_8 : decode cX0_tallyLetters 8 = .ok (.iconst 0, 1) := by decide +kernel
theorem dX0_tallyLetters_9 : decode cX0_tallyLetters 9 = .ok (.istore_n 2, 1) := by decide +kernel
theorem dX0_tallyLetters_10 : decode cX0_tallyLetters 10 = .ok (.iload_n 2, 1) := by decide +kernel
theorem dX0_tallyLetters_11 : decode cX0_tallyLetters 11 = .ok (.aload_n 0, 1) := by decide +kernel
theorem dX0_tallyLetters_12 : decode cX0_tallyLetters 12 = .ok (.getfield 7, 3) := by decide +kernel
theorem dX0_tallyLetters_15 : decode cX0_tallyLetters 15 = .ok (.if_icmp .ge 33, 3) := by decide +kernel
theorem dX0_tallyLetters_18 : decode cX0_tallyLetters 18 = .ok (.aload_n 0, 1) := by decide +kernel
theorem dX0_tallyLetters_19 : decode cX0_tallyLetters 19 = .ok (.getfield 17, 3) := by decide +kernel
theorem dX0_tallyLetters_22 : decode cX0_tallyLetters 22 = .ok (.iload_n 2, 1) := by decide +kernel
theorem dX0_tallyLetters_23 : decode cX0_tallyLetters 23 = .ok (.baload, 1) := by decide +kernel
theorem dX0_tallyLetters_24 : decode cX0_tallyLetters 24 = .ok (.ifCond .eq 18, 3) := by decide +kernel
theorem dX0_tallyLetters_27 : decode cX0_tallyLetters 27 = .ok (.aload_n 0, 1) := by decide +kernel
theorem dX0_tallyLetters_28 : decode cX0_tallyLetters 28 = .ok (.getfield 45, 3) := by decide +kernel
theorem dX0_tallyLetters_31 : decode cX0_tallyLetters 31 = .ok (.aload_n 0, 1) := by decide +kernel
theorem dX0_tallyLetters_32 : decode cX0_tallyLetters 32 = .ok (.iload_n 1, 1) := by decide +kernel
theorem dX0_tallyLetters_33 : decode cX0_tallyLetters 33 = .ok (.iload_n 2, 1) := by decide +kernel
theorem dX0_tallyLetters_34 : decode cX0_tallyLetters 34 = .ok (.invokevirtual 149, 3) := by decide +kernel
theorem dX0_tallyLetters_37 : decode cX0_tallyLetters 37 = .ok (.dup2, 1) := by decide +kernel
theorem dX0_tallyLetters_38 : decode cX0_tallyLetters 38 = .ok (.iaload, 1) := by decide +kernel
theorem dX0_tallyLetters_39 : decode cX0_tallyLetters 39 = .ok (.iconst 1, 1) := by decide +kernel
theorem dX0_tallyLetters_40 : decode cX0_tallyLetters 40 = .ok (.iadd, 1) := by decide +kernel
theorem dX0_tallyLetters_41 : decode cX0_tallyLetters 41 = .ok (.iastore, 1) := by decide +kernel
theorem dX0_tallyLetters_42 : decode cX0_tallyLetters 42 = .ok (.iinc 2 1, 3) := by decide +kernel
theorem dX0_tallyLetters_45 : decode cX0_tallyLetters 45 = .ok (.goto (-35), 3) := by decide +kernel
theorem dX0_tallyLetters_48 : decode cX0_tallyLetters 48 = .ok (.return_, 1) := by decide +kernel
theorem dX0_letterAt_0 : decode cX0_letterAt 0 = .ok (.iload_n 2, 1) := by decide +kernel
theorem dX0_letterAt_1 : decode cX0_letterAt 1 = .ok (.istore_n 3, 1) := by decide +kernel
theorem dX0_letterAt_2 : decode cX0_letterAt 2 = .ok (.iconst 0, 1) := by decide +kernel
theorem dX0_letterAt_3 : decode cX0_letterAt 3 = .ok (.istore 4, 2) := by decide +kernel
theorem dX0_letterAt_5 : decode cX0_letterAt 5 = .ok (.iload 4, 2) := by decide +kernel
theorem dX0_letterAt_7 : decode cX0_letterAt 7 = .ok (.bipush 14, 2) := by decide +kernel
theorem dX0_letterAt_9 : decode cX0_letterAt 9 = .ok (.if_icmp .ge 48, 3) := by decide +kernel
theorem dX0_letterAt_12 : decode cX0_letterAt 12 = .ok (.iload_n 3, 1) := by decide +kernel
theorem dX0_letterAt_13 : decode cX0_letterAt 13 = .ok (.iconst (-1), 1) := by decide +kernel
theorem dX0_letterAt_14 : decode cX0_letterAt 14 = .ok (.if_icmp .eq 43, 3) := by decide +kernel
theorem dX0_letterAt_17 : decode cX0_letterAt 17 = .ok (.aload_n 0, 1) := by decide +kernel
theorem dX0_letterAt_18 : decode cX0_letterAt 18 = .ok (.getfield 33, 3) := by decide +kernel
theorem dX0_letterAt_21 : decode cX0_letterAt 21 = .ok (.iload_n 1, 1) := by decide +kernel
theorem dX0_letterAt_22 : decode cX0_letterAt 22 = .ok (.bipush 14, 2) := by decide +kernel
theorem dX0_letterAt_24 : decode cX0_letterAt 24 = .ok (.imul, 1) := by decide +kernel
theorem dX0_letterAt_25 : decode cX0_letterAt 25 = .ok (.iload_n 3, 1) := by decide +kernel
theorem dX0_letterAt_26 : decode cX0_letterAt 26 = .ok (.iadd, 1) := by decide +kernel
theorem dX0_letterAt_27 : decode cX0_letterAt 27 = .ok (.iaload, 1) := by decide +kernel
theorem dX0_letterAt_28 : decode cX0_letterAt 28 = .ok (.istore 5, 2) := by decide +kernel
theorem dX0_letterAt_30 : decode cX0_letterAt 30 = .ok (.iload 5, 2) := by decide +kernel
theorem dX0_letterAt_32 : decode cX0_letterAt 32 = .ok (.iconst (-1), 1) := by decide +kernel
theorem dX0_letterAt_33 : decode cX0_letterAt 33 = .ok (.if_icmp .eq 6, 3) := by decide +kernel
theorem dX0_letterAt_36 : decode cX0_letterAt 36 = .ok (.iload 5, 2) := by decide +kernel
theorem dX0_letterAt_38 : decode cX0_letterAt 38 = .ok (.ireturn, 1) := by decide +kernel
theorem dX0_letterAt_39 : decode cX0_letterAt 39 = .ok (.aload_n 0, 1) := by decide +kernel
theorem dX0_letterAt_40 : decode cX0_letterAt 40 = .ok (.aload_n 0, 1) := by decide +kernel
theorem dX0_letterAt_41 : decode cX0_letterAt 41 = .ok (.getfield 27, 3) := by decide +kernel
theorem dX0_letterAt_44 : decode cX0_letterAt 44 = .ok (.iload_n 1, 1) := by decide +kernel
theorem dX0_letterAt_45 : decode cX0_letterAt 45 = .ok (.iaload, 1) := by decide +kernel
theorem dX0_letterAt_46 : decode cX0_letterAt 46 = .ok (.iload_n 3, 1) := by decide +kernel
theorem dX0_letterAt_47 : decode cX0_letterAt 47 = .ok (.invokevirtual 135, 3) := by decide +kernel
theorem dX0_letterAt_50 : decode cX0_letterAt 50 = .ok (.istore_n 3, 1) := by decide +kernel
theorem dX0_letterAt_51 : decode cX0_letterAt 51 = .ok (.iinc 4 1, 3) := by decide +kernel
theorem dX0_letterAt_54 : decode cX0_letterAt 54 = .ok (.goto (-49), 3) := by decide +kernel
theorem dX0_letterAt_57 : decode cX0_letterAt 57 = .ok (.aload_n 0, 1) := by decide +kernel
theorem dX0_letterAt_58 : decode cX0_letterAt 58 = .ok (.getfield 30, 3) := by decide +kernel
theorem dX0_letterAt_61 : decode cX0_letterAt 61 = .ok (.iload_n 1, 1) := by decide +kernel
theorem dX0_letterAt_62 : decode cX0_letterAt 62 = .ok (.iaload, 1) := by decide +kernel
theorem dX0_letterAt_63 : decode cX0_letterAt 63 = .ok (.ireturn, 1) := by decide +kernel
theorem dX0_spectrum_0 : decode cX0_spectrum 0 = .ok (.iload_n 1, 1) := by decide +kernel
theorem dX0_spectrum_1 : decode cX0_spectrum 1 = .ok (.iconst 1, 1) := by decide +kernel
theorem dX0_spectrum_2 : decode cX0_spectrum 2 = .ok (.if_icmp .ge 5, 3) := by decide +kernel
theorem dX0_spectrum_5 : decode cX0_spectrum 5 = .ok (.iconst 0, 1) := by decide +kernel
theorem dX0_spectrum_6 : decode cX0_spectrum 6 = .ok (.ireturn, 1) := by decide +kernel
theorem dX0_spectrum_7 : decode cX0_spectrum 7 = .ok (.iconst 0, 1) := by decide +kernel
theorem dX0_spectrum_8 : decode cX0_spectrum 8 = .ok (.istore_n 2, 1) := by decide +kernel
theorem dX0_spectrum_9 : decode cX0_spectrum 9 = .ok (.iconst 0, 1) := by decide +kernel
theorem dX0_spectrum_10 : decode cX0_spectrum 10 = .ok (.istore_n 3, 1) := by decide +kernel
theorem dX0_spectrum_11 : decode cX0_spectrum 11 = .ok (.iload_n 3, 1) := by decide +kernel
theorem dX0_spectrum_12 : decode cX0_spectrum 12 = .ok (.aload_n 0, 1) := by decide +kernel
theorem dX0_spectrum_13 : decode cX0_spectrum 13 = .ok (.getfield 24, 3) := by decide +kernel
theorem dX0_spectrum_16 : decode cX0_spectrum 16 = .ok (.if_icmp .ge 54, 3) := by decide +kernel
theorem dX0_spectrum_19 : decode cX0_spectrum 19 = .ok (.aload_n 0, 1) := by decide +kernel
theorem dX0_spectrum_20 : decode cX0_spectrum 20 = .ok (.iload_n 3, 1) := by decide +kernel
theorem dX0_spectrum_21 : decode cX0_spectrum 21 = .ok (.invokevirtual 152, 3) := by decide +kernel
theorem dX0_spectrum_24 : decode cX0_spectrum 24 = .ok (.iconst 0, 1) := by decide +kernel
theorem dX0_spectrum_25 : decode cX0_spectrum 25 = .ok (.istore 4, 2) := by decide +kernel
theorem dX0_spectrum_27 : decode cX0_spectrum 27 = .ok (.iload 4, 2) := by decide +kernel
theorem dX0_spectrum_29 : decode cX0_spectrum 29 = .ok (.iconst 4, 1) := by decide +kernel
theorem dX0_spectrum_30 : decode cX0_spectrum 30 = .ok (.if_icmp .ge 34, 3) := by decide +kernel
theorem dX0_spectrum_33 : decode cX0_spectrum 33 = .ok (.iload 4, 2) := by decide +kernel
theorem dX0_spectrum_35 : decode cX0_spectrum 35 = .ok (.aload_n 0, 1) := by decide +kernel
theorem dX0_spectrum_36 : decode cX0_spectrum 36 = .ok (.getfield 30, 3) := by decide +kernel
theorem dX0_spectrum_39 : decode cX0_spectrum 39 = .ok (.iload_n 3, 1) := by decide +kernel
theorem dX0_spectrum_40 : decode cX0_spectrum 40 = .ok (.iaload, 1) := by decide +kernel
theorem dX0_spectrum_41 : decode cX0_spectrum 41 = .ok (.if_icmp .eq 17, 3) := by decide +kernel
theorem dX0_spectrum_44 : decode cX0_spectrum 44 = .ok (.aload_n 0, 1) := by decide +kernel
theorem dX0_spectrum_45 : decode cX0_spectrum 45 = .ok (.getfield 45, 3) := by decide +kernel
theorem dX0_spectrum_48 : decode cX0_spectrum 48 = .ok (.iload 4, 2) := by decide +kernel
theorem dX0_spectrum_50 : decode cX0_spectrum 50 = .ok (.iaload, 1) := by decide +kernel
theorem dX0_spectrum_51 : decode cX0_spectrum 51 = .ok (.iload_n 1, 1) := by decide +kernel
theorem dX0_spectrum_52 : decode cX0_spectrum 52 = .ok (.if_icmp .ne 6, 3) := by decide +kernel
theorem dX0_spectrum_55 : decode cX0_spectrum 55 = .ok (.iinc 2 1, 3) := by decide +kernel
theorem dX0_spectrum_58 : decode cX0_spectrum 58 = .ok (.iinc 4 1, 3) := by decide +kernel
theorem dX0_spectrum_61 : decode cX0_spectrum 61 = .ok (.goto (-34), 3) := by decide +kernel
theorem dX0_spectrum_64 : decode cX0_spectrum 64 = .ok (.iinc 3 1, 3) := by decide +kernel
theorem dX0_spectrum_67 : decode cX0_spectrum 67 = .ok (.goto (-56), 3) := by decide +kernel
theorem dX0_spectrum_70 : decode cX0_spectrum 70 = .ok (.iload_n 2, 1) := by decide +kernel
theorem dX0_spectrum_71 : decode cX0_spectrum 71 = .ok (.ireturn, 1) := by decide +kernel
theorem dX0_area_0 : decode cX0_area 0 = .ok (.aload_n 0, 1) := by decide +kernel
theorem dX0_area_1 : decode cX0_area 1 = .ok (.invokevirtual 113, 3) := by decide +kernel
theorem dX0_area_4 : decode cX0_area 4 = .ok (.istore_n 1, 1) := by decide +kernel
theorem dX0_area_5 : decode cX0_area 5 = .ok (.iconst 0, 1) := by decide +kernel
theorem dX0_area_6 : decode cX0_area 6 = .ok (.istore_n 2, 1) := by decide +kernel
theorem dX0_area_7 : decode cX0_area 7 = .ok (.iconst 0, 1) := by decide +kernel
theorem dX0_area_8 : decode cX0_area 8 = .ok (.istore_n 3, 1) := by decide +kernel
theorem dX0_area_9 : decode cX0_area 9 = .ok (.iload_n 3, 1) := by decide +kernel
theorem dX0_area_10 : decode cX0_area 10 = .ok (.bipush 60, 2) := by decide +kernel
theorem dX0_area_12 : decode cX0_area 12 = .ok (.if_icmp .ge 86, 3) := by decide +kernel
theorem dX0_area_15 : decode cX0_area 15 = .ok (.aload_n 0, 1) := by decide +kernel
theorem dX0_area_16 : decode cX0_area 16 = .ok (.iload_n 3, 1) := by decide +kernel
theorem dX0_area_17 : decode cX0_area 17 = .ok (.invokevirtual 156, 3) := by decide +kernel
theorem dX0_area_20 : decode cX0_area 20 = .ok (.iconst 0, 1) := by decide +kernel
theorem dX0_area_21 : decode cX0_area 21 = .ok (.istore 4, 2) := by decide +kernel
theorem dX0_area_23 : decode cX0_area 23 = .ok (.iload 4, 2) := by decide +kernel
theorem dX0_area_25 : decode cX0_area 25 = .ok (.aload_n 0, 1) := by decide +kernel
theorem dX0_area_26 : decode cX0_area 26 = .ok (.getfield 7, 3) := by decide +kernel
theorem dX0_area_29 : decode cX0_area 29 = .ok (.if_icmp .ge 63, 3) := by decide +kernel
theorem dX0_area_32 : decode cX0_area 32 = .ok (.aload_n 0, 1) := by decide +kernel
theorem dX0_area_33 : decode cX0_area 33 = .ok (.iload_n 3, 1) := by decide +kernel
theorem dX0_area_34 : decode cX0_area 34 = .ok (.iload 4, 2) := by decide +kernel
theorem dX0_area_36 : decode cX0_area 36 = .ok (.invokevirtual 135, 3) := by decide +kernel
theorem dX0_area_39 : decode cX0_area 39 = .ok (.istore 5, 2) := by decide +kernel
theorem dX0_area_41 : decode cX0_area 41 = .ok (.iload 5, 2) := by decide +kernel
theorem dX0_area_43 : decode cX0_area 43 = .ok (.iconst (-1), 1) := by decide +kernel
theorem dX0_area_44 : decode cX0_area 44 = .ok (.if_icmp .eq 42, 3) := by decide +kernel
theorem dX0_area_47 : decode cX0_area 47 = .ok (.aload_n 0, 1) := by decide +kernel
theorem dX0_area_48 : decode cX0_area 48 = .ok (.getfield 39, 3) := by decide +kernel
theorem dX0_area_51 : decode cX0_area 51 = .ok (.iload 4, 2) := by decide +kernel
theorem dX0_area_53 : decode cX0_area 53 = .ok (.iaload, 1) := by decide +kernel
theorem dX0_area_54 : decode cX0_area 54 = .ok (.ifCond .le 32, 3) := by decide +kernel
theorem dX0_area_57 : decode cX0_area 57 = .ok (.aload_n 0, 1) := by decide +kernel
theorem dX0_area_58 : decode cX0_area 58 = .ok (.getfield 39, 3) := by decide +kernel
theorem dX0_area_61 : decode cX0_area 61 = .ok (.iload 4, 2) := by decide +kernel
theorem dX0_area_63 : decode cX0_area 63 = .ok (.iaload, 1) := by decide +kernel
theorem dX0_area_64 : decode cX0_area 64 = .ok (.iload_n 1, 1) := by decide +kernel
theorem dX0_area_65 : decode cX0_area 65 = .ok (.if_icmp .ge 21, 3) := by decide +kernel
theorem dX0_area_68 : decode cX0_area 68 = .ok (.iload_n 2, 1) := by decide +kernel
theorem dX0_area_69 : decode cX0_area 69 = .ok (.aload_n 0, 1) := by decide +kernel
theorem dX0_area_70 : decode cX0_area 70 = .ok (.getfield 13, 3) := by decide +kernel
theorem dX0_area_73 : decode cX0_area 73 = .ok (.iload 5, 2) := by decide +kernel
theorem dX0_area_75 : decode cX0_area 75 = .ok (.iaload, 1) := by decide +kernel
theorem dX0_area_76 : decode cX0_area 76 = .ok (.aload_n 0, 1) := by decide +kernel
theorem dX0_area_77 : decode cX0_area 77 = .ok (.getfield 13, 3) := by decide +kernel
theorem dX0_area_80 : decode cX0_area 80 = .ok (.iload 4, 2) := by decide +kernel
theorem dX0_area_82 : decode cX0_area 82 = .ok (.iaload, 1) := by decide +kernel
theorem dX0_area_83 : decode cX0_area 83 = .ok (.isub, 1) := by decide +kernel
theorem dX0_area_84 : decode cX0_area 84 = .ok (.iadd, 1) := by decide +kernel
theorem dX0_area_85 : decode cX0_area 85 = .ok (.istore_n 2, 1) := by decide +kernel
theorem dX0_area_86 : decode cX0_area 86 = .ok (.iinc 4 1, 3) := by decide +kernel
theorem dX0_area_89 : decode cX0_area 89 = .ok (.goto (-66), 3) := by decide +kernel
theorem dX0_area_92 : decode cX0_area 92 = .ok (.iinc 3 1, 3) := by decide +kernel
theorem dX0_area_95 : decode cX0_area 95 = .ok (.goto (-86), 3) := by decide +kernel
theorem dX0_area_98 : decode cX0_area 98 = .ok (.iload_n 2, 1) := by decide +kernel
theorem dX0_area_99 : decode cX0_area 99 = .ok (.ireturn, 1) := by decide +kernel
theorem dX0_countCarried_0 : decode cX0_countCarried 0 = .ok (.aload_n 0, 1) := by decide +kernel
theorem dX0_countCarried_1 : decode cX0_countCarried 1 = .ok (.getfield 39, 3) := by decide +kernel
theorem dX0_countCarried_4 : decode cX0_countCarried 4 = .ok (.iconst 0, 1) := by decide +kernel
theorem dX0_countCarried_5 : decode cX0_countCarried 5 = .ok (.invokestatic 51, 3) := by decide +kernel
theorem dX0_countCarried_8 : decode cX0_countCarried 8 = .ok (.iconst 0, 1) := by decide +kernel
theorem dX0_countCarried_9 : decode cX0_countCarried 9 = .ok (.istore_n 2, 1) := by decide +kernel
theorem dX0_countCarried_10 : decode cX0_countCarried 10 = .ok (.iload_n 2, 1) := by decide +kernel
theorem dX0_countCarried_11 : decode cX0_countCarried 11 = .ok (.aload_n 0, 1) := by decide +kernel
theorem dX0_countCarried_12 : decode cX0_countCarried 12 = .ok (.getfield 7, 3) := by decide +kernel
theorem dX0_countCarried_15 : decode cX0_countCarried 15 = .ok (.if_icmp .ge 62, 3) := by decide +kernel
theorem dX0_countCarried_18 : decode cX0_countCarried 18 = .ok (.aload_n 0, 1) := by decide +kernel
theorem dX0_countCarried_19 : decode cX0_countCarried 19 = .ok (.getfield 17, 3) := by decide +kernel
theorem dX0_countCarried_22 : decode cX0_countCarried 22 = .ok (.iload_n 2, 1) := by decide +kernel
theorem dX0_countCarried_23 : decode cX0_countCarried 23 = .ok (.baload, 1) := by decide +kernel
theorem dX0_countCarried_24 : decode cX0_countCarried 24 = .ok (.ifCond .eq 7, 3) := by decide +kernel
theorem dX0_countCarried_27 : decode cX0_countCarried 27 = .ok (.iload_n 2, 1) := by decide +kernel
theorem dX0_countCarried_28 : decode cX0_countCarried 28 = .ok (.goto 4, 3) := by decide +kernel
theorem dX0_countCarried_31 : decode cX0_countCarried 31 = .ok (.iconst (-1), 1) := by decide +kernel
theorem dX0_countCarried_32 : decode cX0_countCarried 32 = .ok (.istore_n 3, 1) := by decide +kernel
theorem dX0_countCarried_33 : decode cX0_countCarried 33 = .ok (.iconst 0, 1) := by decide +kernel
theorem dX0_countCarried_34 : decode cX0_countCarried 34 = .ok (.istore 4, 2) := by decide +kernel
theorem dX0_countCarried_36 : decode cX0_countCarried 36 = .ok (.iload 4, 2) := by decide +kernel
theorem dX0_countCarried_38 : decode cX0_countCarried 38 = .ok (.bipush 14, 2) := by decide +kernel
theorem dX0_countCarried_40 : decode cX0_countCarried 40 = .ok (.if_icmp .ge 31, 3) := by decide +kernel
theorem dX0_countCarried_43 : decode cX0_countCarried 43 = .ok (.iload_n 3, 1) := by decide +kernel
theorem dX0_countCarried_44 : decode cX0_countCarried 44 = .ok (.iconst (-1), 1) := by decide +kernel
theorem dX0_countCarried_45 : decode cX0_countCarried 45 = .ok (.if_icmp .eq 26, 3) := by decide +kernel
theorem dX0_countCarried_48 : decode cX0_countCarried 48 = .ok (.aload_n 0, 1) := by decide +kernel
theorem dX0_countCarried_49 : decode cX0_countCarried 49 = .ok (.getfield 39, 3) := by decide +kernel
theorem dX0_countCarried_52 : decode cX0_countCarried 52 = .ok (.iload_n 3, 1) := by decide +kernel
theorem dX0_countCarried_53 : decode cX0_countCarried 53 = .ok (.dup2, 1) := by decide +kernel
theorem dX0_countCarried_54 : decode cX0_countCarried 54 = .ok (.iaload, 1) := by decide +kernel
theorem dX0_countCarried_55 : decode cX0_countCarried 55 = .ok (.iconst 1, 1) := by decide +kernel
theorem dX0_countCarried_56 : decode cX0_countCarried 56 = .ok (.iadd, 1) := by decide +kernel
theorem dX0_countCarried_57 : decode cX0_countCarried 57 = .ok (.iastore, 1) := by decide +kernel
theorem dX0_countCarried_58 : decode cX0_countCarried 58 = .ok (.aload_n 0, 1) := by decide +kernel
theorem dX0_countCarried_59 : decode cX0_countCarried 59 = .ok (.iload_n 1, 1) := by decide +kernel
theorem dX0_countCarried_60 : decode cX0_countCarried 60 = .ok (.iload_n 3, 1) := by decide +kernel
theorem dX0_countCarried_61 : decode cX0_countCarried 61 = .ok (.invokevirtual 135, 3) := by decide +kernel
theorem dX0_countCarried_64 : decode cX0_countCarried 64 = .ok (.istore_n 3, 1) := by decide +kernel
theorem dX0_countCarried_65 : decode cX0_countCarried 65 = .ok (.iinc 4 1, 3) := by decide +kernel
theorem dX0_countCarried_68 : decode cX0_countCarried 68 = .ok (.goto (-32), 3) := by decide +kernel
theorem dX0_countCarried_71 : decode cX0_countCarried 71 = .ok (.iinc 2 1, 3) := by decide +kernel
theorem dX0_countCarried_74 : decode cX0_countCarried 74 = .ok (.goto (-64), 3) := by decide +kernel
theorem dX0_countCarried_77 : decode cX0_countCarried 77 = .ok (.return_, 1) := by decide +kernel
theorem dX0_simplify_0 : decode cX0_simplify 0 = .ok (.iconst 0, 1) := by decide +kernel
theorem dX0_simplify_1 : decode cX0_simplify 1 = .ok (.istore_n 1, 1) := by decide +kernel
theorem dX0_simplify_2 : decode cX0_simplify 2 = .ok (.iconst 0, 1) := by decide +kernel
theorem dX0_simplify_3 : decode cX0_simplify 3 = .ok (.istore_n 2, 1) := by decide +kernel
theorem dX0_simplify_4 : decode cX0_simplify 4 = .ok (.iload_n 2, 1) := by decide +kernel
theorem dX0_simplify_5 : decode cX0_simplify 5 = .ok (.bipush 60, 2) := by decide +kernel
theorem dX0_simplify_7 : decode cX0_simplify 7 = .ok (.if_icmp .ge 29, 3) := by decide +kernel
theorem dX0_simplify_10 : decode cX0_simplify 10 = .ok (.aload_n 0, 1) := by decide +kernel
theorem dX0_simplify_11 : decode cX0_simplify 11 = .ok (.getfield 42, 3) := by decide +kernel
theorem dX0_simplify_14 : decode cX0_simplify 14 = .ok (.iload_n 2, 1) := by decide +kernel
theorem dX0_simplify_15 : decode cX0_simplify 15 = .ok (.aload_n 0, 1) := by decide +kernel
theorem dX0_simplify_16 : decode cX0_simplify 16 = .ok (.iload_n 2, 1) := by decide +kernel
theorem dX0_simplify_17 : decode cX0_simplify 17 = .ok (.invokevirtual 159, 3) := by decide +kernel
theorem dX0_simplify_20 : decode cX0_simplify 20 = .ok (.iastore, 1) := by decide +kernel
theorem dX0_simplify_21 : decode cX0_simplify 21 = .ok (.iload_n 1, 1) := by decide +kernel
theorem dX0_simplify_22 : decode cX0_simplify 22 = .ok (.aload_n 0, 1) := by decide +kernel
theorem dX0_simplify_23 : decode cX0_simplify 23 = .ok (.getfield 42, 3) := by decide +kernel
theorem dX0_simplify_26 : decode cX0_simplify 26 = .ok (.iload_n 2, 1) := by decide +kernel
theorem dX0_simplify_27 : decode cX0_simplify 27 = .ok (.iaload, 1) := by decide +kernel
theorem dX0_simplify_28 : decode cX0_simplify 28 = .ok (.ior, 1) := by decide +kernel
theorem dX0_simplify_29 : decode cX0_simplify 29 = .ok (.istore_n 1, 1) := by decide +kernel
theorem dX0_simplify_30 : decode cX0_simplify 30 = .ok (.iinc 2 1, 3) := by decide +kernel
theorem dX0_simplify_33 : decode cX0_simplify 33 = .ok (.goto (-29), 3) := by decide +kernel
theorem dX0_simplify_36 : decode cX0_simplify 36 = .ok (.aload_n 0, 1) := by decide +kernel
theorem dX0_simplify_37 : decode cX0_simplify 37 = .ok (.iload_n 1, 1) := by decide +kernel
theorem dX0_simplify_38 : decode cX0_simplify 38 = .ok (.invokevirtual 162, 3) := by decide +kernel
theorem dX0_simplify_41 : decode cX0_simplify 41 = .ok (.istore_n 2, 1) := by decide +kernel
theorem dX0_simplify_42 : decode cX0_simplify 42 = .ok (.iconst 0, 1) := by decide +kernel
theorem dX0_simplify_43 : decode cX0_simplify 43 = .ok (.istore_n 3, 1) := by decide +kernel
theorem dX0_simplify_44 : decode cX0_simplify 44 = .ok (.iload_n 3, 1) := by decide +kernel
theorem dX0_simplify_45 : decode cX0_simplify 45 = .ok (.aload_n 0, 1) := by decide +kernel
theorem dX0_simplify_46 : decode cX0_simplify 46 = .ok (.getfield 24, 3) := by decide +kernel
theorem dX0_simplify_49 : decode cX0_simplify 49 = .ok (.if_icmp .ge 14, 3) := by decide +kernel
theorem dX0_simplify_52 : decode cX0_simplify 52 = .ok (.aload_n 0, 1) := by decide +kernel
theorem dX0_simplify_53 : decode cX0_simplify 53 = .ok (.iload_n 3, 1) := by decide +kernel
theorem dX0_simplify_54 : decode cX0_simplify 54 = .ok (.invokevirtual 165, 3) := by decide +kernel
theorem dX0_simplify_57 : decode cX0_simplify 57 = .ok (.iinc 3 1, 3) := by decide +kernel
theorem dX0_simplify_60 : decode cX0_simplify 60 = .ok (.goto (-16), 3) := by decide +kernel
theorem dX0_simplify_63 : decode cX0_simplify 63 = .ok (.iconst 0, 1) := by decide +kernel
theorem dX0_simplify_64 : decode cX0_simplify 64 = .ok (.istore_n 3, 1) := by decide +kernel
theorem dX0_simplify_65 : decode cX0_simplify 65 = .ok (.iload_n 3, 1) := by decide +kernel
theorem dX0_simplify_66 : decode cX0_simplify 66 = .ok (.bipush 60, 2) := by decide +kernel
theorem dX0_simplify_68 : decode cX0_simplify 68 = .ok (.if_icmp .ge 14, 3) := by decide +kernel
theorem dX0_simplify_71 : decode cX0_simplify 71 = .ok (.aload_n 0, 1) := by decide +kernel
theorem dX0_simplify_72 : decode cX0_simplify 72 = .ok (.iload_n 3, 1) := by decide +kernel
theorem dX0_simplify_73 : decode cX0_simplify 73 = .ok (.invokevirtual 168, 3) := by decide +kernel
theorem dX0_simplify_76 : decode cX0_simplify 76 = .ok (.iinc 3 1, 3) := by decide +kernel
theorem dX0_simplify_79 : decode cX0_simplify 79 = .ok (.goto (-14), 3) := by decide +kernel
theorem dX0_simplify_82 : decode cX0_simplify 82 = .ok (.aload_n 0, 1) := by decide +kernel
theorem dX0_simplify_83 : decode cX0_simplify 83 = .ok (.invokevirtual 171, 3) := by decide +kernel
theorem dX0_simplify_86 : decode cX0_simplify 86 = .ok (.aload_n 0, 1) := by decide +kernel
theorem dX0_simplify_87 : decode cX0_simplify 87 = .ok (.iload_n 2, 1) := by decide +kernel
theorem dX0_simplify_88 : decode cX0_simplify 88 = .ok (.putfield 7, 3) := by decide +kernel
theorem dX0_simplify_91 : decode cX0_simplify 91 = .ok (.iload_n 2, 1) := by decide +kernel
theorem dX0_simplify_92 : decode cX0_simplify 92 = .ok (.ireturn, 1) := by decide +kernel
theorem dX0_findMattering_0 : decode cX0_findMattering 0 = .ok (.aload_n 0, 1) := by decide +kernel
theorem dX0_findMattering_1 : decode cX0_findMattering 1 = .ok (.iload_n 1, 1) := by decide +kernel
theorem dX0_findMattering_2 : decode cX0_findMattering 2 = .ok (.invokevirtual 156, 3) := by decide +kernel
theorem dX0_findMattering_5 : decode cX0_findMattering 5 = .ok (.iconst 0, 1) := by decide +kernel
theorem dX0_findMattering_6 : decode cX0_findMattering 6 = .ok (.istore_n 2, 1) := by decide +kernel
theorem dX0_findMattering_7 : decode cX0_findMattering 7 = .ok (.iconst 0, 1) := by decide +kernel
theorem dX0_findMattering_8 : decode cX0_findMattering 8 = .ok (.istore_n 3, 1) := by decide +kernel
theorem dX0_findMattering_9 : decode cX0_findMattering 9 = .ok (.iload_n 3, 1) := by decide +kernel
theorem dX0_findMattering_10 : decode cX0_findMattering 10 = .ok (.aload_n 0, 1) := by decide +kernel
theorem dX0_findMattering_11 : decode cX0_findMattering 11 = .ok (.getfield 7, 3) := by decide +kernel
theorem dX0_findMattering_14 : decode cX0_findMattering 14 = .ok (.if_icmp .ge 34, 3) := by decide +kernel
theorem dX0_findMattering_17 : decode cX0_findMattering 17 = .ok (.aload_n 0, 1) := by decide +kernel
theorem dX0_findMattering_18 : decode cX0_findMattering 18 = .ok (.getfield 17, 3) := by decide +kernel
theorem dX0_findMattering_21 : decode cX0_findMattering 21 = .ok (.iload_n 3, 1) := by decide +kernel
theorem dX0_findMattering_22 : decode cX0_findMattering 22 = .ok (.baload, 1) := by decide +kernel
theorem dX0_findMattering_23 : decode cX0_findMattering 23 = .ok (.ifCond .ne 13, 3) := by decide +kernel
theorem dX0_findMattering_26 : decode cX0_findMattering 26 = .ok (.aload_n 0, 1) := by decide +kernel
theorem dX0_findMattering_27 : decode cX0_findMattering 27 = .ok (.iload_n 1, 1) := by decide +kernel
theorem dX0_findMattering_28 : decode cX0_findMattering 28 = .ok (.iload_n 3, 1) := by decide +kernel
theorem dX0_findMattering_29 : decode cX0_findMattering 29 = .ok (.invokevirtual 183, 3) := by decide +kernel
theorem dX0_findMattering_32 : decode cX0_findMattering 32 = .ok (.iconst 2, 1) := by decide +kernel
theorem dX0_findMattering_33 : decode cX0_findMattering 33 = .ok (.if_icmp .lt 9, 3) := by decide +kernel
theorem dX0_findMattering_36 : decode cX0_findMattering 36 = .ok (.iload_n 2, 1) := by decide +kernel
theorem dX0_findMattering_37 : decode cX0_findMattering 37 = .ok (.iconst 1, 1) := by decide +kernel
theorem dX0_findMattering_38 : decode cX0_findMattering 38 = .ok (.iload_n 3, 1) := by decide +kernel
theorem dX0_findMattering_39 : decode cX0_findMattering 39 = .ok (.ishl, 1) := by decide +kernel
theorem dX0_findMattering_40 : decode cX0_findMattering 40 = .ok (.ior, 1) := by decide +kernel
theorem dX0_findMattering_41 : decode cX0_findMattering 41 = .ok (.istore_n 2, 1) := by decide +kernel
theorem dX0_findMattering_42 : decode cX0_findMattering 42 = .ok (.iinc 3 1, 3) := by decide +kernel
theorem dX0_findMattering_45 : decode cX0_findMattering 45 = .ok (.goto (-36), 3) := by decide +kernel
theorem dX0_findMattering_48 : decode cX0_findMattering 48 = .ok (.iload_n 2, 1) := by decide +kernel
theorem dX0_findMattering_49 : decode cX0_findMattering 49 = .ok (.ireturn, 1) := by decide +kernel
theorem dX0_countLiveChildren_0 : decode cX0_countLiveChildren 0 = .ok (.iconst 0, 1) := by decide +kernel
theorem dX0_countLiveChildren_1 : decode cX0_countLiveChildren 1 = .ok (.istore_n 3, 1) := by decide +kernel
theorem dX0_countLiveChildren_2 : decode cX0_countLiveChildren 2 = .ok (.iconst 0, 1) := by decide +kernel
theorem dX0_countLiveChildren_3 : decode cX0_countLiveChildren 3 = .ok (.istore 4, 2) := by decide +kernel
theorem dX0_countLiveChildren_5 : decode cX0_countLiveChildren 5 = .ok (.iload 4, 2) := by decide +kernel
theorem dX0_countLiveChildren_7 : decode cX0_countLiveChildren 7 = .ok (.aload_n 0, 1) := by decide +kernel
theorem dX0_countLiveChildren_8 : decode cX0_countLiveChildren 8 = .ok (.getfield 7, 3) := by decide +kernel
theorem dX0_countLiveChildren_11 : decode cX0_countLiveChildren 11 = .ok (.if_icmp .ge 33, 3) := by decide +kernel
theorem dX0_countLiveChildren_14 : decode cX0_countLiveChildren 14 = .ok (.aload_n 0, 1) := by decide +kernel
theorem dX0_countLiveChildren_15 : decode cX0_countLiveChildren 15 = .ok (.iload_n 1, 1) := by decide +kernel
theorem dX0_countLiveChildren_16 : decode cX0_countLiveChildren 16 = .ok (.iload 4, 2) := by decide +kernel
theorem dX0_countLiveChildren_18 : decode cX0_countLiveChildren 18 = .ok (.invokevirtual 135, 3) := by decide +kernel
theorem dX0_countLiveChildren_21 : decode cX0_countLiveChildren 21 = .ok (.iload_n 2, 1) := by decide +kernel
theorem dX0_countLiveChildren_22 : decode cX0_countLiveChildren 22 = .ok (.if_icmp .ne 16, 3) := by decide +kernel
theorem dX0_countLiveChildren_25 : decode cX0_countLiveChildren 25 = .ok (.aload_n 0, 1) := by decide +kernel
theorem dX0_countLiveChildren_26 : decode cX0_countLiveChildren 26 = .ok (.getfield 39, 3) := by decide +kernel
theorem dX0_countLiveChildren_29 : decode cX0_countLiveChildren 29 = .ok (.iload 4, 2) := by decide +kernel
theorem dX0_countLiveChildren_31 : decode cX0_countLiveChildren 31 = .ok (.iaload, 1) := by decide +kernel
theorem dX0_countLiveChildren_32 : decode cX0_countLiveChildren 32 = .ok (.ifCond .le 6, 3) := by decide +kernel
theorem dX0_countLiveChildren_35 : decode cX0_countLiveChildren 35 = .ok (.iinc 3 1, 3) := by decide +kernel
theorem dX0_countLiveChildren_38 : decode cX0_countLiveChildren 38 = .ok (.iinc 4 1, 3) := by decide +kernel
theorem dX0_countLiveChildren_41 : decode cX0_countLiveChildren 41 = .ok (.goto (-36), 3) := by decide +kernel
theorem dX0_countLiveChildren_44 : decode cX0_countLiveChildren 44 = .ok (.iload_n 3, 1) := by decide +kernel
theorem dX0_countLiveChildren_45 : decode cX0_countLiveChildren 45 = .ok (.ireturn, 1) := by decide +kernel
theorem dX0_renumber_0 : decode cX0_renumber 0 = .ok (.iconst 0, 1) := by decide +kernel
theorem dX0_renumber_1 : decode cX0_renumber 1 = .ok (.istore_n 2, 1) := by decide +kernel
theorem dX0_renumber_2 : decode cX0_renumber 2 = .ok (.iconst 0, 1) := by decide +kernel
theorem dX0_renumber_3 : decode cX0_renumber 3 = .ok (.istore_n 3, 1) := by decide +kernel
theorem dX0_renumber_4 : decode cX0_renumber 4 = .ok (.iload_n 3, 1) := by decide +kernel
theorem dX0_renumber_5 : decode cX0_renumber 5 = .ok (.bipush 14, 2) := by decide +kernel
theorem dX0_renumber_7 : decode cX0_renumber 7 = .ok (.if_icmp .ge 38, 3) := by decide +kernel
theorem dX0_renumber_10 : decode cX0_renumber 10 = .ok (.iload_n 1, 1) := by decide +kernel
theorem dX0_renumber_11 : decode cX0_renumber 11 = .ok (.iload_n 3, 1) := by decide +kernel
theorem dX0_renumber_12 : decode cX0_renumber 12 = .ok (.ishr, 1) := by decide +kernel
theorem dX0_renumber_13 : decode cX0_renumber 13 = .ok (.iconst 1, 1) := by decide +kernel
theorem dX0_renumber_14 : decode cX0_renumber 14 = .ok (.iand, 1) := by decide +kernel
theorem dX0_renumber_15 : decode cX0_renumber 15 = .ok (.iconst 1, 1) := by decide +kernel
theorem dX0_renumber_16 : decode cX0_renumber 16 = .ok (.if_icmp .ne 16, 3) := by decide +kernel
theorem dX0_renumber_19 : decode cX0_renumber 19 = .ok (.aload_n 0, 1) := by decide +kernel
theorem dX0_renumber_20 : decode cX0_renumber 20 = .ok (.getfield 36, 3) := by decide +kernel
theorem dX0_renumber_23 : decode cX0_renumber 23 = .ok (.iload_n 3, 1) := by decide +kernel
theorem dX0_renumber_24 : decode cX0_renumber 24 = .ok (.iload_n 2, 1) := by decide +kernel
theorem dX0_renumber_25 : decode cX0_renumber 25 = .ok (.iastore, 1) := by decide +kernel
theorem dX0_renumber_26 : decode cX0_renumber 26 = .ok (.iinc 2 1, 3) := by decide +kernel
theorem dX0_renumber_29 : decode cX0_renumber 29 = .ok (.goto 10, 3) := by decide +kernel
theorem dX0_renumber_32 : decode cX0_renumber 32 = .ok (.aload_n 0, 1) := by decide +kernel
theorem dX0_renumber_33 : decode cX0_renumber 33 = .ok (.getfield 36, 3) := by decide +kernel
theorem dX0_renumber_36 : decode cX0_renumber 36 = .ok (.iload_n 3, 1) := by decide +kernel
theorem dX0_renumber_37 : decode cX0_renumber 37 = .ok (.iconst (-1), 1) := by decide +kernel
theorem dX0_renumber_38 : decode cX0_renumber 38 = .ok (.iastore, 1) := by decide +kernel
theorem dX0_renumber_39 : decode cX0_renumber 39 = .ok (.iinc 3 1, 3) := by decide +kernel
theorem dX0_renumber_42 : decode cX0_renumber 42 = .ok (.goto (-38), 3) := by decide +kernel
theorem dX0_renumber_45 : decode cX0_renumber 45 = .ok (.iload_n 2, 1) := by decide +kernel
theorem dX0_renumber_46 : decode cX0_renumber 46 = .ok (.ireturn, 1) := by decide +kernel
theorem dX0_moveMutations_0 : decode cX0_moveMutations 0 = .ok (.aload_n 0, 1) := by decide +kernel
theorem dX0_moveMutations_1 : decode cX0_moveMutations 1 = .ok (.getfield 27, 3) := by decide +kernel
theorem dX0_moveMutations_4 : decode cX0_moveMutations 4 = .ok (.iload_n 1, 1) := by decide +kernel
theorem dX0_moveMutations_5 : decode cX0_moveMutations 5 = .ok (.iaload, 1) := by decide +kernel
theorem dX0_moveMutations_6 : decode cX0_moveMutations 6 = .ok (.istore_n 2, 1) := by decide +kernel
theorem dX0_moveMutations_7 : decode cX0_moveMutations 7 = .ok (.aload_n 0, 1) := by decide +kernel
theorem dX0_moveMutations_8 : decode cX0_moveMutations 8 = .ok (.getfield 48, 3) := by decide +kernel
theorem dX0_moveMutations_11 : decode cX0_moveMutations 11 = .ok (.iconst (-1), 1) := by decide +kernel
theorem dX0_moveMutations_12 : decode cX0_moveMutations 12 = .ok (.invokestatic 51, 3) := by decide +kernel
theorem dX0_moveMutations_15 : decode cX0_moveMutations 15 = .ok (.iconst 0, 1) := by decide +kernel
theorem dX0_moveMutations_16 : decode cX0_moveMutations 16 = .ok (.istore_n 3, 1) := by decide +kernel
theorem dX0_moveMutations_17 : decode cX0_moveMutations 17 = .ok (.iload_n 3, 1) := by decide +kernel
theorem dX0_moveMutations_18 : decode cX0_moveMutations 18 = .ok (.aload_n 0, 1) := by decide +kernel
theorem dX0_moveMutations_19 : decode cX0_moveMutations 19 = .ok (.getfield 7, 3) := by decide +kernel
theorem dX0_moveMutations_22 : decode cX0_moveMutations 22 = .ok (.if_icmp .ge 35, 3) := by decide +kernel
theorem dX0_moveMutations_25 : decode cX0_moveMutations 25 = .ok (.aload_n 0, 1) := by decide +kernel
theorem dX0_moveMutations_26 : decode cX0_moveMutations 26 = .ok (.iload_n 2, 1) := by decide +kernel
theorem dX0_moveMutations_27 : decode cX0_moveMutations 27 = .ok (.iload_n 3, 1) := by decide +kernel
theorem dX0_moveMutations_28 : decode cX0_moveMutations 28 = .ok (.invokevirtual 186, 3) := by decide +kernel
theorem dX0_moveMutations_31 : decode cX0_moveMutations 31 = .ok (.ifCond .eq 20, 3) := by decide +kernel
theorem dX0_moveMutations_34 : decode cX0_moveMutations 34 = .ok (.aload_n 0, 1) := by decide +kernel
theorem dX0_moveMutations_35 : decode cX0_moveMutations 35 = .ok (.getfield 48, 3) := by decide +kernel
theorem dX0_moveMutations_38 : decode cX0_moveMutations 38 = .ok (.aload_n 0, 1) := by decide +kernel
theorem dX0_moveMutations_39 : decode cX0_moveMutations 39 = .ok (.getfield 36, 3) := by decide +kernel
theorem dX0_moveMutations_42 : decode cX0_moveMutations 42 = .ok (.iload_n 3, 1) := by decide +kernel
theorem dX0_moveMutations_43 : decode cX0_moveMutations 43 = .ok (.iaload, 1) := by decide +kernel
theorem dX0_moveMutations_44 : decode cX0_moveMutations 44 = .ok (.aload_n 0, 1) := by decide +kernel
theorem dX0_moveMutations_45 : decode cX0_moveMutations 45 = .ok (.iload_n 1, 1) := by decide +kernel
theorem dX0_moveMutations_46 : decode cX0_moveMutations 46 = .ok (.iload_n 3, 1) := by decide +kernel
theorem dX0_moveMutations_47 : decode cX0_moveMutations 47 = .ok (.invokevirtual 189, 3) := by decide +kernel
theorem dX0_moveMutations_50 : decode cX0_moveMutations 50 = .ok (.iastore, 1) := by decide +kernel
theorem dX0_moveMutations_51 : decode cX0_moveMutations 51 = .ok (.iinc 3 1, 3) := by decide +kernel
theorem dX0_moveMutations_54 : decode cX0_moveMutations 54 = .ok (.goto (-37), 3) := by decide +kernel
theorem dX0_moveMutations_57 : decode cX0_moveMutations 57 = .ok (.aload_n 0, 1) := by decide +kernel
theorem dX0_moveMutations_58 : decode cX0_moveMutations 58 = .ok (.getfield 48, 3) := by decide +kernel
theorem dX0_moveMutations_61 : decode cX0_moveMutations 61 = .ok (.iconst 0, 1) := by decide +kernel
theorem dX0_moveMutations_62 : decode cX0_moveMutations 62 = .ok (.aload_n 0, 1) := by decide +kernel
theorem dX0_moveMutations_63 : decode cX0_moveMutations 63 = .ok (.getfield 33, 3) := by decide +kernel
theorem dX0_moveMutations_66 : decode cX0_moveMutations 66 = .ok (.iload_n 1, 1) := by decide +kernel
theorem dX0_moveMutations_67 : decode cX0_moveMutations 67 = .ok (.bipush 14, 2) := by decide +kernel
theorem dX0_moveMutations_69 : decode cX0_moveMutations 69 = .ok (.imul, 1) := by decide +kernel
theorem dX0_moveMutations_70 : decode cX0_moveMutations 70 = .ok (.bipush 14, 2) := by decide +kernel
theorem dX0_moveMutations_72 : decode cX0_moveMutations 72 = .ok (.invokestatic 192, 3) := by decide +kernel
theorem dX0_moveMutations_75 : decode cX0_moveMutations 75 = .ok (.return_, 1) := by decide +kernel
theorem dX0_matters_0 : decode cX0_matters 0 = .ok (.aload_n 0, 1) := by decide +kernel
theorem dX0_matters_1 : decode cX0_matters 1 = .ok (.getfield 42, 3) := by decide +kernel
theorem dX0_matters_4 : decode cX0_matters 4 = .ok (.iload_n 1, 1) := by decide +kernel
theorem dX0_matters_5 : decode cX0_matters 5 = .ok (.iaload, 1) := by decide +kernel
theorem dX0_matters_6 : decode cX0_matters 6 = .ok (.iload_n 2, 1) := by decide +kernel
theorem dX0_matters_7 : decode cX0_matters 7 = .ok (.ishr, 1) := by decide +kernel
theorem dX0_matters_8 : decode cX0_matters 8 = .ok (.iconst 1, 1) := by decide +kernel
theorem dX0_matters_9 : decode cX0_matters 9 = .ok (.iand, 1) := by decide +kernel
theorem dX0_matters_10 : decode cX0_matters 10 = .ok (.iconst 1, 1) := by decide +kernel
theorem dX0_matters_11 : decode cX0_matters 11 = .ok (.if_icmp .ne 7, 3) := by decide +kernel
theorem dX0_matters_14 : decode cX0_matters 14 = .ok (.iconst 1, 1) := by decide +kernel
theorem dX0_matters_15 : decode cX0_matters 15 = .ok (.goto 4, 3) := by decide +kernel
theorem dX0_matters_18 : decode cX0_matters 18 = .ok (.iconst 0, 1) := by decide +kernel
theorem dX0_matters_19 : decode cX0_matters 19 = .ok (.ireturn, 1) := by decide +kernel
theorem dX0_mutationComingTo_0 : decode cX0_mutationComingTo 0 = .ok (.aload_n 0, 1) := by decide +kernel
theorem dX0_mutationComingTo_1 : decode cX0_mutationComingTo 1 = .ok (.getfield 27, 3) := by decide +kernel
theorem dX0_mutationComingTo_4 : decode cX0_mutationComingTo 4 = .ok (.iload_n 1, 1) := by decide +kernel
theorem dX0_mutationComingTo_5 : decode cX0_mutationComingTo 5 = .ok (.iaload, 1) := by decide +kernel
theorem dX0_mutationComingTo_6 : decode cX0_mutationComingTo 6 = .ok (.istore_n 3, 1) := by decide +kernel
theorem dX0_mutationComingTo_7 : decode cX0_mutationComingTo 7 = .ok (.aload_n 0, 1) := by decide +kernel
theorem dX0_mutationComingTo_8 : decode cX0_mutationComingTo 8 = .ok (.getfield 33, 3) := by decide +kernel
theorem dX0_mutationComingTo_11 : decode cX0_mutationComingTo 11 = .ok (.iload_n 1, 1) := by decide +kernel
theorem dX0_mutationComingTo_12 : decode cX0_mutationComingTo 12 = .ok (.bipush 14, 2) := by decide +kernel
theorem dX0_mutationComingTo_14 : decode cX0_mutationComingTo 14 = .ok (.imul, 1) := by decide +kernel
theorem dX0_mutationComingTo_15 : decode cX0_mutationComingTo 15 = .ok (.iload_n 2, 1) := by decide +kernel
theorem dX0_mutationComingTo_16 : decode cX0_mutationComingTo 16 = .ok (.iadd, 1) := by decide +kernel
theorem dX0_mutationComingTo_17 : decode cX0_mutationComingTo 17 = .ok (.iaload, 1) := by decide +kernel
theorem dX0_mutationComingTo_18 : decode cX0_mutationComingTo 18 = .ok (.istore 4, 2) := by decide +kernel
theorem dX0_mutationComingTo_20 : decode cX0_mutationComingTo 20 = .ok (.aload_n 0, 1) := by decide +kernel
theorem dX0_mutationComingTo_21 : decode cX0_mutationComingTo 21 = .ok (.iload_n 3, 1) := by decide +kernel
theorem dX0_mutationComingTo_22 : decode cX0_mutationComingTo 22 = .ok (.iload_n 2, 1) := by decide +kernel
theorem dX0_mutationComingTo_23 : decode cX0_mutationComingTo 23 = .ok (.invokevirtual 135, 3) := by decide +kernel
theorem dX0_mutationComingTo_26 : decode cX0_mutationComingTo 26 = .ok (.istore 5, 2) := by decide +kernel
theorem dX0_mutationComingTo_28 : decode cX0_mutationComingTo 28 = .ok (.iconst 0, 1) := by decide +kernel
theorem dX0_mutationComingTo_29 : decode cX0_mutationComingTo 29 = .ok (.istore 6, 2) := by decide +kernel
theorem dX0_mutationComingTo_31 : decode cX0_mutationComingTo 31 = .ok (.iload 6, 2) := by decide +kernel
theorem dX0_mutationComingTo_33 : decode cX0_mutationComingTo 33 = .ok (.bipush 14, 2) := by decide +kernel
theorem dX0_mutationComingTo_35 : decode cX0_mutationComingTo 35 = .ok (.if_icmp .ge 54, 3) := by decide +kernel
theorem dX0_mutationComingTo_38 : decode cX0_mutationComingTo 38 = .ok (.iload 4, 2) := by decide +kernel
theorem dX0_mutationComingTo_40 : decode cX0_mutationComingTo 40 = .ok (.iconst (-1), 1) := by decide +kernel
theorem dX0_mutationComingTo_41 : decode cX0_mutationComingTo 41 = .ok (.if_icmp .ne 48, 3) := by decide +kernel
theorem dX0_mutationComingTo_44 : decode cX0_mutationComingTo 44 = .ok (.iload 5, 2) := by decide +kernel
theorem dX0_mutationComingTo_46 : decode cX0_mutationComingTo 46 = .ok (.iconst (-1), 1) := by decide +kernel
theorem dX0_mutationComingTo_47 : decode cX0_mutationComingTo 47 = .ok (.if_icmp .eq 42, 3) := by decide +kernel
theorem dX0_mutationComingTo_50 : decode cX0_mutationComingTo 50 = .ok (.aload_n 0, 1) := by decide +kernel
theorem dX0_mutationComingTo_51 : decode cX0_mutationComingTo 51 = .ok (.iload_n 3, 1) := by decide +kernel
theorem dX0_mutationComingTo_52 : decode cX0_mutationComingTo 52 = .ok (.iload 5, 2) := by decide +kernel
theorem dX0_mutationComingTo_54 : decode cX0_mutationComingTo 54 = .ok (.invokevirtual 186, 3) := by decide +kernel
theorem dX0_mutationComingTo_57 : decode cX0_mutationComingTo 57 = .ok (.ifCond .ne 32, 3) := by decide +kernel
theorem dX0_mutationComingTo_60 : decode cX0_mutationComingTo 60 = .ok (.aload_n 0, 1) := by decide +kernel
theorem dX0_mutationComingTo_61 : decode cX0_mutationComingTo 61 = .ok (.getfield 33, 3) := by decide +kernel
theorem dX0_mutationComingTo_64 : decode cX0_mutationComingTo 64 = .ok (.iload_n 1, 1) := by decide +kernel
theorem dX0_mutationComingTo_65 : decode cX0_mutationComingTo 65 = .ok (.bipush 14, 2) := by decide +kernel
theorem dX0_mutationComingTo_67 : decode cX0_mutationComingTo 67 = .ok (.imul, 1) := by decide +kernel
theorem dX0_mutationComingTo_68 : decode cX0_mutationComingTo 68 = .ok (.iload 5, 2) := by decide +kernel
theorem dX0_mutationComingTo_70 : decode cX0_mutationComingTo 70 = .ok (.iadd, 1) := by decide +kernel
theorem dX0_mutationComingTo_71 : decode cX0_mutationComingTo 71 = .ok (.iaload, 1) := by decide +kernel
theorem dX0_mutationComingTo_72 : decode cX0_mutationComingTo 72 = .ok (.istore 4, 2) := by decide +kernel
theorem dX0_mutationComingTo_74 : decode cX0_mutationComingTo 74 = .ok (.aload_n 0, 1) := by decide +kernel
theorem dX0_mutationComingTo_75 : decode cX0_mutationComingTo 75 = .ok (.iload_n 3, 1) := by decide +kernel
theorem dX0_mutationComingTo_76 : decode cX0_mutationComingTo 76 = .ok (.iload 5, 2) := by decide +kernel
theorem dX0_mutationComingTo_78 : decode cX0_mutationComingTo 78 = .ok (.invokevirtual 135, 3) := by decide +kernel
theorem dX0_mutationComingTo_81 : decode cX0_mutationComingTo 81 = .ok (.istore 5, 2) := by decide +kernel
theorem dX0_mutationComingTo_83 : decode cX0_mutationComingTo 83 = .ok (.iinc 6 1, 3) := by decide +kernel
theorem dX0_mutationComingTo_86 : decode cX0_mutationComingTo 86 = .ok (.goto (-55), 3) := by decide +kernel
theorem dX0_mutationComingTo_89 : decode cX0_mutationComingTo 89 = .ok (.iload 4, 2) := by decide +kernel
theorem dX0_mutationComingTo_91 : decode cX0_mutationComingTo 91 = .ok (.ireturn, 1) := by decide +kernel
theorem dX0_moveParents_0 : decode cX0_moveParents 0 = .ok (.aload_n 0, 1) := by decide +kernel
theorem dX0_moveParents_1 : decode cX0_moveParents 1 = .ok (.getfield 48, 3) := by decide +kernel
theorem dX0_moveParents_4 : decode cX0_moveParents 4 = .ok (.iconst (-1), 1) := by decide +kernel
theorem dX0_moveParents_5 : decode cX0_moveParents 5 = .ok (.invokestatic 51, 3) := by decide +kernel
theorem dX0_moveParents_8 : decode cX0_moveParents 8 = .ok (.iconst 0, 1) := by decide +kernel
theorem dX0_moveParents_9 : decode cX0_moveParents 9 = .ok (.istore_n 2, 1) := by decide +kernel
theorem dX0_moveParents_10 : decode cX0_moveParents 10 = .ok (.iload_n 2, 1) := by decide +kernel
theorem dX0_moveParents_11 : decode cX0_moveParents 11 = .ok (.aload_n 0, 1) := by decide +kernel
theorem dX0_moveParents_12 : decode cX0_moveParents 12 = .ok (.getfield 7, 3) := by decide +kernel
theorem dX0_moveParents_15 : decode cX0_moveParents 15 = .ok (.if_icmp .ge 51, 3) := by decide +kernel
theorem dX0_moveParents_18 : decode cX0_moveParents 18 = .ok (.aload_n 0, 1) := by decide +kernel
theorem dX0_moveParents_19 : decode cX0_moveParents 19 = .ok (.iload_n 1, 1) := by decide +kernel
theorem dX0_moveParents_20 : decode cX0_moveParents 20 = .ok (.iload_n 2, 1) := by decide +kernel
theorem dX0_moveParents_21 : decode cX0_moveParents 21 = .ok (.invokevirtual 186, 3) := by decide +kernel
theorem dX0_moveParents_24 : decode cX0_moveParents 24 = .ok (.ifCond .eq 36, 3) := by decide +kernel
theorem dX0_moveParents_27 : decode cX0_moveParents 27 = .ok (.aload_n 0, 1) := by decide +kernel
theorem dX0_moveParents_28 : decode cX0_moveParents 28 = .ok (.iload_n 1, 1) := by decide +kernel
theorem dX0_moveParents_29 : decode cX0_moveParents 29 = .ok (.iload_n 2, 1) := by decide +kernel
theorem dX0_moveParents_30 : decode cX0_moveParents 30 = .ok (.invokevirtual 198, 3) := by decide +kernel
theorem dX0_moveParents_33 : decode cX0_moveParents 33 = .ok (.istore_n 3, 1) := by decide +kernel
theorem dX0_moveParents_34 : decode cX0_moveParents 34 = .ok (.aload_n 0, 1) := by decide +kernel
theorem dX0_moveParents_35 : decode cX0_moveParents 35 = .ok (.getfield 48, 3) := by decide +kernel
theorem dX0_moveParents_38 : decode cX0_moveParents 38 = .ok (.aload_n 0, 1) := by decide +kernel
theorem dX0_moveParents_39 : decode cX0_moveParents 39 = .ok (.getfield 36, 3) := by decide +kernel
theorem dX0_moveParents_42 : decode cX0_moveParents 42 = .ok (.iload_n 2, 1) := by decide +kernel
theorem dX0_moveParents_43 : decode cX0_moveParents 43 = .ok (.iaload, 1) := by decide +kernel
theorem dX0_moveParents_44 : decode cX0_moveParents 44 = .ok (.iload_n 3, 1) := by decide +kernel
theorem dX0_moveParents_45 : decode cX0_moveParents 45 = .ok (.iconst (-1), 1) := by decide +kernel
theorem dX0_moveParents_46 : decode cX0_moveParents 46 = .ok (.if_icmp .ne 7, 3) := by decide +kernel
theorem dX0_moveParents_49 : decode cX0_moveParents 49 = .ok (.iconst (-1), 1) := by decide +kernel
theorem dX0_moveParents_50 : decode cX0_moveParents 50 = .ok (.goto 9, 3) := by decide +kernel
theorem dX0_moveParents_53 : decode cX0_moveParents 53 = .ok (.aload_n 0, 1) := by decide +kernel
theorem dX0_moveParents_54 : decode cX0_moveParents 54 = .ok (.getfield 36, 3) := by decide +kernel
theorem dX0_moveParents_57 : decode cX0_moveParents 57 = .ok (.iload_n 3, 1) := by decide +kernel
theorem dX0_moveParents_58 : decode cX0_moveParents 58 = .ok (.iaload, 1) := by decide +kernel
theorem dX0_moveParents_59 : decode cX0_moveParents 59 = .ok (.iastore, 1) := by decide +kernel
theorem dX0_moveParents_60 : decode cX0_moveParents 60 = .ok (.iinc 2 1, 3) := by decide +kernel
theorem dX0_moveParents_63 : decode cX0_moveParents 63 = .ok (.goto (-53), 3) := by decide +kernel
theorem dX0_moveParents_66 : decode cX0_moveParents 66 = .ok (.aload_n 0, 1) := by decide +kernel
theorem dX0_moveParents_67 : decode cX0_moveParents 67 = .ok (.getfield 48, 3) := by decide +kernel
theorem dX0_moveParents_70 : decode cX0_moveParents 70 = .ok (.iconst 0, 1) := by decide +kernel
theorem dX0_moveParents_71 : decode cX0_moveParents 71 = .ok (.aload_n 0, 1) := by decide +kernel
theorem dX0_moveParents_72 : decode cX0_moveParents 72 = .ok (.getfield 21, 3) := by decide +kernel
theorem dX0_moveParents_75 : decode cX0_moveParents 75 = .ok (.iload_n 1, 1) := by decide +kernel
theorem dX0_moveParents_76 : decode cX0_moveParents 76 = .ok (.bipush 14, 2) := by decide +kernel
theorem dX0_moveParents_78 : decode cX0_moveParents 78 = .ok (.imul, 1) := by decide +kernel
theorem dX0_moveParents_79 : decode cX0_moveParents 79 = .ok (.bipush 14, 2) := by decide +kernel
theorem dX0_moveParents_81 : decode cX0_moveParents 81 = .ok (.invokestatic 192, 3) := by decide +kernel
theorem dX0_moveParents_84 : decode cX0_moveParents 84 = .ok (.return_, 1) := by decide +kernel
theorem dX0_nearestMatteringAbove_0 : decode cX0_nearestMatteringAbove 0 = .ok (.aload_n 0, 1) := by decide +kernel
theorem dX0_nearestMatteringAbove_1 : decode cX0_nearestMatteringAbove 1 = .ok (.iload_n 1, 1) := by decide +kernel
theorem dX0_nearestMatteringAbove_2 : decode cX0_nearestMatteringAbove 2 = .ok (.iload_n 2, 1) := by decide +kernel
theorem dX0_nearestMatteringAbove_3 : decode cX0_nearestMatteringAbove 3 = .ok (.invokevirtual 135, 3) := by decide +kernel
theorem dX0_nearestMatteringAbove_6 : decode cX0_nearestMatteringAbove 6 = .ok (.istore_n 3, 1) := by decide +kernel
theorem dX0_nearestMatteringAbove_7 : decode cX0_nearestMatteringAbove 7 = .ok (.iconst 0, 1) := by decide +kernel
theorem dX0_nearestMatteringAbove_8 : decode cX0_nearestMatteringAbove 8 = .ok (.istore 4, 2) := by decide +kernel
theorem dX0_nearestMatteringAbove_10 : decode cX0_nearestMatteringAbove 10 = .ok (.iload 4, 2) := by decide +kernel
theorem dX0_nearestMatteringAbove_12 : decode cX0_nearestMatteringAbove 12 = .ok (.bipush 14, 2) := by decide +kernel
theorem dX0_nearestMatteringAbove_14 : decode cX0_nearestMatteringAbove 14 = .ok (.if_icmp .ge 30, 3) := by decide +kernel
theorem dX0_nearestMatteringAbove_17 : decode cX0_nearestMatteringAbove 17 = .ok (.iload_n 3, 1) := by decide +kernel
theorem dX0_nearestMatteringAbove_18 : decode cX0_nearestMatteringAbove 18 = .ok (.iconst (-1), 1) := by decide +kernel
theorem dX0_nearestMatteringAbove_19 : decode cX0_nearestMatteringAbove 19 = .ok (.if_icmp .eq 25, 3) := by decide +kernel
theorem dX0_nearestMatteringAbove_22 : decode cX0_nearestMatteringAbove 22 = .ok (.aload_n 0, 1) := by decide +kernel
theorem dX0_nearestMatteringAbove_23 : decode cX0_nearestMatteringAbove 23 = .ok (.iload_n 1, 1) := by decide +kernel
theorem dX0_nearestMatteringAbove_24 : decode cX0_nearestMatteringAbove 24 = .ok (.iload_n 3, 1) := by decide +kernel
theorem dX0_nearestMatteringAbove_25 : decode cX0_nearestMatteringAbove 25 = .ok (.invokevirtual 186, 3) := by decide +kernel
theorem dX0_nearestMatteringAbove_28 : decode cX0_nearestMatteringAbove 28 = .ok (.ifCond .ne 16, 3) := by decide +kernel
theorem dX0_nearestMatteringAbove_31 : decode cX0_nearestMatteringAbove 31 = .ok (.aload_n 0, 1) := by decide +kernel
theorem dX0_nearestMatteringAbove_32 : decode cX0_nearestMatteringAbove 32 = .ok (.iload_n 1, 1) := by decide +kernel
theorem dX0_nearestMatteringAbove_33 : decode cX0_nearestMatteringAbove 33 = .ok (.iload_n 3, 1) := by decide +kernel
theorem dX0_nearestMatteringAbove_34 : decode cX0_nearestMatteringAbove 34 = .ok (.invokevirtual 135, 3) := by decide +kernel
theorem dX0_nearestMatteringAbove_37 : decode cX0_nearestMatteringAbove 37 = .ok (.istore_n 3, 1) := by decide +kernel
theorem dX0_nearestMatteringAbove_38 : decode cX0_nearestMatteringAbove 38 = .ok (.iinc 4 1, 3) := by decide +kernel
theorem dX0_nearestMatteringAbove_41 : decode cX0_nearestMatteringAbove 41 = .ok (.goto (-31), 3) := by decide +kernel
theorem dX0_nearestMatteringAbove_44 : decode cX0_nearestMatteringAbove 44 = .ok (.iload_n 3, 1) := by decide +kernel
theorem dX0_nearestMatteringAbove_45 : decode cX0_nearestMatteringAbove 45 = .ok (.ireturn, 1) := by decide +kernel
theorem dX0_moveNodes_0 : decode cX0_moveNodes 0 = .ok (.iconst 0, 1) := by decide +kernel
theorem dX0_moveNodes_1 : decode cX0_moveNodes 1 = .ok (.istore_n 1, 1) := by decide +kernel
theorem dX0_moveNodes_2 : decode cX0_moveNodes 2 = .ok (.iload_n 1, 1) := by decide +kernel
theorem dX0_moveNodes_3 : decode cX0_moveNodes 3 = .ok (.aload_n 0, 1) := by decide +kernel
theorem dX0_moveNodes_4 : decode cX0_moveNodes 4 = .ok (.getfield 7, 3) := by decide +kernel
theorem dX0_moveNodes_7 : decode cX0_moveNodes 7 = .ok (.if_icmp .ge 45, 3) := by decide +kernel
theorem dX0_moveNodes_10 : decode cX0_moveNodes 10 = .ok (.aload_n 0, 1) := by decide +kernel
theorem dX0_moveNodes_11 : decode cX0_moveNodes 11 = .ok (.getfield 36, 3) := by decide +kernel
theorem dX0_moveNodes_14 : decode cX0_moveNodes 14 = .ok (.iload_n 1, 1) := by decide +kernel
theorem dX0_moveNodes_15 : decode cX0_moveNodes 15 = .ok (.iaload, 1) := by decide +kernel
theorem dX0_moveNodes_16 : decode cX0_moveNodes 16 = .ok (.istore_n 2, 1) := by decide +kernel
theorem dX0_moveNodes_17 : decode cX0_moveNodes 17 = .ok (.iload_n 2, 1) := by decide +kernel
theorem dX0_moveNodes_18 : decode cX0_moveNodes 18 = .ok (.iconst (-1), 1) := by decide +kernel
theorem dX0_moveNodes_19 : decode cX0_moveNodes 19 = .ok (.if_icmp .eq 27, 3) := by decide +kernel
theorem dX0_moveNodes_22 : decode cX0_moveNodes 22 = .ok (.aload_n 0, 1) := by decide +kernel
theorem dX0_moveNodes_23 : decode cX0_moveNodes 23 = .ok (.getfield 13, 3) := by decide +kernel
theorem dX0_moveNodes_26 : decode cX0_moveNodes 26 = .ok (.iload_n 2, 1) := by decide +kernel
theorem dX0_moveNodes_27 : decode cX0_moveNodes 27 = .ok (.aload_n 0, 1) := by decide +kernel
theorem dX0_moveNodes_28 : decode cX0_moveNodes 28 = .ok (.getfield 13, 3) := by decide +kernel
theorem dX0_moveNodes_31 : decode cX0_moveNodes 31 = .ok (.iload_n 1, 1) := by decide +kernel
theorem dX0_moveNodes_32 : decode cX0_moveNodes 32 = .ok (.iaload, 1) := by decide +kernel
theorem dX0_moveNodes_33 : decode cX0_moveNodes 33 = .ok (.iastore, 1) := by decide +kernel
theorem dX0_moveNodes_34 : decode cX0_moveNodes 34 = .ok (.aload_n 0, 1) := by decide +kernel
theorem dX0_moveNodes_35 : decode cX0_moveNodes 35 = .ok (.getfield 17, 3) := by decide +kernel
theorem dX0_moveNodes_38 : decode cX0_moveNodes 38 = .ok (.iload_n 2, 1) := by decide +kernel
theorem dX0_moveNodes_39 : decode cX0_moveNodes 39 = .ok (.aload_n 0, 1) := by decide +kernel
theorem dX0_moveNodes_40 : decode cX0_moveNodes 40 = .ok (.getfield 17, 3) := by decide +kernel
theorem dX0_moveNodes_43 : decode cX0_moveNodes 43 = .ok (.iload_n 1, 1) := by decide +kernel
theorem dX0_moveNodes_44 : decode cX0_moveNodes 44 = .ok (.baload, 1) := by decide +kernel
theorem dX0_moveNodes_45 : decode cX0_moveNodes 45 = .ok (.bastore, 1) := by decide +kernel
theorem dX0_moveNodes_46 : decode cX0_moveNodes 46 = .ok (.iinc 1 1, 3) := by decide +kernel
theorem dX0_moveNodes_49 : decode cX0_moveNodes 49 = .ok (.goto (-47), 3) := by decide +kernel
theorem dX0_moveNodes_52 : decode cX0_moveNodes 52 = .ok (.return_, 1) := by decide +kernel
theorem dX0_became_0 : decode cX0_became 0 = .ok (.iload_n 1, 1) := by decide +kernel
theorem dX0_became_1 : decode cX0_became 1 = .ok (.ifCond .lt 9, 3) := by decide +kernel
theorem dX0_became_4 : decode cX0_became 4 = .ok (.iload_n 1, 1) := by decide +kernel
theorem dX0_became_5 : decode cX0_became 5 = .ok (.bipush 14, 2) := by decide +kernel
theorem dX0_became_7 : decode cX0_became 7 = .ok (.if_icmp .lt 5, 3) := by decide +kernel
theorem dX0_became_10 : decode cX0_became 10 = .ok (.iconst (-1), 1) := by decide +kernel
theorem dX0_became_11 : decode cX0_became 11 = .ok (.ireturn, 1) := by decide +kernel
theorem dX0_became_12 : decode cX0_became 12 = .ok (.aload_n 0, 1) := by decide +kernel
theorem dX0_became_13 : decode cX0_became 13 = .ok (.getfield 36, 3) := by decide +kernel
theorem dX0_became_16 : decode cX0_became 16 = .ok (.iload_n 1, 1) := by decide +kernel
theorem dX0_became_17 : decode cX0_became 17 = .ok (.iaload, 1) := by decide +kernel
theorem dX0_became_18 : decode cX0_became 18 = .ok (.ireturn, 1) := by decide +kernel
theorem dX0_node_0 : decode cX0_node 0 = .ok (.iload_n 1, 1) := by decide +kernel
theorem dX0_node_1 : decode cX0_node 1 = .ok (.ifCond .lt 10, 3) := by decide +kernel
theorem dX0_node_4 : decode cX0_node 4 = .ok (.iload_n 1, 1) := by decide +kernel
theorem dX0_node_5 : decode cX0_node 5 = .ok (.sipush 1000, 3) := by decide +kernel
theorem dX0_node_8 : decode cX0_node 8 = .ok (.if_icmp .le 13, 3) := by decide +kernel
theorem dX0_node_11 : decode cX0_node 11 = .ok (.new 57, 3) := by decide +kernel
theorem dX0_node_14 : decode cX0_node 14 = .ok (.dup, 1) := by decide +kernel
theorem dX0_node_15 : decode cX0_node 15 = .ok (.ldc 59, 2) := by decide +kernel
theorem dX0_node_17 : decode cX0_node 17 = .ok (.invokespecial 61, 3) := by decide +kernel
theorem dX0_node_20 : decode cX0_node 20 = .ok (.athrow, 1) := by decide +kernel
theorem dX0_node_21 : decode cX0_node 21 = .ok (.aload_n 0, 1) := by decide +kernel
theorem dX0_node_22 : decode cX0_node 22 = .ok (.getfield 7, 3) := by decide +kernel
theorem dX0_node_25 : decode cX0_node 25 = .ok (.bipush 14, 2) := by decide +kernel
theorem dX0_node_27 : decode cX0_node 27 = .ok (.if_icmp .lt 13, 3) := by decide +kernel
theorem dX0_node_30 : decode cX0_node 30 = .ok (.new 64, 3) := by decide +kernel
theorem dX0_node_33 : decode cX0_node 33 = .ok (.dup, 1) := by decide +kernel
theorem dX0_node_34 : decode cX0_node 34 = .ok (.ldc 66, 2) := by decide +kernel
theorem dX0_node_36 : decode cX0_node 36 = .ok (.invokespecial 68, 3) := by decide +kernel
theorem dX0_node_39 : decode cX0_node 39 = .ok (.athrow, 1) := by decide +kernel
theorem dX0_node_40 : decode cX0_node 40 = .ok (.aload_n 0, 1) := by decide +kernel
theorem dX0_node_41 : decode cX0_node 41 = .ok (.getfield 13, 3) := by decide +kernel
theorem dX0_node_44 : decode cX0_node 44 = .ok (.aload_n 0, 1) := by decide +kernel
theorem dX0_node_45 : decode cX0_node 45 = .ok (.getfield 7, 3) := by decide +kernel
theorem dX0_node_48 : decode cX0_node 48 = .ok (.iload_n 1, 1) := by decide +kernel
theorem dX0_node_49 : decode cX0_node 49 = .ok (.iastore, 1) := by decide +kernel
theorem dX0_node_50 : decode cX0_node 50 = .ok (.aload_n 0, 1) := by decide +kernel
theorem dX0_node_51 : decode cX0_node 51 = .ok (.getfield 17, 3) := by decide +kernel
theorem dX0_node_54 : decode cX0_node 54 = .ok (.aload_n 0, 1) := by decide +kernel
theorem dX0_node_55 : decode cX0_node 55 = .ok (.getfield 7, 3) := by decide +kernel
theorem dX0_node_58 : decode cX0_node 58 = .ok (.iload_n 2, 1) := by decide +kernel
theorem dX0_node_59 : decode cX0_node 59 = .ok (.bastore, 1) := by decide +kernel
theorem dX0_node_60 : decode cX0_node 60 = .ok (.aload_n 0, 1) := by decide +kernel
theorem dX0_node_61 : decode cX0_node 61 = .ok (.dup, 1) := by decide +kernel
theorem dX0_node_62 : decode cX0_node 62 = .ok (.getfield 7, 3) := by decide +kernel
theorem dX0_node_65 : decode cX0_node 65 = .ok (.iconst 1, 1) := by decide +kernel
theorem dX0_node_66 : decode cX0_node 66 = .ok (.iadd, 1) := by decide +kernel
theorem dX0_node_67 : decode cX0_node 67 = .ok (.putfield 7, 3) := by decide +kernel
theorem dX0_node_70 : decode cX0_node 70 = .ok (.aload_n 0, 1) := by decide +kernel
theorem dX0_node_71 : decode cX0_node 71 = .ok (.getfield 7, 3) := by decide +kernel
theorem dX0_node_74 : decode cX0_node 74 = .ok (.iconst 1, 1) := by decide +kernel
theorem dX0_node_75 : decode cX0_node 75 = .ok (.isub, 1) := by decide +kernel
theorem dX0_node_76 : decode cX0_node 76 = .ok (.ireturn, 1) := by decide +kernel
theorem dX0_join_0 : decode cX0_join 0 = .ok (.iload_n 1, 1) := by decide +kernel
theorem dX0_join_1 : decode cX0_join 1 = .ok (.iload_n 2, 1) := by decide +kernel
theorem dX0_join_2 : decode cX0_join 2 = .ok (.invokestatic 69, 3) := by decide +kernel
theorem dX0_join_5 : decode cX0_join 5 = .ok (.ifCond .eq 20, 3) := by decide +kernel
theorem dX0_join_8 : decode cX0_join 8 = .ok (.aload_n 0, 1) := by decide +kernel
theorem dX0_join_9 : decode cX0_join 9 = .ok (.iload_n 3, 1) := by decide +kernel
theorem dX0_join_10 : decode cX0_join 10 = .ok (.invokevirtual 73, 3) := by decide +kernel
theorem dX0_join_13 : decode cX0_join 13 = .ok (.ifCond .eq 12, 3) := by decide +kernel
theorem dX0_join_16 : decode cX0_join 16 = .ok (.aload_n 0, 1) := by decide +kernel
theorem dX0_join_17 : decode cX0_join 17 = .ok (.iload 4, 2) := by decide +kernel
theorem dX0_join_19 : decode cX0_join 19 = .ok (.invokevirtual 73, 3) := by decide +kernel
theorem dX0_join_22 : decode cX0_join 22 = .ok (.ifCond .ne 13, 3) := by decide +kernel
theorem dX0_join_25 : decode cX0_join 25 = .ok (.new 77, 3) := by decide +kernel
theorem dX0_join_28 : decode cX0_join 28 = .ok (.dup, 1) := by decide +kernel
theorem dX0_join_29 : decode cX0_join 29 = .ok (.ldc 79, 2) := by decide +kernel
theorem dX0_join_31 : decode cX0_join 31 = .ok (.invokespecial 81, 3) := by decide +kernel
theorem dX0_join_34 : decode cX0_join 34 = .ok (.athrow, 1) := by decide +kernel
theorem dX0_join_35 : decode cX0_join 35 = .ok (.aload_n 0, 1) := by decide +kernel
theorem dX0_join_36 : decode cX0_join 36 = .ok (.getfield 13, 3) := by decide +kernel
theorem dX0_join_39 : decode cX0_join 39 = .ok (.iload_n 3, 1) := by decide +kernel
theorem dX0_join_40 : decode cX0_join 40 = .ok (.iaload, 1) := by decide +kernel
theorem dX0_join_41 : decode cX0_join 41 = .ok (.aload_n 0, 1) := by decide +kernel
theorem dX0_join_42 : decode cX0_join 42 = .ok (.getfield 13, 3) := by decide +kernel
theorem dX0_join_45 : decode cX0_join 45 = .ok (.iload 4, 2) := by decide +kernel
theorem dX0_join_47 : decode cX0_join 47 = .ok (.iaload, 1) := by decide +kernel
theorem dX0_join_48 : decode cX0_join 48 = .ok (.if_icmp .gt 13, 3) := by decide +kernel
theorem dX0_join_51 : decode cX0_join 51 = .ok (.new 57, 3) := by decide +kernel
theorem dX0_join_54 : decode cX0_join 54 = .ok (.dup, 1) := by decide +kernel
theorem dX0_join_55 : decode cX0_join 55 = .ok (.ldc 82, 2) := by decide +kernel
theorem dX0_join_57 : decode cX0_join 57 = .ok (.invokespecial 61, 3) := by decide +kernel
theorem dX0_join_60 : decode cX0_join 60 = .ok (.athrow, 1) := by decide +kernel
theorem dX0_join_61 : decode cX0_join 61 = .ok (.aload_n 0, 1) := by decide +kernel
theorem dX0_join_62 : decode cX0_join 62 = .ok (.iload_n 1, 1) := by decide +kernel
theorem dX0_join_63 : decode cX0_join 63 = .ok (.iload_n 2, 1) := by decide +kernel
theorem dX0_join_64 : decode cX0_join 64 = .ok (.iload_n 3, 1) := by decide +kernel
theorem dX0_join_65 : decode cX0_join 65 = .ok (.iload 4, 2) := by decide +kernel
theorem dX0_join_67 : decode cX0_join 67 = .ok (.invokevirtual 84, 3) := by decide +kernel
theorem dX0_join_70 : decode cX0_join 70 = .ok (.ifCond .eq 13, 3) := by decide +kernel
theorem dX0_join_73 : decode cX0_join 73 = .ok (.new 64, 3) := by decide +kernel
theorem dX0_join_76 : decode cX0_join 76 = .ok (.dup, 1) := by decide +kernel
theorem dX0_join_77 : decode cX0_join 77 = .ok (.ldc 88, 2) := by decide +kernel
theorem dX0_join_79 : decode cX0_join 79 = .ok (.invokespecial 68, 3) := by decide +kernel
theorem dX0_join_82 : decode cX0_join 82 = .ok (.athrow, 1) := by decide +kernel
theorem dX0_join_83 : decode cX0_join 83 = .ok (.aload_n 0, 1) := by decide +kernel
theorem dX0_join_84 : decode cX0_join 84 = .ok (.iload_n 1, 1) := by decide +kernel
theorem dX0_join_85 : decode cX0_join 85 = .ok (.iload_n 2, 1) := by decide +kernel
theorem dX0_join_86 : decode cX0_join 86 = .ok (.iload 4, 2) := by decide +kernel
theorem dX0_join_88 : decode cX0_join 88 = .ok (.iload_n 3, 1) := by decide +kernel
theorem dX0_join_89 : decode cX0_join 89 = .ok (.invokevirtual 90, 3) := by decide +kernel
theorem dX0_join_92 : decode cX0_join 92 = .ok (.ireturn, 1) := by decide +kernel
theorem dX0_isRun_0 : decode cX0_isRun 0 = .ok (.iload_n 0, 1) := by decide +kernel
theorem dX0_isRun_1 : decode cX0_isRun 1 = .ok (.ifCond .lt 18, 3) := by decide +kernel
theorem dX0_isRun_4 : decode cX0_isRun 4 = .ok (.iload_n 0, 1) := by decide +kernel
theorem dX0_isRun_5 : decode cX0_isRun 5 = .ok (.iload_n 1, 1) := by decide +kernel
theorem dX0_isRun_6 : decode cX0_isRun 6 = .ok (.if_icmp .ge 13, 3) := by decide +kernel
theorem dX0_isRun_9 : decode cX0_isRun 9 = .ok (.iload_n 1, 1) := by decide +kernel
theorem dX0_isRun_10 : decode cX0_isRun 10 = .ok (.bipush 60, 2) := by decide +kernel
theorem dX0_isRun_12 : decode cX0_isRun 12 = .ok (.if_icmp .gt 7, 3) := by decide +kernel
theorem dX0_isRun_15 : decode cX0_isRun 15 = .ok (.iconst 1, 1) := by decide +kernel
theorem dX0_isRun_16 : decode cX0_isRun 16 = .ok (.goto 4, 3) := by decide +kernel
theorem dX0_isRun_19 : decode cX0_isRun 19 = .ok (.iconst 0, 1) := by decide +kernel
theorem dX0_isRun_20 : decode cX0_isRun 20 = .ok (.ireturn, 1) := by decide +kernel
theorem dX0_isNode_0 : decode cX0_isNode 0 = .ok (.iload_n 1, 1) := by decide +kernel
theorem dX0_isNode_1 : decode cX0_isNode 1 = .ok (.ifCond .lt 15, 3) := by decide +kernel
theorem dX0_isNode_4 : decode cX0_isNode 4 = .ok (.iload_n 1, 1) := by decide +kernel
theorem dX0_isNode_5 : decode cX0_isNode 5 = .ok (.aload_n 0, 1) := by decide +kernel
theorem dX0_isNode_6 : decode cX0_isNode 6 = .ok (.getfield 7, 3) := by decide +kernel
theorem dX0_isNode_9 : decode cX0_isNode 9 = .ok (.if_icmp .ge 7, 3) := by decide +kernel
theorem dX0_isNode_12 : decode cX0_isNode 12 = .ok (.iconst 1, 1) := by decide +kernel
theorem dX0_isNode_13 : decode cX0_isNode 13 = .ok (.goto 4, 3) := by decide +kernel
theorem dX0_isNode_16 : decode cX0_isNode 16 = .ok (.iconst 0, 1) := by decide +kernel
theorem dX0_isNode_17 : decode cX0_isNode 17 = .ok (.ireturn, 1) := by decide +kernel
theorem dX0_hasParentBeside_0 : decode cX0_hasParentBeside 0 = .ok (.iload_n 1, 1) := by decide +kernel
theorem dX0_hasParentBeside_1 : decode cX0_hasParentBeside 1 = .ok (.istore 5, 2) := by decide +kernel
theorem dX0_hasParentBeside_3 : decode cX0_hasParentBeside 3 = .ok (.iload 5, 2) := by decide +kernel
theorem dX0_hasParentBeside_5 : decode cX0_hasParentBeside 5 = .ok (.iload_n 2, 1) := by decide +kernel
theorem dX0_hasParentBeside_6 : decode cX0_hasParentBeside 6 = .ok (.if_icmp .ge 33, 3) := by decide +kernel
theorem dX0_hasParentBeside_9 : decode cX0_hasParentBeside 9 = .ok (.aload_n 0, 1) := by decide +kernel
theorem dX0_hasParentBeside_10 : decode cX0_hasParentBeside 10 = .ok (.iload 5, 2) := by decide +kernel
theorem dX0_hasParentBeside_12 : decode cX0_hasParentBeside 12 = .ok (.iload 4, 2) := by decide +kernel
theorem dX0_hasParentBeside_14 : decode cX0_hasParentBeside 14 = .ok (.invokevirtual 135, 3) := by decide +kernel
theorem dX0_hasParentBeside_17 : decode cX0_hasParentBeside 17 = .ok (.istore 6, 2) := by decide +kernel
theorem dX0_hasParentBeside_19 : decode cX0_hasParentBeside 19 = .ok (.iload 6, 2) := by decide +kernel
theorem dX0_hasParentBeside_21 : decode cX0_hasParentBeside 21 = .ok (.iconst (-1), 1) := by decide +kernel
theorem dX0_hasParentBeside_22 : decode cX0_hasParentBeside 22 = .ok (.if_icmp .eq 11, 3) := by decide +kernel
theorem dX0_hasParentBeside_25 : decode cX0_hasParentBeside 25 = .ok (.iload 6, 2) := by decide +kernel
theorem dX0_hasParentBeside_27 : decode cX0_hasParentBeside 27 = .ok (.iload_n 3, 1) := by decide +kernel
theorem dX0_hasParentBeside_28 : decode cX0_hasParentBeside 28 = .ok (.if_icmp .eq 5, 3) := by decide +kernel
theorem dX0_hasParentBeside_31 : decode cX0_hasParentBeside 31 = .ok (.iconst 1, 1) := by decide +kernel
theorem dX0_hasParentBeside_32 : decode cX0_hasParentBeside 32 = .ok (.ireturn, 1) := by decide +kernel
theorem dX0_hasParentBeside_33 : decode cX0_hasParentBeside 33 = .ok (.iinc 5 1, 3) := by decide +kernel
theorem dX0_hasParentBeside_36 : decode cX0_hasParentBeside 36 = .ok (.goto (-33), 3) := by decide +kernel
theorem dX0_hasParentBeside_39 : decode cX0_hasParentBeside 39 = .ok (.iconst 0, 1) := by decide +kernel
theorem dX0_hasParentBeside_40 : decode cX0_hasParentBeside 40 = .ok (.ireturn, 1) := by decide +kernel
theorem dX0_setParents_0 : decode cX0_setParents 0 = .ok (.iconst 0, 1) := by decide +kernel
theorem dX0_setParents_1 : decode cX0_setParents 1 = .ok (.istore 5, 2) := by decide +kernel
theorem dX0_setParents_3 : decode cX0_setParents 3 = .ok (.iload_n 1, 1) := by decide +kernel
theorem dX0_setParents_4 : decode cX0_setParents 4 = .ok (.istore 6, 2) := by decide +kernel
theorem dX0_setParents_6 : decode cX0_setParents 6 = .ok (.iload 6, 2) := by decide +kernel
theorem dX0_setParents_8 : decode cX0_setParents 8 = .ok (.iload_n 2, 1) := by decide +kernel
theorem dX0_setParents_9 : decode cX0_setParents 9 = .ok (.if_icmp .ge 38, 3) := by decide +kernel
theorem dX0_setParents_12 : decode cX0_setParents 12 = .ok (.aload_n 0, 1) := by decide +kernel
theorem dX0_setParents_13 : decode cX0_setParents 13 = .ok (.iload 6, 2) := by decide +kernel
theorem dX0_setParents_15 : decode cX0_setParents 15 = .ok (.iload_n 3, 1) := by decide +kernel
theorem dX0_setParents_16 : decode cX0_setParents 16 = .ok (.invokevirtual 135, 3) := by decide +kernel
theorem dX0_setParents_19 : decode cX0_setParents 19 = .ok (.iload 4, 2) := by decide +kernel
theorem dX0_setParents_21 : decode cX0_setParents 21 = .ok (.if_icmp .eq 20, 3) := by decide +kernel
theorem dX0_setParents_24 : decode cX0_setParents 24 = .ok (.aload_n 0, 1) := by decide +kernel
theorem dX0_setParents_25 : decode cX0_setParents 25 = .ok (.getfield 21, 3) := by decide +kernel
theorem dX0_setParents_28 : decode cX0_setParents 28 = .ok (.iload 6, 2) := by decide +kernel
theorem dX0_setParents_30 : decode cX0_setParents 30 = .ok (.bipush 14, 2) := by decide +kernel
theorem dX0_setParents_32 : decode cX0_setParents 32 = .ok (.imul, 1) := by decide +kernel
theorem dX0_setParents_33 : decode cX0_setParents 33 = .ok (.iload_n 3, 1) := by decide +kernel
theorem dX0_setParents_34 : decode cX0_setParents 34 = .ok (.iadd, 1) := by decide +kernel
theorem dX0_setParents_35 : decode cX0_setParents 35 = .ok (.iload 4, 2) := by decide +kernel
theorem dX0_setParents_37 : decode cX0_setParents 37 = .ok (.iastore, 1) := by decide +kernel
theorem dX0_setParents_38 : decode cX0_setParents 38 = .ok (.iinc 5 1, 3) := by decide +kernel
theorem dX0_setParents_41 : decode cX0_setParents 41 = .ok (.iinc 6 1, 3) := by decide +kernel
theorem dX0_setParents_44 : decode cX0_setParents 44 = .ok (.goto (-38), 3) := by decide +kernel
theorem dX0_setParents_47 : decode cX0_setParents 47 = .ok (.iload 5, 2) := by decide +kernel
theorem dX0_setParents_49 : decode cX0_setParents 49 = .ok (.ireturn, 1) := by decide +kernel
theorem dX0_part_0 : decode cX0_part 0 = .ok (.iload_n 1, 1) := by decide +kernel
theorem dX0_part_1 : decode cX0_part 1 = .ok (.iload_n 2, 1) := by decide +kernel
theorem dX0_part_2 : decode cX0_part 2 = .ok (.invokestatic 69, 3) := by decide +kernel
theorem dX0_part_5 : decode cX0_part 5 = .ok (.ifCond .eq 11, 3) := by decide +kernel
theorem dX0_part_8 : decode cX0_part 8 = .ok (.aload_n 0, 1) := by decide +kernel
theorem dX0_part_9 : decode cX0_part 9 = .ok (.iload_n 3, 1) := by decide +kernel
theorem dX0_part_10 : decode cX0_part 10 = .ok (.invokevirtual 73, 3) := by decide +kernel
theorem dX0_part_13 : decode cX0_part 13 = .ok (.ifCond .ne 13, 3) := by decide +kernel
theorem dX0_part_16 : decode cX0_part 16 = .ok (.new 77, 3) := by decide +kernel
theorem dX0_part_19 : decode cX0_part 19 = .ok (.dup, 1) := by decide +kernel
theorem dX0_part_20 : decode cX0_part 20 = .ok (.ldc 79, 2) := by decide +kernel
theorem dX0_part_22 : decode cX0_part 22 = .ok (.invokespecial 81, 3) := by decide +kernel
theorem dX0_part_25 : decode cX0_part 25 = .ok (.athrow, 1) := by decide +kernel
theorem dX0_part_26 : decode cX0_part 26 = .ok (.aload_n 0, 1) := by decide +kernel
theorem dX0_part_27 : decode cX0_part 27 = .ok (.iload_n 1, 1) := by decide +kernel
theorem dX0_part_28 : decode cX0_part 28 = .ok (.iload_n 2, 1) := by decide +kernel
theorem dX0_part_29 : decode cX0_part 29 = .ok (.iload_n 3, 1) := by decide +kernel
theorem dX0_part_30 : decode cX0_part 30 = .ok (.iconst (-1), 1) := by decide +kernel
theorem dX0_part_31 : decode cX0_part 31 = .ok (.invokevirtual 90, 3) := by decide +kernel
theorem dX0_part_34 : decode cX0_part 34 = .ok (.ireturn, 1) := by decide +kernel
theorem dX0_site_0 : decode cX0_site 0 = .ok (.iload_n 1, 1) := by decide +kernel
theorem dX0_site_1 : decode cX0_site 1 = .ok (.invokestatic 94, 3) := by decide +kernel
theorem dX0_site_4 : decode cX0_site 4 = .ok (.ifCond .ne 13, 3) := by decide +kernel
theorem dX0_site_7 : decode cX0_site 7 = .ok (.new 77, 3) := by decide +kernel
theorem dX0_site_10 : decode cX0_site 10 = .ok (.dup, 1) := by decide +kernel
theorem dX0_site_11 : decode cX0_site 11 = .ok (.ldc 97, 2) := by decide +kernel
theorem dX0_site_13 : decode cX0_site 13 = .ok (.invokespecial 81, 3) := by decide +kernel
theorem dX0_site_16 : decode cX0_site 16 = .ok (.athrow, 1) := by decide +kernel
theorem dX0_site_17 : decode cX0_site 17 = .ok (.iload_n 2, 1) := by decide +kernel
theorem dX0_site_18 : decode cX0_site 18 = .ok (.ifCond .lt 16, 3) := by decide +kernel
theorem dX0_site_21 : decode cX0_site 21 = .ok (.iload_n 2, 1) := by decide +kernel
theorem dX0_site_22 : decode cX0_site 22 = .ok (.iconst 4, 1) := by decide +kernel
theorem dX0_site_23 : decode cX0_site 23 = .ok (.if_icmp .ge 11, 3) := by decide +kernel
theorem dX0_site_26 : decode cX0_site 26 = .ok (.aload_n 0, 1) := by decide +kernel
theorem dX0_site_27 : decode cX0_site 27 = .ok (.iload_n 1, 1) := by decide +kernel
theorem dX0_site_28 : decode cX0_site 28 = .ok (.invokevirtual 99, 3) := by decide +kernel
theorem dX0_site_31 : decode cX0_site 31 = .ok (.ifCond .eq 13, 3) := by decide +kernel
theorem dX0_site_34 : decode cX0_site 34 = .ok (.new 57, 3) := by decide +kernel
theorem dX0_site_37 : decode cX0_site 37 = .ok (.dup, 1) := by decide +kernel
theorem dX0_site_38 : decode cX0_site 38 = .ok (.ldc 102, 2) := by decide +kernel
theorem dX0_site_40 : decode cX0_site 40 = .ok (.invokespecial 61, 3) := by decide +kernel
theorem dX0_site_43 : decode cX0_site 43 = .ok (.athrow, 1) := by decide +kernel
theorem dX0_site_44 : decode cX0_site 44 = .ok (.aload_n 0, 1) := by decide +kernel
theorem dX0_site_45 : decode cX0_site 45 = .ok (.getfield 24, 3) := by decide +kernel
theorem dX0_site_48 : decode cX0_site 48 = .ok (.bipush 8, 2) := by decide +kernel
theorem dX0_site_50 : decode cX0_site 50 = .ok (.if_icmp .lt 13, 3) := by decide +kernel
theorem dX0_site_53 : decode cX0_site 53 = .ok (.new 64, 3) := by decide +kernel
theorem dX0_site_56 : decode cX0_site 56 = .ok (.dup, 1) := by decide +kernel
theorem dX0_site_57 : decode cX0_site 57 = .ok (.ldc 104, 2) := by decide +kernel
theorem dX0_site_59 : decode cX0_site 59 = .ok (.invokespecial 68, 3) := by decide +kernel
theorem dX0_site_62 : decode cX0_site 62 = .ok (.athrow, 1) := by decide +kernel
theorem dX0_site_63 : decode cX0_site 63 = .ok (.aload_n 0, 1) := by decide +kernel
theorem dX0_site_64 : decode cX0_site 64 = .ok (.getfield 27, 3) := by decide +kernel
theorem dX0_site_67 : decode cX0_site 67 = .ok (.aload_n 0, 1) := by decide +kernel
theorem dX0_site_68 : decode cX0_site 68 = .ok (.getfield 24, 3) := by decide +kernel
theorem dX0_site_71 : decode cX0_site 71 = .ok (.iload_n 1, 1) := by decide +kernel
theorem dX0_site_72 : decode cX0_site 72 = .ok (.iastore, 1) := by decide +kernel
theorem dX0_site_73 : decode cX0_site 73 = .ok (.aload_n 0, 1) := by decide +kernel
theorem dX0_site_74 : decode cX0_site 74 = .ok (.getfield 30, 3) := by decide +kernel
theorem dX0_site_77 : decode cX0_site 77 = .ok (.aload_n 0, 1) := by decide +kernel
theorem dX0_site_78 : decode cX0_site 78 = .ok (.getfield 24, 3) := by decide +kernel
theorem dX0_site_81 : decode cX0_site 81 = .ok (.iload_n 2, 1) := by decide +kernel
theorem dX0_site_82 : decode cX0_site 82 = .ok (.iastore, 1) := by decide +kernel
theorem dX0_site_83 : decode cX0_site 83 = .ok (.aload_n 0, 1) := by decide +kernel
theorem dX0_site_84 : decode cX0_site 84 = .ok (.dup, 1) := by decide +kernel
theorem dX0_site_85 : decode cX0_site 85 = .ok (.getfield 24, 3) := by decide +kernel
theorem dX0_site_88 : decode cX0_site 88 = .ok (.iconst 1, 1) := by decide +kernel
theorem dX0_site_89 : decode cX0_site 89 = .ok (.iadd, 1) := by decide +kernel
theorem dX0_site_90 : decode cX0_site 90 = .ok (.putfield 24, 3) := by decide +kernel
theorem dX0_site_93 : decode cX0_site 93 = .ok (.aload_n 0, 1) := by decide +kernel
theorem dX0_site_94 : decode cX0_site 94 = .ok (.getfield 24, 3) := by decide +kernel
theorem dX0_site_97 : decode cX0_site 97 = .ok (.iconst 1, 1) := by decide +kernel
theorem dX0_site_98 : decode cX0_site 98 = .ok (.isub, 1) := by decide +kernel
theorem dX0_site_99 : decode cX0_site 99 = .ok (.ireturn, 1) := by decide +kernel
theorem dX0_isPlace_0 : decode cX0_isPlace 0 = .ok (.iload_n 0, 1) := by decide +kernel
theorem dX0_isPlace_1 : decode cX0_isPlace 1 = .ok (.ifCond .lt 13, 3) := by decide +kernel
theorem dX0_isPlace_4 : decode cX0_isPlace 4 = .ok (.iload_n 0, 1) := by decide +kernel
theorem dX0_isPlace_5 : decode cX0_isPlace 5 = .ok (.bipush 60, 2) := by decide +kernel
theorem dX0_isPlace_7 : decode cX0_isPlace 7 = .ok (.if_icmp .ge 7, 3) := by decide +kernel
theorem dX0_isPlace_10 : decode cX0_isPlace 10 = .ok (.iconst 1, 1) := by decide +kernel
theorem dX0_isPlace_11 : decode cX0_isPlace 11 = .ok (.goto 4, 3) := by decide +kernel
theorem dX0_isPlace_14 : decode cX0_isPlace 14 = .ok (.iconst 0, 1) := by decide +kernel
theorem dX0_isPlace_15 : decode cX0_isPlace 15 = .ok (.ireturn, 1) := by decide +kernel
theorem dX0_hasSite_0 : decode cX0_hasSite 0 = .ok (.iconst 0, 1) := by decide +kernel
theorem dX0_hasSite_1 : decode cX0_hasSite 1 = .ok (.istore_n 2, 1) := by decide +kernel
theorem dX0_hasSite_2 : decode cX0_hasSite 2 = .ok (.iload_n 2, 1) := by decide +kernel
theorem dX0_hasSite_3 : decode cX0_hasSite 3 = .ok (.aload_n 0, 1) := by decide +kernel
theorem dX0_hasSite_4 : decode cX0_hasSite 4 = .ok (.getfield 24, 3) := by decide +kernel
theorem dX0_hasSite_7 : decode cX0_hasSite 7 = .ok (.if_icmp .ge 21, 3) := by decide +kernel
theorem dX0_hasSite_10 : decode cX0_hasSite 10 = .ok (.aload_n 0, 1) := by decide +kernel
theorem dX0_hasSite_11 : decode cX0_hasSite 11 = .ok (.getfield 27, 3) := by decide +kernel
theorem dX0_hasSite_14 : decode cX0_hasSite 14 = .ok (.iload_n 2, 1) := by decide +kernel
theorem dX0_hasSite_15 : decode cX0_hasSite 15 = .ok (.iaload, 1) := by decide +kernel
theorem dX0_hasSite_16 : decode cX0_hasSite 16 = .ok (.iload_n 1, 1) := by decide +kernel
theorem dX0_hasSite_17 : decode cX0_hasSite 17 = .ok (.if_icmp .ne 5, 3) := by decide +kernel
theorem dX0_hasSite_20 : decode cX0_hasSite 20 = .ok (.iconst 1, 1) := by decide +kernel
theorem dX0_hasSite_21 : decode cX0_hasSite 21 = .ok (.ireturn, 1) := by decide +kernel
theorem dX0_hasSite_22 : decode cX0_hasSite 22 = .ok (.iinc 2 1, 3) := by decide +kernel
theorem dX0_hasSite_25 : decode cX0_hasSite 25 = .ok (.goto (-23), 3) := by decide +kernel
theorem dX0_hasSite_28 : decode cX0_hasSite 28 = .ok (.iconst 0, 1) := by decide +kernel
theorem dX0_hasSite_29 : decode cX0_hasSite 29 = .ok (.ireturn, 1) := by decide +kernel
theorem dX0_mutate_0 : decode cX0_mutate 0 = .ok (.aload_n 0, 1) := by decide +kernel
theorem dX0_mutate_1 : decode cX0_mutate 1 = .ok (.iload_n 1, 1) := by decide +kernel
theorem dX0_mutate_2 : decode cX0_mutate 2 = .ok (.invokevirtual 106, 3) := by decide +kernel
theorem dX0_mutate_5 : decode cX0_mutate 5 = .ok (.ifCond .eq 11, 3) := by decide +kernel
theorem dX0_mutate_8 : decode cX0_mutate 8 = .ok (.aload_n 0, 1) := by decide +kernel
theorem dX0_mutate_9 : decode cX0_mutate 9 = .ok (.iload_n 2, 1) := by decide +kernel
theorem dX0_mutate_10 : decode cX0_mutate 10 = .ok (.invokevirtual 73, 3) := by decide +kernel
theorem dX0_mutate_13 : decode cX0_mutate 13 = .ok (.ifCond .ne 13, 3) := by decide +kernel
theorem dX0_mutate_16 : decode cX0_mutate 16 = .ok (.new 77, 3) := by decide +kernel
theorem dX0_mutate_19 : decode cX0_mutate 19 = .ok (.dup, 1) := by decide +kernel
theorem dX0_mutate_20 : decode cX0_mutate 20 = .ok (.ldc 109, 2) := by decide +kernel
theorem dX0_mutate_22 : decode cX0_mutate 22 = .ok (.invokespecial 81, 3) := by decide +kernel
theorem dX0_mutate_25 : decode cX0_mutate 25 = .ok (.athrow, 1) := by decide +kernel
theorem dX0_mutate_26 : decode cX0_mutate 26 = .ok (.iload_n 3, 1) := by decide +kernel
theorem dX0_mutate_27 : decode cX0_mutate 27 = .ok (.iconst (-1), 1) := by decide +kernel
theorem dX0_mutate_28 : decode cX0_mutate 28 = .ok (.if_icmp .lt 8, 3) := by decide +kernel
theorem dX0_mutate_31 : decode cX0_mutate 31 = .ok (.iload_n 3, 1) := by decide +kernel
theorem dX0_mutate_32 : decode cX0_mutate 32 = .ok (.iconst 4, 1) := by decide +kernel
theorem dX0_mutate_33 : decode cX0_mutate 33 = .ok (.if_icmp .lt 13, 3) := by decide +kernel
theorem dX0_mutate_36 : decode cX0_mutate 36 = .ok (.new 57, 3) := by decide +kernel
theorem dX0_mutate_39 : decode cX0_mutate 39 = .ok (.dup, 1) := by decide +kernel
theorem dX0_mutate_40 : decode cX0_mutate 40 = .ok (.ldc 111, 2) := by decide +kernel
theorem dX0_mutate_42 : decode cX0_mutate 42 = .ok (.invokespecial 61, 3) := by decide +kernel
theorem dX0_mutate_45 : decode cX0_mutate 45 = .ok (.athrow, 1) := by decide +kernel
theorem dX0_mutate_46 : decode cX0_mutate 46 = .ok (.aload_n 0, 1) := by decide +kernel
theorem dX0_mutate_47 : decode cX0_mutate 47 = .ok (.getfield 33, 3) := by decide +kernel
theorem dX0_mutate_50 : decode cX0_mutate 50 = .ok (.iload_n 1, 1) := by decide +kernel
theorem dX0_mutate_51 : decode cX0_mutate 51 = .ok (.bipush 14, 2) := by decide +kernel
theorem dX0_mutate_53 : decode cX0_mutate 53 = .ok (.imul, 1) := by decide +kernel
theorem dX0_mutate_54 : decode cX0_mutate 54 = .ok (.iload_n 2, 1) := by decide +kernel
theorem dX0_mutate_55 : decode cX0_mutate 55 = .ok (.iadd, 1) := by decide +kernel
theorem dX0_mutate_56 : decode cX0_mutate 56 = .ok (.iaload, 1) := by decide +kernel
theorem dX0_mutate_57 : decode cX0_mutate 57 = .ok (.istore 4, 2) := by decide +kernel
theorem dX0_mutate_59 : decode cX0_mutate 59 = .ok (.aload_n 0, 1) := by decide +kernel
theorem dX0_mutate_60 : decode cX0_mutate 60 = .ok (.getfield 33, 3) := by decide +kernel
theorem dX0_mutate_63 : decode cX0_mutate 63 = .ok (.iload_n 1, 1) := by decide +kernel
theorem dX0_mutate_64 : decode cX0_mutate 64 = .ok (.bipush 14, 2) := by decide +kernel
theorem dX0_mutate_66 : decode cX0_mutate 66 = .ok (.imul, 1) := by decide +kernel
theorem dX0_mutate_67 : decode cX0_mutate 67 = .ok (.iload_n 2, 1) := by decide +kernel
theorem dX0_mutate_68 : decode cX0_mutate 68 = .ok (.iadd, 1) := by decide +kernel
theorem dX0_mutate_69 : decode cX0_mutate 69 = .ok (.iload_n 3, 1) := by decide +kernel
theorem dX0_mutate_70 : decode cX0_mutate 70 = .ok (.iastore, 1) := by decide +kernel
theorem dX0_mutate_71 : decode cX0_mutate 71 = .ok (.iload 4, 2) := by decide +kernel
theorem dX0_mutate_73 : decode cX0_mutate 73 = .ok (.ireturn, 1) := by decide +kernel
theorem dX0_isSite_0 : decode cX0_isSite 0 = .ok (.iload_n 1, 1) := by decide +kernel
theorem dX0_isSite_1 : decode cX0_isSite 1 = .ok (.ifCond .lt 15, 3) := by decide +kernel
theorem dX0_isSite_4 : decode cX0_isSite 4 = .ok (.iload_n 1, 1) := by decide +kernel
theorem dX0_isSite_5 : decode cX0_isSite 5 = .ok (.aload_n 0, 1) := by decide +kernel
theorem dX0_isSite_6 : decode cX0_isSite 6 = .ok (.getfield 24, 3) := by decide +kernel
theorem dX0_isSite_9 : decode cX0_isSite 9 = .ok (.if_icmp .ge 7, 3) := by decide +kernel
theorem dX0_isSite_12 : decode cX0_isSite 12 = .ok (.iconst 1, 1) := by decide +kernel
theorem dX0_isSite_13 : decode cX0_isSite 13 = .ok (.goto 4, 3) := by decide +kernel
theorem dX0_isSite_16 : decode cX0_isSite 16 = .ok (.iconst 0, 1) := by decide +kernel
theorem dX0_isSite_17 : decode cX0_isSite 17 = .ok (.ireturn, 1) := by decide +kernel
theorem dX0_time_0 : decode cX0_time 0 = .ok (.aload_n 0, 1) := by decide +kernel
theorem dX0_time_1 : decode cX0_time 1 = .ok (.iload_n 1, 1) := by decide +kernel
theorem dX0_time_2 : decode cX0_time 2 = .ok (.invokevirtual 73, 3) := by decide +kernel
theorem dX0_time_5 : decode cX0_time 5 = .ok (.ifCond .ne 13, 3) := by decide +kernel
theorem dX0_time_8 : decode cX0_time 8 = .ok (.new 77, 3) := by decide +kernel
theorem dX0_time_11 : decode cX0_time 11 = .ok (.dup, 1) := by decide +kernel
theorem dX0_time_12 : decode cX0_time 12 = .ok (.ldc 123, 2) := by decide +kernel
theorem dX0_time_14 : decode cX0_time 14 = .ok (.invokespecial 81, 3) := by decide +kernel
theorem dX0_time_17 : decode cX0_time 17 = .ok (.athrow, 1) := by decide +kernel
theorem dX0_time_18 : decode cX0_time 18 = .ok (.aload_n 0, 1) := by decide +kernel
theorem dX0_time_19 : decode cX0_time 19 = .ok (.getfield 13, 3) := by decide +kernel
theorem dX0_time_22 : decode cX0_time 22 = .ok (.iload_n 1, 1) := by decide +kernel
theorem dX0_time_23 : decode cX0_time 23 = .ok (.iaload, 1) := by decide +kernel
theorem dX0_time_24 : decode cX0_time 24 = .ok (.ireturn, 1) := by decide +kernel
theorem dX0_edge_0 : decode cX0_edge 0 = .ok (.aload_n 0, 1) := by decide +kernel
theorem dX0_edge_1 : decode cX0_edge 1 = .ok (.iload_n 1, 1) := by decide +kernel
theorem dX0_edge_2 : decode cX0_edge 2 = .ok (.invokevirtual 125, 3) := by decide +kernel
theorem dX0_edge_5 : decode cX0_edge 5 = .ok (.istore_n 3, 1) := by decide +kernel
theorem dX0_edge_6 : decode cX0_edge 6 = .ok (.iload_n 3, 1) := by decide +kernel
theorem dX0_edge_7 : decode cX0_edge 7 = .ok (.iconst (-1), 1) := by decide +kernel
theorem dX0_edge_8 : decode cX0_edge 8 = .ok (.if_icmp .eq 12, 3) := by decide +kernel
theorem dX0_edge_11 : decode cX0_edge 11 = .ok (.iload_n 2, 1) := by decide +kernel
theorem dX0_edge_12 : decode cX0_edge 12 = .ok (.ifCond .lt 8, 3) := by decide +kernel
theorem dX0_edge_15 : decode cX0_edge 15 = .ok (.iload_n 2, 1) := by decide +kernel
theorem dX0_edge_16 : decode cX0_edge 16 = .ok (.iconst 3, 1) := by decide +kernel
theorem dX0_edge_17 : decode cX0_edge 17 = .ok (.if_icmp .le 13, 3) := by decide +kernel
theorem dX0_edge_20 : decode cX0_edge 20 = .ok (.new 77, 3) := by decide +kernel
theorem dX0_edge_23 : decode cX0_edge 23 = .ok (.dup, 1) := by decide +kernel
theorem dX0_edge_24 : decode cX0_edge 24 = .ok (.ldc 129, 2) := by decide +kernel
theorem dX0_edge_26 : decode cX0_edge 26 = .ok (.invokespecial 81, 3) := by decide +kernel
theorem dX0_edge_29 : decode cX0_edge 29 = .ok (.athrow, 1) := by decide +kernel
theorem dX0_edge_30 : decode cX0_edge 30 = .ok (.iload_n 3, 1) := by decide +kernel
theorem dX0_edge_31 : decode cX0_edge 31 = .ok (.bipush 14, 2) := by decide +kernel
theorem dX0_edge_33 : decode cX0_edge 33 = .ok (.idiv, 1) := by decide +kernel
theorem dX0_edge_34 : decode cX0_edge 34 = .ok (.istore 4, 2) := by decide +kernel
theorem dX0_edge_36 : decode cX0_edge 36 = .ok (.iload_n 3, 1) := by decide +kernel
theorem dX0_edge_37 : decode cX0_edge 37 = .ok (.bipush 14, 2) := by decide +kernel
theorem dX0_edge_39 : decode cX0_edge 39 = .ok (.irem, 1) := by decide +kernel
theorem dX0_edge_40 : decode cX0_edge 40 = .ok (.istore 5, 2) := by decide +kernel
theorem dX0_edge_42 : decode cX0_edge 42 = .ok (.iload_n 2, 1) := by decide +kernel
theorem dX0_edge_43 : decode cX0_edge 43 = .ok (.tableswitch 46 0 2 #[25, 28, 37], 25) := by decide +kernel
theorem dX0_edge_68 : decode cX0_edge 68 = .ok (.iload 4, 2) := by decide +kernel
theorem dX0_edge_70 : decode cX0_edge 70 = .ok (.ireturn, 1) := by decide +kernel
theorem dX0_edge_71 : decode cX0_edge 71 = .ok (.aload_n 0, 1) := by decide +kernel
theorem dX0_edge_72 : decode cX0_edge 72 = .ok (.iload 4, 2) := by decide +kernel
theorem dX0_edge_74 : decode cX0_edge 74 = .ok (.iload 5, 2) := by decide +kernel
theorem dX0_edge_76 : decode cX0_edge 76 = .ok (.invokevirtual 131, 3) := by decide +kernel
theorem dX0_edge_79 : decode cX0_edge 79 = .ok (.ireturn, 1) := by decide +kernel
theorem dX0_edge_80 : decode cX0_edge 80 = .ok (.aload_n 0, 1) := by decide +kernel
theorem dX0_edge_81 : decode cX0_edge 81 = .ok (.iload 4, 2) := by decide +kernel
theorem dX0_edge_83 : decode cX0_edge 83 = .ok (.iload 5, 2) := by decide +kernel
theorem dX0_edge_85 : decode cX0_edge 85 = .ok (.invokevirtual 135, 3) := by decide +kernel
theorem dX0_edge_88 : decode cX0_edge 88 = .ok (.ireturn, 1) := by decide +kernel
theorem dX0_edge_89 : decode cX0_edge 89 = .ok (.iload 5, 2) := by decide +kernel
theorem dX0_edge_91 : decode cX0_edge 91 = .ok (.ireturn, 1) := by decide +kernel
theorem dX0_findEdge_0 : decode cX0_findEdge 0 = .ok (.iconst 0, 1) := by decide +kernel
theorem dX0_findEdge_1 : decode cX0_findEdge 1 = .ok (.istore_n 2, 1) := by decide +kernel
theorem dX0_findEdge_2 : decode cX0_findEdge 2 = .ok (.aload_n 0, 1) := by decide +kernel
theorem dX0_findEdge_3 : decode cX0_findEdge 3 = .ok (.iconst (-1), 1) := by decide +kernel
theorem dX0_findEdge_4 : decode cX0_findEdge 4 = .ok (.invokevirtual 177, 3) := by decide +kernel
theorem dX0_findEdge_7 : decode cX0_findEdge 7 = .ok (.istore_n 3, 1) := by decide +kernel
theorem dX0_findEdge_8 : decode cX0_findEdge 8 = .ok (.iconst 0, 1) := by decide +kernel
theorem dX0_findEdge_9 : decode cX0_findEdge 9 = .ok (.istore 4, 2) := by decide +kernel
theorem dX0_findEdge_11 : decode cX0_findEdge 11 = .ok (.iload 4, 2) := by decide +kernel
theorem dX0_findEdge_13 : decode cX0_findEdge 13 = .ok (.bipush 14, 2) := by decide +kernel
theorem dX0_findEdge_15 : decode cX0_findEdge 15 = .ok (.if_icmp .ge 94, 3) := by decide +kernel
theorem dX0_findEdge_18 : decode cX0_findEdge 18 = .ok (.iload_n 3, 1) := by decide +kernel
theorem dX0_findEdge_19 : decode cX0_findEdge 19 = .ok (.iconst (-1), 1) := by decide +kernel
theorem dX0_findEdge_20 : decode cX0_findEdge 20 = .ok (.if_icmp .eq 89, 3) := by decide +kernel
theorem dX0_findEdge_23 : decode cX0_findEdge 23 = .ok (.iconst 0, 1) := by decide +kernel
theorem dX0_findEdge_24 : decode cX0_findEdge 24 = .ok (.istore 5, 2) := by decide +kernel
theorem dX0_findEdge_26 : decode cX0_findEdge 26 = .ok (.iload 5, 2) := by decide +kernel
theorem dX0_findEdge_28 : decode cX0_findEdge 28 = .ok (.aload_n 0, 1) := by decide +kernel
theorem dX0_findEdge_29 : decode cX0_findEdge 29 = .ok (.getfield 7, 3) := by decide +kernel
theorem dX0_findEdge_32 : decode cX0_findEdge 32 = .ok (.if_icmp .ge 65, 3) := by decide +kernel
theorem dX0_findEdge_35 : decode cX0_findEdge 35 = .ok (.iconst 0, 1) := by decide +kernel
theorem dX0_findEdge_36 : decode cX0_findEdge 36 = .ok (.istore 6, 2) := by decide +kernel
theorem dX0_findEdge_38 : decode cX0_findEdge 38 = .ok (.iload 6, 2) := by decide +kernel
theorem dX0_findEdge_40 : decode cX0_findEdge 40 = .ok (.bipush 60, 2) := by decide +kernel
theorem dX0_findEdge_42 : decode cX0_findEdge 42 = .ok (.if_icmp .ge 49, 3) := by decide +kernel
theorem dX0_findEdge_45 : decode cX0_findEdge 45 = .ok (.aload_n 0, 1) := by decide +kernel
theorem dX0_findEdge_46 : decode cX0_findEdge 46 = .ok (.iload 6, 2) := by decide +kernel
theorem dX0_findEdge_48 : decode cX0_findEdge 48 = .ok (.iload 5, 2) := by decide +kernel
theorem dX0_findEdge_50 : decode cX0_findEdge 50 = .ok (.invokevirtual 135, 3) := by decide +kernel
theorem dX0_findEdge_53 : decode cX0_findEdge 53 = .ok (.iload_n 3, 1) := by decide +kernel
theorem dX0_findEdge_54 : decode cX0_findEdge 54 = .ok (.if_icmp .ne 31, 3) := by decide +kernel
theorem dX0_findEdge_57 : decode cX0_findEdge 57 = .ok (.aload_n 0, 1) := by decide +kernel
theorem dX0_findEdge_58 : decode cX0_findEdge 58 = .ok (.iload 6, 2) := by decide +kernel
theorem dX0_findEdge_60 : decode cX0_findEdge 60 = .ok (.iload 5, 2) := by decide +kernel
theorem dX0_findEdge_62 : decode cX0_findEdge 62 = .ok (.invokevirtual 174, 3) := by decide +kernel
theorem dX0_findEdge_65 : decode cX0_findEdge 65 = .ok (.ifCond .eq 20, 3) := by decide +kernel
theorem dX0_findEdge_68 : decode cX0_findEdge 68 = .ok (.iload_n 2, 1) := by decide +kernel
theorem dX0_findEdge_69 : decode cX0_findEdge 69 = .ok (.iload_n 1, 1) := by decide +kernel
theorem dX0_findEdge_70 : decode cX0_findEdge 70 = .ok (.if_icmp .ne 12, 3) := by decide +kernel
theorem dX0_findEdge_73 : decode cX0_findEdge 73 = .ok (.iload 6, 2) := by decide +kernel
theorem dX0_findEdge_75 : decode cX0_findEdge 75 = .ok (.bipush 14, 2) := by decide +kernel
theorem dX0_findEdge_77 : decode cX0_findEdge 77 = .ok (.imul, 1) := by decide +kernel
theorem dX0_findEdge_78 : decode cX0_findEdge 78 = .ok (.iload 5, 2) := by decide +kernel
theorem dX0_findEdge_80 : decode cX0_findEdge 80 = .ok (.iadd, 1) := by decide +kernel
theorem dX0_findEdge_81 : decode cX0_findEdge 81 = .ok (.ireturn, 1) := by decide +kernel
theorem dX0_findEdge_82 : decode cX0_findEdge 82 = .ok (.iinc 2 1, 3) := by decide +kernel
theorem dX0_findEdge_85 : decode cX0_findEdge 85 = .ok (.iinc 6 1, 3) := by decide +kernel
theorem dX0_findEdge_88 : decode cX0_findEdge 88 = .ok (.goto (-50), 3) := by decide +kernel
theorem dX0_findEdge_91 : decode cX0_findEdge 91 = .ok (.iinc 5 1, 3) := by decide +kernel
theorem dX0_findEdge_94 : decode cX0_findEdge 94 = .ok (.goto (-68), 3) := by decide +kernel
theorem dX0_findEdge_97 : decode cX0_findEdge 97 = .ok (.aload_n 0, 1) := by decide +kernel
theorem dX0_findEdge_98 : decode cX0_findEdge 98 = .ok (.iload_n 3, 1) := by decide +kernel
theorem dX0_findEdge_99 : decode cX0_findEdge 99 = .ok (.invokevirtual 177, 3) := by decide +kernel
theorem dX0_findEdge_102 : decode cX0_findEdge 102 = .ok (.istore_n 3, 1) := by decide +kernel
theorem dX0_findEdge_103 : decode cX0_findEdge 103 = .ok (.iinc 4 1, 3) := by decide +kernel
theorem dX0_findEdge_106 : decode cX0_findEdge 106 = .ok (.goto (-95), 3) := by decide +kernel
theorem dX0_findEdge_109 : decode cX0_findEdge 109 = .ok (.iconst (-1), 1) := by decide +kernel
theorem dX0_findEdge_110 : decode cX0_findEdge 110 = .ok (.ireturn, 1) := by decide +kernel
theorem dX0_nextByTime_0 : decode cX0_nextByTime 0 = .ok (.iconst (-1), 1) := by decide +kernel
theorem dX0_nextByTime_1 : decode cX0_nextByTime 1 = .ok (.istore_n 2, 1) := by decide +kernel
theorem dX0_nextByTime_2 : decode cX0_nextByTime 2 = .ok (.iconst 0, 1) := by decide +kernel
theorem dX0_nextByTime_3 : decode cX0_nextByTime 3 = .ok (.istore_n 3, 1) := by decide +kernel
theorem dX0_nextByTime_4 : decode cX0_nextByTime 4 = .ok (.iload_n 3, 1) := by decide +kernel
theorem dX0_nextByTime_5 : decode cX0_nextByTime 5 = .ok (.aload_n 0, 1) := by decide +kernel
theorem dX0_nextByTime_6 : decode cX0_nextByTime 6 = .ok (.getfield 7, 3) := by decide +kernel
theorem dX0_nextByTime_9 : decode cX0_nextByTime 9 = .ok (.if_icmp .ge 39, 3) := by decide +kernel
theorem dX0_nextByTime_12 : decode cX0_nextByTime 12 = .ok (.iload_n 1, 1) := by decide +kernel
theorem dX0_nextByTime_13 : decode cX0_nextByTime 13 = .ok (.iconst (-1), 1) := by decide +kernel
theorem dX0_nextByTime_14 : decode cX0_nextByTime 14 = .ok (.if_icmp .eq 12, 3) := by decide +kernel
theorem dX0_nextByTime_17 : decode cX0_nextByTime 17 = .ok (.aload_n 0, 1) := by decide +kernel
theorem dX0_nextByTime_18 : decode cX0_nextByTime 18 = .ok (.iload_n 1, 1) := by decide +kernel
theorem dX0_nextByTime_19 : decode cX0_nextByTime 19 = .ok (.iload_n 3, 1) := by decide +kernel
theorem dX0_nextByTime_20 : decode cX0_nextByTime 20 = .ok (.invokevirtual 180, 3) := by decide +kernel
theorem dX0_nextByTime_23 : decode cX0_nextByTime 23 = .ok (.ifCond .eq 19, 3) := by decide +kernel
theorem dX0_nextByTime_26 : decode cX0_nextByTime 26 = .ok (.iload_n 2, 1) := by decide +kernel
theorem dX0_nextByTime_27 : decode cX0_nextByTime 27 = .ok (.iconst (-1), 1) := by decide +kernel
theorem dX0_nextByTime_28 : decode cX0_nextByTime 28 = .ok (.if_icmp .eq 12, 3) := by decide +kernel
theorem dX0_nextByTime_31 : decode cX0_nextByTime 31 = .ok (.aload_n 0, 1) := by decide +kernel
theorem dX0_nextByTime_32 : decode cX0_nextByTime 32 = .ok (.iload_n 3, 1) := by decide +kernel
theorem dX0_nextByTime_33 : decode cX0_nextByTime 33 = .ok (.iload_n 2, 1) := by decide +kernel
theorem dX0_nextByTime_34 : decode cX0_nextByTime 34 = .ok (.invokevirtual 180, 3) := by decide +kernel
theorem dX0_nextByTime_37 : decode cX0_nextByTime 37 = .ok (.ifCond .eq 5, 3) := by decide +kernel
theorem dX0_nextByTime_40 : decode cX0_nextByTime 40 = .ok (.iload_n 3, 1) := by decide +kernel
theorem dX0_nextByTime_41 : decode cX0_nextByTime 41 = .ok (.istore_n 2, 1) := by decide +kernel
theorem dX0_nextByTime_42 : decode cX0_nextByTime 42 = .ok (.iinc 3 1, 3) := by decide +kernel
theorem dX0_nextByTime_45 : decode cX0_nextByTime 45 = .ok (.goto (-41), 3) := by decide +kernel
theorem dX0_nextByTime_48 : decode cX0_nextByTime 48 = .ok (.iload_n 2, 1) := by decide +kernel
theorem dX0_nextByTime_49 : decode cX0_nextByTime 49 = .ok (.ireturn, 1) := by decide +kernel
theorem dX0_isEarlier_0 : decode cX0_isEarlier 0 = .ok (.aload_n 0, 1) := by decide +kernel
theorem dX0_isEarlier_1 : decode cX0_isEarlier 1 = .ok (.getfield 13, 3) := by decide +kernel
theorem dX0_isEarlier_4 : decode cX0_isEarlier 4 = .ok (.iload_n 1, 1) := by decide +kernel
theorem dX0_isEarlier_5 : decode cX0_isEarlier 5 = .ok (.iaload, 1) := by decide +kernel
theorem dX0_isEarlier_6 : decode cX0_isEarlier 6 = .ok (.aload_n 0, 1) := by decide +kernel
theorem dX0_isEarlier_7 : decode cX0_isEarlier 7 = .ok (.getfield 13, 3) := by decide +kernel
theorem dX0_isEarlier_10 : decode cX0_isEarlier 10 = .ok (.iload_n 2, 1) := by decide +kernel
theorem dX0_isEarlier_11 : decode cX0_isEarlier 11 = .ok (.iaload, 1) := by decide +kernel
theorem dX0_isEarlier_12 : decode cX0_isEarlier 12 = .ok (.if_icmp .lt 23, 3) := by decide +kernel
theorem dX0_isEarlier_15 : decode cX0_isEarlier 15 = .ok (.aload_n 0, 1) := by decide +kernel
theorem dX0_isEarlier_16 : decode cX0_isEarlier 16 = .ok (.getfield 13, 3) := by decide +kernel
theorem dX0_isEarlier_19 : decode cX0_isEarlier 19 = .ok (.iload_n 1, 1) := by decide +kernel
theorem dX0_isEarlier_20 : decode cX0_isEarlier 20 = .ok (.iaload, 1) := by decide +kernel
theorem dX0_isEarlier_21 : decode cX0_isEarlier 21 = .ok (.aload_n 0, 1) := by decide +kernel
theorem dX0_isEarlier_22 : decode cX0_isEarlier 22 = .ok (.getfield 13, 3) := by decide +kernel
theorem dX0_isEarlier_25 : decode cX0_isEarlier 25 = .ok (.iload_n 2, 1) := by decide +kernel
theorem dX0_isEarlier_26 : decode cX0_isEarlier 26 = .ok (.iaload, 1) := by decide +kernel
theorem dX0_isEarlier_27 : decode cX0_isEarlier 27 = .ok (.if_icmp .ne 12, 3) := by decide +kernel
theorem dX0_isEarlier_30 : decode cX0_isEarlier 30 = .ok (.iload_n 1, 1) := by decide +kernel
theorem dX0_isEarlier_31 : decode cX0_isEarlier 31 = .ok (.iload_n 2, 1) := by decide +kernel
theorem dX0_isEarlier_32 : decode cX0_isEarlier 32 = .ok (.if_icmp .ge 7, 3) := by decide +kernel
theorem dX0_isEarlier_35 : decode cX0_isEarlier 35 = .ok (.iconst 1, 1) := by decide +kernel
theorem dX0_isEarlier_36 : decode cX0_isEarlier 36 = .ok (.goto 4, 3) := by decide +kernel
theorem dX0_isEarlier_39 : decode cX0_isEarlier 39 = .ok (.iconst 0, 1) := by decide +kernel
theorem dX0_isEarlier_40 : decode cX0_isEarlier 40 = .ok (.ireturn, 1) := by decide +kernel
theorem dX0_edgeEnd_0 : decode cX0_edgeEnd 0 = .ok (.iload_n 1, 1) := by decide +kernel
theorem dX0_edgeEnd_1 : decode cX0_edgeEnd 1 = .ok (.iconst 1, 1) := by decide +kernel
theorem dX0_edgeEnd_2 : decode cX0_edgeEnd 2 = .ok (.iadd, 1) := by decide +kernel
theorem dX0_edgeEnd_3 : decode cX0_edgeEnd 3 = .ok (.istore_n 3, 1) := by decide +kernel
theorem dX0_edgeEnd_4 : decode cX0_edgeEnd 4 = .ok (.iload_n 3, 1) := by decide +kernel
theorem dX0_edgeEnd_5 : decode cX0_edgeEnd 5 = .ok (.bipush 60, 2) := by decide +kernel
theorem dX0_edgeEnd_7 : decode cX0_edgeEnd 7 = .ok (.if_icmp .ge 24, 3) := by decide +kernel
theorem dX0_edgeEnd_10 : decode cX0_edgeEnd 10 = .ok (.aload_n 0, 1) := by decide +kernel
theorem dX0_edgeEnd_11 : decode cX0_edgeEnd 11 = .ok (.iload_n 3, 1) := by decide +kernel
theorem dX0_edgeEnd_12 : decode cX0_edgeEnd 12 = .ok (.iload_n 2, 1) := by decide +kernel
theorem dX0_edgeEnd_13 : decode cX0_edgeEnd 13 = .ok (.invokevirtual 135, 3) := by decide +kernel
theorem dX0_edgeEnd_16 : decode cX0_edgeEnd 16 = .ok (.aload_n 0, 1) := by decide +kernel
theorem dX0_edgeEnd_17 : decode cX0_edgeEnd 17 = .ok (.iload_n 1, 1) := by decide +kernel
theorem dX0_edgeEnd_18 : decode cX0_edgeEnd 18 = .ok (.iload_n 2, 1) := by decide +kernel
theorem dX0_edgeEnd_19 : decode cX0_edgeEnd 19 = .ok (.invokevirtual 135, 3) := by decide +kernel
theorem dX0_edgeEnd_22 : decode cX0_edgeEnd 22 = .ok (.if_icmp .ne 9, 3) := by decide +kernel
theorem dX0_edgeEnd_25 : decode cX0_edgeEnd 25 = .ok (.iinc 3 1, 3) := by decide +kernel
theorem dX0_edgeEnd_28 : decode cX0_edgeEnd 28 = .ok (.goto (-24), 3) := by decide +kernel
theorem dX0_edgeEnd_31 : decode cX0_edgeEnd 31 = .ok (.iload_n 3, 1) := by decide +kernel
theorem dX0_edgeEnd_32 : decode cX0_edgeEnd 32 = .ok (.ireturn, 1) := by decide +kernel
theorem dX0_parent_0 : decode cX0_parent 0 = .ok (.iload_n 1, 1) := by decide +kernel
theorem dX0_parent_1 : decode cX0_parent 1 = .ok (.invokestatic 94, 3) := by decide +kernel
theorem dX0_parent_4 : decode cX0_parent 4 = .ok (.ifCond .eq 11, 3) := by decide +kernel
theorem dX0_parent_7 : decode cX0_parent 7 = .ok (.aload_n 0, 1) := by decide +kernel
theorem dX0_parent_8 : decode cX0_parent 8 = .ok (.iload_n 2, 1) := by decide +kernel
theorem dX0_parent_9 : decode cX0_parent 9 = .ok (.invokevirtual 73, 3) := by decide +kernel
theorem dX0_parent_12 : decode cX0_parent 12 = .ok (.ifCond .ne 13, 3) := by decide +kernel
theorem dX0_parent_15 : decode cX0_parent 15 = .ok (.new 77, 3) := by decide +kernel
theorem dX0_parent_18 : decode cX0_parent 18 = .ok (.dup, 1) := by decide +kernel
theorem dX0_parent_19 : decode cX0_parent 19 = .ok (.ldc 138, 2) := by decide +kernel
theorem dX0_parent_21 : decode cX0_parent 21 = .ok (.invokespecial 81, 3) := by decide +kernel
theorem dX0_parent_24 : decode cX0_parent 24 = .ok (.athrow, 1) := by decide +kernel
theorem dX0_parent_25 : decode cX0_parent 25 = .ok (.aload_n 0, 1) := by decide +kernel
theorem dX0_parent_26 : decode cX0_parent 26 = .ok (.iload_n 1, 1) := by decide +kernel
theorem dX0_parent_27 : decode cX0_parent 27 = .ok (.iload_n 2, 1) := by decide +kernel
theorem dX0_parent_28 : decode cX0_parent 28 = .ok (.invokevirtual 135, 3) := by decide +kernel
theorem dX0_parent_31 : decode cX0_parent 31 = .ok (.ireturn, 1) := by decide +kernel
theorem dX0_meet_0 : decode cX0_meet 0 = .ok (.iload_n 1, 1) := by decide +kernel
theorem dX0_meet_1 : decode cX0_meet 1 = .ok (.invokestatic 94, 3) := by decide +kernel
theorem dX0_meet_4 : decode cX0_meet 4 = .ok (.ifCond .eq 19, 3) := by decide +kernel
theorem dX0_meet_7 : decode cX0_meet 7 = .ok (.aload_n 0, 1) := by decide +kernel
theorem dX0_meet_8 : decode cX0_meet 8 = .ok (.iload_n 2, 1) := by decide +kernel
theorem dX0_meet_9 : decode cX0_meet 9 = .ok (.invokevirtual 73, 3) := by decide +kernel
theorem dX0_meet_12 : decode cX0_meet 12 = .ok (.ifCond .eq 11, 3) := by decide +kernel
theorem dX0_meet_15 : decode cX0_meet 15 = .ok (.aload_n 0, 1) := by decide +kernel
theorem dX0_meet_16 : decode cX0_meet 16 = .ok (.iload_n 3, 1) := by decide +kernel
theorem dX0_meet_17 : decode cX0_meet 17 = .ok (.invokevirtual 73, 3) := by decide +kernel
theorem dX0_meet_20 : decode cX0_meet 20 = .ok (.ifCond .ne 13, 3) := by decide +kernel
theorem dX0_meet_23 : decode cX0_meet 23 = .ok (.new 77, 3) := by decide +kernel
theorem dX0_meet_26 : decode cX0_meet 26 = .ok (.dup, 1) := by decide +kernel
theorem dX0_meet_27 : decode cX0_meet 27 = .ok (.ldc 138, 2) := by decide +kernel
theorem dX0_meet_29 : decode cX0_meet 29 = .ok (.invokespecial 81, 3) := by decide +kernel
theorem dX0_meet_32 : decode cX0_meet 32 = .ok (.athrow, 1) := by decide +kernel
theorem dX0_meet_33 : decode cX0_meet 33 = .ok (.iload_n 2, 1) := by decide +kernel
theorem dX0_meet_34 : decode cX0_meet 34 = .ok (.istore 4, 2) := by decide +kernel
theorem dX0_meet_36 : decode cX0_meet 36 = .ok (.iconst 0, 1) := by decide +kernel
theorem dX0_meet_37 : decode cX0_meet 37 = .ok (.istore 5, 2) := by decide +kernel
theorem dX0_meet_39 : decode cX0_meet 39 = .ok (.iload 5, 2) := by decide +kernel
theorem dX0_meet_41 : decode cX0_meet 41 = .ok (.bipush 14, 2) := by decide +kernel
theorem dX0_meet_43 : decode cX0_meet 43 = .ok (.if_icmp .ge 38, 3) := by decide +kernel
theorem dX0_meet_46 : decode cX0_meet 46 = .ok (.iload 4, 2) := by decide +kernel
theorem dX0_meet_48 : decode cX0_meet 48 = .ok (.iconst (-1), 1) := by decide +kernel
theorem dX0_meet_49 : decode cX0_meet 49 = .ok (.if_icmp .eq 32, 3) := by decide +kernel
theorem dX0_meet_52 : decode cX0_meet 52 = .ok (.aload_n 0, 1) := by decide +kernel
theorem dX0_meet_53 : decode cX0_meet 53 = .ok (.iload_n 1, 1) := by decide +kernel
theorem dX0_meet_54 : decode cX0_meet 54 = .ok (.iload 4, 2) := by decide +kernel
theorem dX0_meet_56 : decode cX0_meet 56 = .ok (.iload_n 3, 1) := by decide +kernel
theorem dX0_meet_57 : decode cX0_meet 57 = .ok (.invokevirtual 140, 3) := by decide +kernel
theorem dX0_meet_60 : decode cX0_meet 60 = .ok (.ifCond .eq 6, 3) := by decide +kernel
theorem dX0_meet_63 : decode cX0_meet 63 = .ok (.iload 4, 2) := by decide +kernel
theorem dX0_meet_65 : decode cX0_meet 65 = .ok (.ireturn, 1) := by decide +kernel
theorem dX0_meet_66 : decode cX0_meet 66 = .ok (.aload_n 0, 1) := by decide +kernel
theorem dX0_meet_67 : decode cX0_meet 67 = .ok (.iload_n 1, 1) := by decide +kernel
theorem dX0_meet_68 : decode cX0_meet 68 = .ok (.iload 4, 2) := by decide +kernel
theorem dX0_meet_70 : decode cX0_meet 70 = .ok (.invokevirtual 135, 3) := by decide +kernel
theorem dX0_meet_73 : decode cX0_meet 73 = .ok (.istore 4, 2) := by decide +kernel
theorem dX0_meet_75 : decode cX0_meet 75 = .ok (.iinc 5 1, 3) := by decide +kernel
theorem dX0_meet_78 : decode cX0_meet 78 = .ok (.goto (-39), 3) := by decide +kernel
theorem dX0_meet_81 : decode cX0_meet 81 = .ok (.iconst (-1), 1) := by decide +kernel
theorem dX0_meet_82 : decode cX0_meet 82 = .ok (.ireturn, 1) := by decide +kernel
theorem dX0_isAtOrAbove_0 : decode cX0_isAtOrAbove 0 = .ok (.iload_n 3, 1) := by decide +kernel
theorem dX0_isAtOrAbove_1 : decode cX0_isAtOrAbove 1 = .ok (.istore 4, 2) := by decide +kernel
theorem dX0_isAtOrAbove_3 : decode cX0_isAtOrAbove 3 = .ok (.iconst 0, 1) := by decide +kernel
theorem dX0_isAtOrAbove_4 : decode cX0_isAtOrAbove 4 = .ok (.istore 5, 2) := by decide +kernel
theorem dX0_isAtOrAbove_6 : decode cX0_isAtOrAbove 6 = .ok (.iload 5, 2) := by decide +kernel
theorem dX0_isAtOrAbove_8 : decode cX0_isAtOrAbove 8 = .ok (.bipush 14, 2) := by decide +kernel
theorem dX0_isAtOrAbove_10 : decode cX0_isAtOrAbove 10 = .ok (.if_icmp .ge 32, 3) := by decide +kernel
theorem dX0_isAtOrAbove_13 : decode cX0_isAtOrAbove 13 = .ok (.iload 4, 2) := by decide +kernel
theorem dX0_isAtOrAbove_15 : decode cX0_isAtOrAbove 15 = .ok (.iconst (-1), 1) := by decide +kernel
theorem dX0_isAtOrAbove_16 : decode cX0_isAtOrAbove 16 = .ok (.if_icmp .eq 26, 3) := by decide +kernel
theorem dX0_isAtOrAbove_19 : decode cX0_isAtOrAbove 19 = .ok (.iload 4, 2) := by decide +kernel
theorem dX0_isAtOrAbove_21 : decode cX0_isAtOrAbove 21 = .ok (.iload_n 2, 1) := by decide +kernel
theorem dX0_isAtOrAbove_22 : decode cX0_isAtOrAbove 22 = .ok (.if_icmp .ne 5, 3) := by decide +kernel
theorem dX0_isAtOrAbove_25 : decode cX0_isAtOrAbove 25 = .ok (.iconst 1, 1) := by decide +kernel
theorem dX0_isAtOrAbove_26 : decode cX0_isAtOrAbove 26 = .ok (.ireturn, 1) := by decide +kernel
theorem dX0_isAtOrAbove_27 : decode cX0_isAtOrAbove 27 = .ok (.aload_n 0, 1) := by decide +kernel
theorem dX0_isAtOrAbove_28 : decode cX0_isAtOrAbove 28 = .ok (.iload_n 1, 1) := by decide +kernel
theorem dX0_isAtOrAbove_29 : decode cX0_isAtOrAbove 29 = .ok (.iload 4, 2) := by decide +kernel
theorem dX0_isAtOrAbove_31 : decode cX0_isAtOrAbove 31 = .ok (.invokevirtual 135, 3) := by decide +kernel
theorem dX0_isAtOrAbove_34 : decode cX0_isAtOrAbove 34 = .ok (.istore 4, 2) := by decide +kernel
theorem dX0_isAtOrAbove_36 : decode cX0_isAtOrAbove 36 = .ok (.iinc 5 1, 3) := by decide +kernel
theorem dX0_isAtOrAbove_39 : decode cX0_isAtOrAbove 39 = .ok (.goto (-33), 3) := by decide +kernel
theorem dX0_isAtOrAbove_42 : decode cX0_isAtOrAbove 42 = .ok (.iconst 0, 1) := by decide +kernel
theorem dX0_isAtOrAbove_43 : decode cX0_isAtOrAbove 43 = .ok (.ireturn, 1) := by decide +kernel
theorem dX0_cut_0 : decode cX0_cut 0 = .ok (.iconst 0, 1) := by decide +kernel
theorem dX0_cut_1 : decode cX0_cut 1 = .ok (.istore_n 2, 1) := by decide +kernel
theorem dX0_cut_2 : decode cX0_cut 2 = .ok (.iconst 0, 1) := by decide +kernel
theorem dX0_cut_3 : decode cX0_cut 3 = .ok (.istore_n 3, 1) := by decide +kernel
theorem dX0_cut_4 : decode cX0_cut 4 = .ok (.iload_n 3, 1) := by decide +kernel
theorem dX0_cut_5 : decode cX0_cut 5 = .ok (.bipush 60, 2) := by decide +kernel
theorem dX0_cut_7 : decode cX0_cut 7 = .ok (.if_icmp .ge 27, 3) := by decide +kernel
theorem dX0_cut_10 : decode cX0_cut 10 = .ok (.aload_n 0, 1) := by decide +kernel
theorem dX0_cut_11 : decode cX0_cut 11 = .ok (.iload_n 3, 1) := by decide +kernel
theorem dX0_cut_12 : decode cX0_cut 12 = .ok (.invokevirtual 144, 3) := by decide +kernel
theorem dX0_cut_15 : decode cX0_cut 15 = .ok (.ifCond .eq 13, 3) := by decide +kernel
theorem dX0_cut_18 : decode cX0_cut 18 = .ok (.iload_n 2, 1) := by decide +kernel
theorem dX0_cut_19 : decode cX0_cut 19 = .ok (.iload_n 1, 1) := by decide +kernel
theorem dX0_cut_20 : decode cX0_cut 20 = .ok (.if_icmp .ne 5, 3) := by decide +kernel
theorem dX0_cut_23 : decode cX0_cut 23 = .ok (.iload_n 3, 1) := by decide +kernel
theorem dX0_cut_24 : decode cX0_cut 24 = .ok (.ireturn, 1) := by decide +kernel
theorem dX0_cut_25 : decode cX0_cut 25 = .ok (.iinc 2 1, 3) := by decide +kernel
theorem dX0_cut_28 : decode cX0_cut 28 = .ok (.iinc 3 1, 3) := by decide +kernel
theorem dX0_cut_31 : decode cX0_cut 31 = .ok (.goto (-27), 3) := by decide +kernel
theorem dX0_cut_34 : decode cX0_cut 34 = .ok (.iload_n 2, 1) := by decide +kernel
theorem dX0_cut_35 : decode cX0_cut 35 = .ok (.iload_n 1, 1) := by decide +kernel
theorem dX0_cut_36 : decode cX0_cut 36 = .ok (.if_icmp .eq 13, 3) := by decide +kernel
theorem dX0_cut_39 : decode cX0_cut 39 = .ok (.new 77, 3) := by decide +kernel
theorem dX0_cut_42 : decode cX0_cut 42 = .ok (.dup, 1) := by decide +kernel
theorem dX0_cut_43 : decode cX0_cut 43 = .ok (.ldc 147, 2) := by decide +kernel
theorem dX0_cut_45 : decode cX0_cut 45 = .ok (.invokespecial 81, 3) := by decide +kernel
theorem dX0_cut_48 : decode cX0_cut 48 = .ok (.athrow, 1) := by decide +kernel
theorem dX0_cut_49 : decode cX0_cut 49 = .ok (.bipush 60, 2) := by decide +kernel
theorem dX0_cut_51 : decode cX0_cut 51 = .ok (.ireturn, 1) := by decide +kernel
theorem dX0_letter_0 : decode cX0_letter 0 = .ok (.aload_n 0, 1) := by decide +kernel
theorem dX0_letter_1 : decode cX0_letter 1 = .ok (.iload_n 1, 1) := by decide +kernel
theorem dX0_letter_2 : decode cX0_letter 2 = .ok (.invokevirtual 106, 3) := by decide +kernel
theorem dX0_letter_5 : decode cX0_letter 5 = .ok (.ifCond .eq 11, 3) := by decide +kernel
theorem dX0_letter_8 : decode cX0_letter 8 = .ok (.aload_n 0, 1) := by decide +kernel
theorem dX0_letter_9 : decode cX0_letter 9 = .ok (.iload_n 2, 1) := by decide +kernel
theorem dX0_letter_10 : decode cX0_letter 10 = .ok (.invokevirtual 73, 3) := by decide +kernel
theorem dX0_letter_13 : decode cX0_letter 13 = .ok (.ifCond .ne 13, 3) := by decide +kernel
theorem dX0_letter_16 : decode cX0_letter 16 = .ok (.new 77, 3) := by decide +kernel
theorem dX0_letter_19 : decode cX0_letter 19 = .ok (.dup, 1) := by decide +kernel
theorem dX0_letter_20 : decode cX0_letter 20 = .ok (.ldc 109, 2) := by decide +kernel
theorem dX0_letter_22 : decode cX0_letter 22 = .ok (.invokespecial 81, 3) := by decide +kernel
theorem dX0_letter_25 : decode cX0_letter 25 = .ok (.athrow, 1) := by decide +kernel
theorem dX0_letter_26 : decode cX0_letter 26 = .ok (.aload_n 0, 1) := by decide +kernel
theorem dX0_letter_27 : decode cX0_letter 27 = .ok (.iload_n 1, 1) := by decide +kernel
theorem dX0_letter_28 : decode cX0_letter 28 = .ok (.iload_n 2, 1) := by decide +kernel
theorem dX0_letter_29 : decode cX0_letter 29 = .ok (.invokevirtual 149, 3) := by decide +kernel
theorem dX0_letter_32 : decode cX0_letter 32 = .ok (.ireturn, 1) := by decide +kernel
theorem dJ7_fill_0 : decode cJ7_fill 0 = .ok (.iconst 0, 1) := by decide +kernel
theorem dJ7_fill_1 : decode cJ7_fill 1 = .ok (.istore_n 2, 1) := by decide +kernel
theorem dJ7_fill_2 : decode cJ7_fill 2 = .ok (.aload_n 0, 1) := by decide +kernel
theorem dJ7_fill_3 : decode cJ7_fill 3 = .ok (.arraylength, 1) := by decide +kernel
theorem dJ7_fill_4 : decode cJ7_fill 4 = .ok (.istore_n 3, 1) := by decide +kernel
theorem dJ7_fill_5 : decode cJ7_fill 5 = .ok (.iload_n 2, 1) := by decide +kernel
theorem dJ7_fill_6 : decode cJ7_fill 6 = .ok (.iload_n 3, 1) := by decide +kernel
theorem dJ7_fill_7 : decode cJ7_fill 7 = .ok (.if_icmp .ge 13, 3) := by decide +kernel
theorem dJ7_fill_10 : decode cJ7_fill 10 = .ok (.aload_n 0, 1) := by decide +kernel
theorem dJ7_fill_11 : decode cJ7_fill 11 = .ok (.iload_n 2, 1) := by decide +kernel
theorem dJ7_fill_12 : decode cJ7_fill 12 = .ok (.iload_n 1, 1) := by decide +kernel
theorem dJ7_fill_13 : decode cJ7_fill 13 = .ok (.iastore, 1) := by decide +kernel
theorem dJ7_fill_14 : decode cJ7_fill 14 = .ok (.iinc 2 1, 3) := by decide +kernel
theorem dJ7_fill_17 : decode cJ7_fill 17 = .ok (.goto (-12), 3) := by decide +kernel
theorem dJ7_fill_20 : decode cJ7_fill 20 = .ok (.return_, 1) := by decide +kernel
end
section
theorem dX1_init_0 : decode cX1_init 0 = .ok (.aload_n 0, 1) := by decide +kernel
theorem dX1_init_1 : decode cX1_init 1 = .ok (.invokespecial 1, 3) := by decide +kernel
theorem dX1_init_4 : decode cX1_init 4 = .ok (.aload_n 0, 1) := by decide +kernel
theorem dX1_init_5 : decode cX1_init 5 = .ok (.bipush 14, 2) := by decide +kernel
theorem dX1_init_7 : decode cX1_init 7 = .ok (.newarray .int, 2) := by decide +kernel
theorem dX1_init_9 : decode cX1_init 9 = .ok (.putfield 7, 3) := by decide +kernel
theorem dX1_init_12 : decode cX1_init 12 = .ok (.aload_n 0, 1) := by decide +kernel
theorem dX1_init_13 : decode cX1_init 13 = .ok (.bipush 14, 2) := by decide +kernel
theorem dX1_init_15 : decode cX1_init 15 = .ok (.newarray .boolean, 2) := by decide +kernel
theorem dX1_init_17 : decode cX1_init 17 = .ok (.putfield 13, 3) := by decide +kernel
theorem dX1_init_20 : decode cX1_init 20 = .ok (.aload_n 0, 1) := by decide +kernel
theorem dX1_init_21 : decode cX1_init 21 = .ok (.sipush 840, 3) := by decide +kernel
theorem dX1_init_24 : decode cX1_init 24 = .ok (.newarray .int, 2) := by decide +kernel
theorem dX1_init_26 : decode cX1_init 26 = .ok (.putfield 17, 3) := by decide +kernel
theorem dX1_init_29 : decode cX1_init 29 = .ok (.aload_n 0, 1) := by decide +kernel
theorem dX1_init_30 : decode cX1_init 30 = .ok (.bipush 8, 2) := by decide +kernel
theorem dX1_init_32 : decode cX1_init 32 = .ok (.newarray .int, 2) := by decide +kernel
theorem dX1_init_34 : decode cX1_init 34 = .ok (.putfield 20, 3) := by decide +kernel
theorem dX1_init_37 : decode cX1_init 37 = .ok (.aload_n 0, 1) := by decide +kernel
theorem dX1_init_38 : decode cX1_init 38 = .ok (.bipush 8, 2) := by decide +kernel
theorem dX1_init_40 : decode cX1_init 40 = .ok (.newarray .int, 2) := by decide +kernel
theorem dX1_init_42 : decode cX1_init 42 = .ok (.putfield 23, 3) := by decide +kernel
theorem dX1_init_45 : decode cX1_init 45 = .ok (.aload_n 0, 1) := by decide +kernel
theorem dX1_init_46 : decode cX1_init 46 = .ok (.bipush 112, 2) := by decide +kernel
theorem dX1_init_48 : decode cX1_init 48 = .ok (.newarray .int, 2) := by decide +kernel
theorem dX1_init_50 : decode cX1_init 50 = .ok (.putfield 26, 3) := by decide +kernel
theorem dX1_init_53 : decode cX1_init 53 = .ok (.aload_n 0, 1) := by decide +kernel
theorem dX1_init_54 : decode cX1_init 54 = .ok (.bipush 14, 2) := by decide +kernel
theorem dX1_init_56 : decode cX1_init 56 = .ok (.newarray .int, 2) := by decide +kernel
theorem dX1_init_58 : decode cX1_init 58 = .ok (.putfield 29, 3) := by decide +kernel
theorem dX1_init_61 : decode cX1_init 61 = .ok (.aload_n 0, 1) := by decide +kernel
theorem dX1_init_62 : decode cX1_init 62 = .ok (.sipush 840, 3) := by decide +kernel
theorem dX1_init_65 : decode cX1_init 65 = .ok (.newarray .int, 2) := by decide +kernel
theorem dX1_init_67 : decode cX1_init 67 = .ok (.putfield 32, 3) := by decide +kernel
theorem dX1_init_70 : decode cX1_init 70 = .ok (.aload_n 0, 1) := by decide +kernel
theorem dX1_init_71 : decode cX1_init 71 = .ok (.bipush 112, 2) := by decide +kernel
theorem dX1_init_73 : decode cX1_init 73 = .ok (.newarray .int, 2) := by decide +kernel
theorem dX1_init_75 : decode cX1_init 75 = .ok (.putfield 35, 3) := by decide +kernel
theorem dX1_init_78 : decode cX1_init 78 = .ok (.iconst 0, 1) := by decide +kernel
theorem dX1_init_79 : decode cX1_init 79 = .ok (.istore_n 1, 1) := by decide +kernel
theorem dX1_init_80 : decode cX1_init 80 = .ok (.iload_n 1, 1) := by decide +kernel
theorem dX1_init_81 : decode cX1_init 81 = .ok (.bipush 14, 2) := by decide +kernel
theorem dX1_init_83 : decode cX1_init 83 = .ok (.if_icmp .ge 16, 3) := by decide +kernel
theorem dX1_init_86 : decode cX1_init 86 = .ok (.aload_n 0, 1) := by decide +kernel
theorem dX1_init_87 : decode cX1_init 87 = .ok (.getfield 29, 3) := by decide +kernel
theorem dX1_init_90 : decode cX1_init 90 = .ok (.iload_n 1, 1) := by decide +kernel
theorem dX1_init_91 : decode cX1_init 91 = .ok (.iconst (-1), 1) := by decide +kernel
theorem dX1_init_92 : decode cX1_init 92 = .ok (.iastore, 1) := by decide +kernel
theorem dX1_init_93 : decode cX1_init 93 = .ok (.iinc 1 1, 3) := by decide +kernel
theorem dX1_init_96 : decode cX1_init 96 = .ok (.goto (-16), 3) := by decide +kernel
theorem dX1_init_99 : decode cX1_init 99 = .ok (.return_, 1) := by decide +kernel
theorem dX1_thrown_0 : decode cX1_thrown 0 = .ok (.aload_n 0, 1) := by decide +kernel
theorem dX1_thrown_1 : decode cX1_thrown 1 = .ok (.getfield 38, 3) := by decide +kernel
theorem dX1_thrown_4 : decode cX1_thrown 4 = .ok (.ireturn, 1) := by decide +kernel
theorem dX1_node_0 : decode cX1_node 0 = .ok (.aload_n 0, 1) := by decide +kernel
theorem dX1_node_1 : decode cX1_node 1 = .ok (.iload_n 1, 1) := by decide +kernel
theorem dX1_node_2 : decode cX1_node 2 = .ok (.ifCond .lt 10, 3) := by decide +kernel
theorem dX1_node_5 : decode cX1_node 5 = .ok (.iload_n 1, 1) := by decide +kernel
theorem dX1_node_6 : decode cX1_node 6 = .ok (.sipush 1000, 3) := by decide +kernel
theorem dX1_node_9 : decode cX1_node 9 = .ok (.if_icmp .le 7, 3) := by decide +kernel
theorem dX1_node_12 : decode cX1_node 12 = .ok (.iconst 1, 1) := by decide +kernel
theorem dX1_node_13 : decode cX1_node 13 = .ok (.goto 17, 3) := by decide +kernel
theorem dX1_node_16 : decode cX1_node 16 = .ok (.aload_n 0, 1) := by decide +kernel
theorem dX1_node_17 : decode cX1_node 17 = .ok (.getfield 42, 3) := by decide +kernel
theorem dX1_node_20 : decode cX1_node 20 = .ok (.bipush 14, 2) := by decide +kernel
theorem dX1_node_22 : decode cX1_node 22 = .ok (.if_icmp .ne 7, 3) := by decide +kernel
theorem dX1_node_25 : decode cX1_node 25 = .ok (.iconst 2, 1) := by decide +kernel
theorem dX1_node_26 : decode cX1_node 26 = .ok (.goto 4, 3) := by decide +kernel
theorem dX1_node_29 : decode cX1_node 29 = .ok (.iconst 0, 1) := by decide +kernel
theorem dX1_node_30 : decode cX1_node 30 = .ok (.invokevirtual 63, 3) := by decide +kernel
theorem dX1_node_33 : decode cX1_node 33 = .ok (.ifCond .eq 5, 3) := by decide +kernel
theorem dX1_node_36 : decode cX1_node 36 = .ok (.iconst 0, 1) := by decide +kernel
theorem dX1_node_37 : decode cX1_node 37 = .ok (.ireturn, 1) := by decide +kernel
theorem dX1_node_38 : decode cX1_node 38 = .ok (.aload_n 0, 1) := by decide +kernel
theorem dX1_node_39 : decode cX1_node 39 = .ok (.getfield 7, 3) := by decide +kernel
theorem dX1_node_42 : decode cX1_node 42 = .ok (.aload_n 0, 1) := by decide +kernel
theorem dX1_node_43 : decode cX1_node 43 = .ok (.getfield 42, 3) := by decide +kernel
theorem dX1_node_46 : decode cX1_node 46 = .ok (.iload_n 1, 1) := by decide +kernel
theorem dX1_node_47 : decode cX1_node 47 = .ok (.iastore, 1) := by decide +kernel
theorem dX1_node_48 : decode cX1_node 48 = .ok (.aload_n 0, 1) := by decide +kernel
theorem dX1_node_49 : decode cX1_node 49 = .ok (.getfield 13, 3) := by decide +kernel
theorem dX1_node_52 : decode cX1_node 52 = .ok (.aload_n 0, 1) := by decide +kernel
theorem dX1_node_53 : decode cX1_node 53 = .ok (.getfield 42, 3) := by decide +kernel
theorem dX1_node_56 : decode cX1_node 56 = .ok (.iload_n 2, 1) := by decide +kernel
theorem dX1_node_57 : decode cX1_node 57 = .ok (.bastore, 1) := by decide +kernel
theorem dX1_node_58 : decode cX1_node 58 = .ok (.iconst 0, 1) := by decide +kernel
theorem dX1_node_59 : decode cX1_node 59 = .ok (.istore_n 3, 1) := by decide +kernel
theorem dX1_node_60 : decode cX1_node 60 = .ok (.iload_n 3, 1) := by decide +kernel
theorem dX1_node_61 : decode cX1_node 61 = .ok (.bipush 60, 2) := by decide +kernel
theorem dX1_node_63 : decode cX1_node 63 = .ok (.if_icmp .ge 24, 3) := by decide +kernel
theorem dX1_node_66 : decode cX1_node 66 = .ok (.aload_n 0, 1) := by decide +kernel
theorem dX1_node_67 : decode cX1_node 67 = .ok (.getfield 17, 3) := by decide +kernel
theorem dX1_node_70 : decode cX1_node 70 = .ok (.bipush 60, 2) := by decide +kernel
theorem dX1_node_72 : decode cX1_node 72 = .ok (.aload_n 0, 1) := by decide +kernel
theorem dX1_node_73 : decode cX1_node 73 = .ok (.getfield 42, 3) := by decide +kernel
theorem dX1_node_76 : decode cX1_node 76 = .ok (.imul, 1) := by decide +kernel
theorem dX1_node_77 : decode cX1_node 77 = .ok (.iload_n 3, 1) := by decide +kernel
theorem dX1_node_78 : decode cX1_node 78 = .ok (.iadd, 1) := by decide +kernel
theorem dX1_node_79 : decode cX1_node 79 = .ok (.iconst 0, 1) := by decide +kernel
theorem dX1_node_80 : decode cX1_node 80 = .ok (.iastore, 1) := by decide +kernel
theorem dX1_node_81 : decode cX1_node 81 = .ok (.iinc 3 1, 3) := by decide +kernel
theorem dX1_node_84 : decode cX1_node 84 = .ok (.goto (-24), 3) := by decide +kernel
theorem dX1_node_87 : decode cX1_node 87 = .ok (.iconst 0, 1) := by decide +kernel
theorem dX1_node_88 : decode cX1_node 88 = .ok (.istore_n 3, 1) := by decide +kernel
theorem dX1_node_89 : decode cX1_node 89 = .ok (.iload_n 3, 1) := by decide +kernel
theorem dX1_node_90 : decode cX1_node 90 = .ok (.bipush 8, 2) := by decide +kernel
theorem dX1_node_92 : decode cX1_node 92 = .ok (.if_icmp .ge 24, 3) := by decide +kernel
theorem dX1_node_95 : decode cX1_node 95 = .ok (.aload_n 0, 1) := by decide +kernel
theorem dX1_node_96 : decode cX1_node 96 = .ok (.getfield 26, 3) := by decide +kernel
theorem dX1_node_99 : decode cX1_node 99 = .ok (.bipush 14, 2) := by decide +kernel
theorem dX1_node_101 : decode cX1_node 101 = .ok (.iload_n 3, 1) := by decide +kernel
theorem dX1_node_102 : decode cX1_node 102 = .ok (.imul, 1) := by decide +kernel
theorem dX1_node_103 : decode cX1_node 103 = .ok (.aload_n 0, 1) := by decide +kernel
theorem dX1_node_104 : decode cX1_node 104 = .ok (.getfield 42, 3) := by decide +kernel
theorem dX1_node_107 : decode cX1_node 107 = .ok (.iadd, 1) := by decide +kernel
theorem dX1_node_108 : decode cX1_node 108 = .ok (.iconst 0, 1) := by decide +kernel
theorem dX1_node_109 : decode cX1_node 109 = .ok (.iastore, 1) := by decide +kernel
theorem dX1_node_110 : decode cX1_node 110 = .ok (.iinc 3 1, 3) := by decide +kernel
theorem dX1_node_113 : decode cX1_node 113 = .ok (.goto (-24), 3) := by decide +kernel
theorem dX1_node_116 : decode cX1_node 116 = .ok (.aload_n 0, 1) := by decide +kernel
theorem dX1_node_117 : decode cX1_node 117 = .ok (.dup, 1) := by decide +kernel
theorem dX1_node_118 : decode cX1_node 118 = .ok (.getfield 42, 3) := by decide +kernel
theorem dX1_node_121 : decode cX1_node 121 = .ok (.iconst 1, 1) := by decide +kernel
theorem dX1_node_122 : decode cX1_node 122 = .ok (.iadd, 1) := by decide +kernel
theorem dX1_node_123 : decode cX1_node 123 = .ok (.putfield 42, 3) := by decide +kernel
theorem dX1_node_126 : decode cX1_node 126 = .ok (.aload_n 0, 1) := by decide +kernel
theorem dX1_node_127 : decode cX1_node 127 = .ok (.getfield 42, 3) := by decide +kernel
theorem dX1_node_130 : decode cX1_node 130 = .ok (.iconst 1, 1) := by decide +kernel
theorem dX1_node_131 : decode cX1_node 131 = .ok (.isub, 1) := by decide +kernel
theorem dX1_node_132 : decode cX1_node 132 = .ok (.ireturn, 1) := by decide +kernel
theorem dX1_refused_0 : decode cX1_refused 0 = .ok (.aload_n 0, 1) := by decide +kernel
theorem dX1_refused_1 : decode cX1_refused 1 = .ok (.iload_n 1, 1) := by decide +kernel
theorem dX1_refused_2 : decode cX1_refused 2 = .ok (.putfield 38, 3) := by decide +kernel
theorem dX1_refused_5 : decode cX1_refused 5 = .ok (.iload_n 1, 1) := by decide +kernel
theorem dX1_refused_6 : decode cX1_refused 6 = .ok (.ifCond .le 7, 3) := by decide +kernel
theorem dX1_refused_9 : decode cX1_refused 9 = .ok (.iconst 1, 1) := by decide +kernel
theorem dX1_refused_10 : decode cX1_refused 10 = .ok (.goto 4, 3) := by decide +kernel
theorem dX1_refused_13 : decode cX1_refused 13 = .ok (.iconst 0, 1) := by decide +kernel
theorem dX1_refused_14 : decode cX1_refused 14 = .ok (.ireturn, 1) := by decide +kernel
theorem dX1_join_0 : decode cX1_join 0 = .ok (.aload_n 0, 1) := by decide +kernel
theorem dX1_join_1 : decode cX1_join 1 = .ok (.iload_n 1, 1) := by decide +kernel
theorem dX1_join_2 : decode cX1_join 2 = .ok (.iload_n 2, 1) := by decide +kernel
theorem dX1_join_3 : decode cX1_join 3 = .ok (.invokestatic 67, 3) := by decide +kernel
theorem dX1_join_6 : decode cX1_join 6 = .ok (.ifCond .eq 20, 3) := by decide +kernel
theorem dX1_join_9 : decode cX1_join 9 = .ok (.aload_n 0, 1) := by decide +kernel
theorem dX1_join_10 : decode cX1_join 10 = .ok (.iload_n 3, 1) := by decide +kernel
theorem dX1_join_11 : decode cX1_join 11 = .ok (.invokevirtual 70, 3) := by decide +kernel
theorem dX1_join_14 : decode cX1_join 14 = .ok (.ifCond .eq 12, 3) := by decide +kernel
theorem dX1_join_17 : decode cX1_join 17 = .ok (.aload_n 0, 1) := by decide +kernel
theorem dX1_join_18 : decode cX1_join 18 = .ok (.iload 4, 2) := by decide +kernel
theorem dX1_join_20 : decode cX1_join 20 = .ok (.invokevirtual 70, 3) := by decide +kernel
theorem dX1_join_23 : decode cX1_join 23 = .ok (.ifCond .ne 7, 3) := by decide +kernel
theorem dX1_join_26 : decode cX1_join 26 = .ok (.iconst 1, 1) := by decide +kernel
theorem dX1_join_27 : decode cX1_join 27 = .ok (.goto 24, 3) := by decide +kernel
theorem dX1_join_30 : decode cX1_join 30 = .ok (.aload_n 0, 1) := by decide +kernel
theorem dX1_join_31 : decode cX1_join 31 = .ok (.getfield 7, 3) := by decide +kernel
theorem dX1_join_34 : decode cX1_join 34 = .ok (.iload_n 3, 1) := by decide +kernel
theorem dX1_join_35 : decode cX1_join 35 = .ok (.iaload, 1) := by decide +kernel
theorem dX1_join_36 : decode cX1_join 36 = .ok (.aload_n 0, 1) := by decide +kernel
theorem dX1_join_37 : decode cX1_join 37 = .ok (.getfield 7, 3) := by decide +kernel
theorem dX1_join_40 : decode cX1_join 40 = .ok (.iload 4, 2) := by decide +kernel
theorem dX1_join_42 : decode cX1_join 42 = .ok (.iaload, 1) := by decide +kernel
theorem dX1_join_43 : decode cX1_join 43 = .ok (.if_icmp .gt 7, 3) := by decide +kernel
theorem dX1_join_46 : decode cX1_join 46 = .ok (.iconst 2, 1) := by decide +kernel
theorem dX1_join_47 : decode cX1_join 47 = .ok (.goto 4, 3) := by decide +kernel
theorem dX1_join_50 : decode cX1_join 50 = .ok (.iconst 0, 1) := by decide +kernel
theorem dX1_join_51 : decode cX1_join 51 = .ok (.invokevirtual 63, 3) := by decide +kernel
theorem dX1_join_54 : decode cX1_join 54 = .ok (.ifCond .eq 5, 3) := by decide +kernel
theorem dX1_join_57 : decode cX1_join 57 = .ok (.iconst 0, 1) := by decide +kernel
theorem dX1_join_58 : decode cX1_join 58 = .ok (.ireturn, 1) := by decide +kernel
theorem dX1_join_59 : decode cX1_join 59 = .ok (.iconst 0, 1) := by decide +kernel
theorem dX1_join_60 : decode cX1_join 60 = .ok (.istore 5, 2) := by decide +kernel
theorem dX1_join_62 : decode cX1_join 62 = .ok (.iload_n 1, 1) := by decide +kernel
theorem dX1_join_63 : decode cX1_join 63 = .ok (.istore 6, 2) := by decide +kernel
theorem dX1_join_65 : decode cX1_join 65 = .ok (.iload 6, 2) := by decide +kernel
theorem dX1_join_67 : decode cX1_join 67 = .ok (.iload_n 2, 1) := by decide +kernel
theorem dX1_join_68 : decode cX1_join 68 = .ok (.if_icmp .ge 58, 3) := by decide +kernel
theorem dX1_join_71 : decode cX1_join 71 = .ok (.aload_n 0, 1) := by decide +kernel
theorem dX1_join_72 : decode cX1_join 72 = .ok (.iload 4, 2) := by decide +kernel
theorem dX1_join_74 : decode cX1_join 74 = .ok (.iload 6, 2) := by decide +kernel
theorem dX1_join_76 : decode cX1_join 76 = .ok (.invokevirtual 48, 3) := by decide +kernel
theorem dX1_join_79 : decode cX1_join 79 = .ok (.istore 7, 2) := by decide +kernel
theorem dX1_join_81 : decode cX1_join 81 = .ok (.aload_n 0, 1) := by decide +kernel
theorem dX1_join_82 : decode cX1_join 82 = .ok (.iload 7, 2) := by decide +kernel
theorem dX1_join_84 : decode cX1_join 84 = .ok (.ifCond .lt 13, 3) := by decide +kernel
theorem dX1_join_87 : decode cX1_join 87 = .ok (.iload 7, 2) := by decide +kernel
theorem dX1_join_89 : decode cX1_join 89 = .ok (.iload_n 3, 1) := by decide +kernel
theorem dX1_join_90 : decode cX1_join 90 = .ok (.if_icmp .eq 7, 3) := by decide +kernel
theorem dX1_join_93 : decode cX1_join 93 = .ok (.iconst 3, 1) := by decide +kernel
theorem dX1_join_94 : decode cX1_join 94 = .ok (.goto 7, 3) := by decide +kernel
theorem dX1_join_97 : decode cX1_join 97 = .ok (.aload_n 0, 1) := by decide +kernel
theorem dX1_join_98 : decode cX1_join 98 = .ok (.getfield 38, 3) := by decide +kernel
theorem dX1_join_101 : decode cX1_join 101 = .ok (.putfield 38, 3) := by decide +kernel
theorem dX1_join_104 : decode cX1_join 104 = .ok (.iload 7, 2) := by decide +kernel
theorem dX1_join_106 : decode cX1_join 106 = .ok (.ifCond .ge 10, 3) := by decide +kernel
theorem dX1_join_109 : decode cX1_join 109 = .ok (.iload 5, 2) := by decide +kernel
theorem dX1_join_111 : decode cX1_join 111 = .ok (.iconst 1, 1) := by decide +kernel
theorem dX1_join_112 : decode cX1_join 112 = .ok (.iadd, 1) := by decide +kernel
theorem dX1_join_113 : decode cX1_join 113 = .ok (.goto 5, 3) := by decide +kernel
theorem dX1_join_116 : decode cX1_join 116 = .ok (.iload 5, 2) := by decide +kernel
theorem dX1_join_118 : decode cX1_join 118 = .ok (.istore 5, 2) := by decide +kernel
theorem dX1_join_120 : decode cX1_join 120 = .ok (.iinc 6 1, 3) := by decide +kernel
theorem dX1_join_123 : decode cX1_join 123 = .ok (.goto (-58), 3) := by decide +kernel
theorem dX1_join_126 : decode cX1_join 126 = .ok (.aload_n 0, 1) := by decide +kernel
theorem dX1_join_127 : decode cX1_join 127 = .ok (.getfield 38, 3) := by decide +kernel
theorem dX1_join_130 : decode cX1_join 130 = .ok (.ifCond .le 5, 3) := by decide +kernel
theorem dX1_join_133 : decode cX1_join 133 = .ok (.iconst 0, 1) := by decide +kernel
theorem dX1_join_134 : decode cX1_join 134 = .ok (.ireturn, 1) := by decide +kernel
theorem dX1_join_135 : decode cX1_join 135 = .ok (.iload_n 1, 1) := by decide +kernel
theorem dX1_join_136 : decode cX1_join 136 = .ok (.istore 6, 2) := by decide +kernel
theorem dX1_join_138 : decode cX1_join 138 = .ok (.iload 6, 2) := by decide +kernel
theorem dX1_join_140 : decode cX1_join 140 = .ok (.iload_n 2, 1) := by decide +kernel
theorem dX1_join_141 : decode cX1_join 141 = .ok (.if_icmp .ge 25, 3) := by decide +kernel
theorem dX1_join_144 : decode cX1_join 144 = .ok (.aload_n 0, 1) := by decide +kernel
theorem dX1_join_145 : decode cX1_join 145 = .ok (.getfield 17, 3) := by decide +kernel
theorem dX1_join_148 : decode cX1_join 148 = .ok (.bipush 60, 2) := by decide +kernel
theorem dX1_join_150 : decode cX1_join 150 = .ok (.iload 4, 2) := by decide +kernel
theorem dX1_join_152 : decode cX1_join 152 = .ok (.imul, 1) := by decide +kernel
theorem dX1_join_153 : decode cX1_join 153 = .ok (.iload 6, 2) := by decide +kernel
theorem dX1_join_155 : decode cX1_join 155 = .ok (.iadd, 1) := by decide +kernel
theorem dX1_join_156 : decode cX1_join 156 = .ok (.iload_n 3, 1) := by decide +kernel
theorem dX1_join_157 : decode cX1_join 157 = .ok (.iconst 1, 1) := by decide +kernel
theorem dX1_join_158 : decode cX1_join 158 = .ok (.iadd, 1) := by decide +kernel
theorem dX1_join_159 : decode cX1_join 159 = .ok (.iastore, 1) := by decide +kernel
theorem dX1_join_160 : decode cX1_join 160 = .ok (.iinc 6 1, 3) := by decide +kernel
theorem dX1_join_163 : decode cX1_join 163 = .ok (.goto (-25), 3) := by decide +kernel
theorem dX1_join_166 : decode cX1_join 166 = .ok (.iload 5, 2) := by decide +kernel
theorem dX1_join_168 : decode cX1_join 168 = .ok (.ireturn, 1) := by decide +kernel
theorem dX1_isRun_0 : decode cX1_isRun 0 = .ok (.iload_n 0, 1) := by decide +kernel
theorem dX1_isRun_1 : decode cX1_isRun 1 = .ok (.ifCond .lt 18, 3) := by decide +kernel
theorem dX1_isRun_4 : decode cX1_isRun 4 = .ok (.iload_n 0, 1) := by decide +kernel
theorem dX1_isRun_5 : decode cX1_isRun 5 = .ok (.iload_n 1, 1) := by decide +kernel
theorem dX1_isRun_6 : decode cX1_isRun 6 = .ok (.if_icmp .ge 13, 3) := by decide +kernel
theorem dX1_isRun_9 : decode cX1_isRun 9 = .ok (.iload_n 1, 1) := by decide +kernel
theorem dX1_isRun_10 : decode cX1_isRun 10 = .ok (.bipush 60, 2) := by decide +kernel
theorem dX1_isRun_12 : decode cX1_isRun 12 = .ok (.if_icmp .gt 7, 3) := by decide +kernel
theorem dX1_isRun_15 : decode cX1_isRun 15 = .ok (.iconst 1, 1) := by decide +kernel
theorem dX1_isRun_16 : decode cX1_isRun 16 = .ok (.goto 4, 3) := by decide +kernel
theorem dX1_isRun_19 : decode cX1_isRun 19 = .ok (.iconst 0, 1) := by decide +kernel
theorem dX1_isRun_20 : decode cX1_isRun 20 = .ok (.ireturn, 1) := by decide +kernel
theorem dX1_isNode_0 : decode cX1_isNode 0 = .ok (.iload_n 1, 1) := by decide +kernel
theorem dX1_isNode_1 : decode cX1_isNode 1 = .ok (.ifCond .lt 15, 3) := by decide +kernel
theorem dX1_isNode_4 : decode cX1_isNode 4 = .ok (.iload_n 1, 1) := by decide +kernel
theorem dX1_isNode_5 : decode cX1_isNode 5 = .ok (.aload_n 0, 1) := by decide +kernel
theorem dX1_isNode_6 : decode cX1_isNode 6 = .ok (.getfield 42, 3) := by decide +kernel
theorem dX1_isNode_9 : decode cX1_isNode 9 = .ok (.if_icmp .ge 7, 3) := by decide +kernel
theorem dX1_isNode_12 : decode cX1_isNode 12 = .ok (.iconst 1, 1) := by decide +kernel
theorem dX1_isNode_13 : decode cX1_isNode 13 = .ok (.goto 4, 3) := by decide +kernel
theorem dX1_isNode_16 : decode cX1_isNode 16 = .ok (.iconst 0, 1) := by decide +kernel
theorem dX1_isNode_17 : decode cX1_isNode 17 = .ok (.ireturn, 1) := by decide +kernel
theorem dX1_up_0 : decode cX1_up 0 = .ok (.aload_n 0, 1) := by decide +kernel
theorem dX1_up_1 : decode cX1_up 1 = .ok (.getfield 17, 3) := by decide +kernel
theorem dX1_up_4 : decode cX1_up 4 = .ok (.bipush 60, 2) := by decide +kernel
theorem dX1_up_6 : decode cX1_up 6 = .ok (.iload_n 1, 1) := by decide +kernel
theorem dX1_up_7 : decode cX1_up 7 = .ok (.imul, 1) := by decide +kernel
theorem dX1_up_8 : decode cX1_up 8 = .ok (.iload_n 2, 1) := by decide +kernel
theorem dX1_up_9 : decode cX1_up 9 = .ok (.iadd, 1) := by decide +kernel
theorem dX1_up_10 : decode cX1_up 10 = .ok (.iaload, 1) := by decide +kernel
theorem dX1_up_11 : decode cX1_up 11 = .ok (.iconst 1, 1) := by decide +kernel
theorem dX1_up_12 : decode cX1_up 12 = .ok (.isub, 1) := by decide +kernel
theorem dX1_up_13 : decode cX1_up 13 = .ok (.ireturn, 1) := by decide +kernel
theorem dX1_part_0 : decode cX1_part 0 = .ok (.aload_n 0, 1) := by decide +kernel
theorem dX1_part_1 : decode cX1_part 1 = .ok (.iload_n 1, 1) := by decide +kernel
theorem dX1_part_2 : decode cX1_part 2 = .ok (.iload_n 2, 1) := by decide +kernel
theorem dX1_part_3 : decode cX1_part 3 = .ok (.invokestatic 67, 3) := by decide +kernel
theorem dX1_part_6 : decode cX1_part 6 = .ok (.ifCond .eq 11, 3) := by decide +kernel
theorem dX1_part_9 : decode cX1_part 9 = .ok (.aload_n 0, 1) := by decide +kernel
theorem dX1_part_10 : decode cX1_part 10 = .ok (.iload_n 3, 1) := by decide +kernel
theorem dX1_part_11 : decode cX1_part 11 = .ok (.invokevirtual 70, 3) := by decide +kernel
theorem dX1_part_14 : decode cX1_part 14 = .ok (.ifCond .ne 7, 3) := by decide +kernel
theorem dX1_part_17 : decode cX1_part 17 = .ok (.iconst 1, 1) := by decide +kernel
theorem dX1_part_18 : decode cX1_part 18 = .ok (.goto 4, 3) := by decide +kernel
theorem dX1_part_21 : decode cX1_part 21 = .ok (.iconst 0, 1) := by decide +kernel
theorem dX1_part_22 : decode cX1_part 22 = .ok (.invokevirtual 63, 3) := by decide +kernel
theorem dX1_part_25 : decode cX1_part 25 = .ok (.ifCond .eq 5, 3) := by decide +kernel
theorem dX1_part_28 : decode cX1_part 28 = .ok (.iconst 0, 1) := by decide +kernel
theorem dX1_part_29 : decode cX1_part 29 = .ok (.ireturn, 1) := by decide +kernel
theorem dX1_part_30 : decode cX1_part 30 = .ok (.iconst 0, 1) := by decide +kernel
theorem dX1_part_31 : decode cX1_part 31 = .ok (.istore 4, 2) := by decide +kernel
theorem dX1_part_33 : decode cX1_part 33 = .ok (.iload_n 1, 1) := by decide +kernel
theorem dX1_part_34 : decode cX1_part 34 = .ok (.istore 5, 2) := by decide +kernel
theorem dX1_part_36 : decode cX1_part 36 = .ok (.iload 5, 2) := by decide +kernel
theorem dX1_part_38 : decode cX1_part 38 = .ok (.iload_n 2, 1) := by decide +kernel
theorem dX1_part_39 : decode cX1_part 39 = .ok (.if_icmp .ge 43, 3) := by decide +kernel
theorem dX1_part_42 : decode cX1_part 42 = .ok (.aload_n 0, 1) := by decide +kernel
theorem dX1_part_43 : decode cX1_part 43 = .ok (.iload_n 3, 1) := by decide +kernel
theorem dX1_part_44 : decode cX1_part 44 = .ok (.iload 5, 2) := by decide +kernel
theorem dX1_part_46 : decode cX1_part 46 = .ok (.invokevirtual 48, 3) := by decide +kernel
theorem dX1_part_49 : decode cX1_part 49 = .ok (.ifCond .lt 10, 3) := by decide +kernel
theorem dX1_part_52 : decode cX1_part 52 = .ok (.iload 4, 2) := by decide +kernel
theorem dX1_part_54 : decode cX1_part 54 = .ok (.iconst 1, 1) := by decide +kernel
theorem dX1_part_55 : decode cX1_part 55 = .ok (.iadd, 1) := by decide +kernel
theorem dX1_part_56 : decode cX1_part 56 = .ok (.goto 5, 3) := by decide +kernel
theorem dX1_part_59 : decode cX1_part 59 = .ok (.iload 4, 2) := by decide +kernel
theorem dX1_part_61 : decode cX1_part 61 = .ok (.istore 4, 2) := by decide +kernel
theorem dX1_part_63 : decode cX1_part 63 = .ok (.aload_n 0, 1) := by decide +kernel
theorem dX1_part_64 : decode cX1_part 64 = .ok (.getfield 17, 3) := by decide +kernel
theorem dX1_part_67 : decode cX1_part 67 = .ok (.bipush 60, 2) := by decide +kernel
theorem dX1_part_69 : decode cX1_part 69 = .ok (.iload_n 3, 1) := by decide +kernel
theorem dX1_part_70 : decode cX1_part 70 = .ok (.imul, 1) := by decide +kernel
theorem dX1_part_71 : decode cX1_part 71 = .ok (.iload 5, 2) := by decide +kernel
theorem dX1_part_73 : decode cX1_part 73 = .ok (.iadd, 1) := by decide +kernel
theorem dX1_part_74 : decode cX1_part 74 = .ok (.iconst 0, 1) := by decide +kernel
theorem dX1_part_75 : decode cX1_part 75 = .ok (.iastore, 1) := by decide +kernel
theorem dX1_part_76 : decode cX1_part 76 = .ok (.iinc 5 1, 3) := by decide +kernel
theorem dX1_part_79 : decode cX1_part 79 = .ok (.goto (-43), 3) := by decide +kernel
theorem dX1_part_82 : decode cX1_part 82 = .ok (.iload 4, 2) := by decide +kernel
theorem dX1_part_84 : decode cX1_part 84 = .ok (.ireturn, 1) := by decide +kernel
theorem dX1_site_0 : decode cX1_site 0 = .ok (.aload_n 0, 1) := by decide +kernel
theorem dX1_site_1 : decode cX1_site 1 = .ok (.iload_n 1, 1) := by decide +kernel
theorem dX1_site_2 : decode cX1_site 2 = .ok (.invokestatic 73, 3) := by decide +kernel
theorem dX1_site_5 : decode cX1_site 5 = .ok (.ifCond .ne 7, 3) := by decide +kernel
theorem dX1_site_8 : decode cX1_site 8 = .ok (.iconst 1, 1) := by decide +kernel
theorem dX1_site_9 : decode cX1_site 9 = .ok (.goto 38, 3) := by decide +kernel
theorem dX1_site_12 : decode cX1_site 12 = .ok (.iload_n 2, 1) := by decide +kernel
theorem dX1_site_13 : decode cX1_site 13 = .ok (.ifCond .lt 16, 3) := by decide +kernel
theorem dX1_site_16 : decode cX1_site 16 = .ok (.iload_n 2, 1) := by decide +kernel
theorem dX1_site_17 : decode cX1_site 17 = .ok (.iconst 3, 1) := by decide +kernel
theorem dX1_site_18 : decode cX1_site 18 = .ok (.if_icmp .gt 11, 3) := by decide +kernel
theorem dX1_site_21 : decode cX1_site 21 = .ok (.aload_n 0, 1) := by decide +kernel
theorem dX1_site_22 : decode cX1_site 22 = .ok (.iload_n 1, 1) := by decide +kernel
theorem dX1_site_23 : decode cX1_site 23 = .ok (.invokevirtual 76, 3) := by decide +kernel
theorem dX1_site_26 : decode cX1_site 26 = .ok (.ifCond .eq 7, 3) := by decide +kernel
theorem dX1_site_29 : decode cX1_site 29 = .ok (.iconst 2, 1) := by decide +kernel
theorem dX1_site_30 : decode cX1_site 30 = .ok (.goto 17, 3) := by decide +kernel
theorem dX1_site_33 : decode cX1_site 33 = .ok (.aload_n 0, 1) := by decide +kernel
theorem dX1_site_34 : decode cX1_site 34 = .ok (.getfield 45, 3) := by decide +kernel
theorem dX1_site_37 : decode cX1_site 37 = .ok (.bipush 8, 2) := by decide +kernel
theorem dX1_site_39 : decode cX1_site 39 = .ok (.if_icmp .ne 7, 3) := by decide +kernel
theorem dX1_site_42 : decode cX1_site 42 = .ok (.iconst 3, 1) := by decide +kernel
theorem dX1_site_43 : decode cX1_site 43 = .ok (.goto 4, 3) := by decide +kernel
theorem dX1_site_46 : decode cX1_site 46 = .ok (.iconst 0, 1) := by decide +kernel
theorem dX1_site_47 : decode cX1_site 47 = .ok (.invokevirtual 63, 3) := by decide +kernel
theorem dX1_site_50 : decode cX1_site 50 = .ok (.ifCond .eq 5, 3) := by decide +kernel
theorem dX1_site_53 : decode cX1_site 53 = .ok (.iconst 0, 1) := by decide +kernel
theorem dX1_site_54 : decode cX1_site 54 = .ok (.ireturn, 1) := by decide +kernel
theorem dX1_site_55 : decode cX1_site 55 = .ok (.aload_n 0, 1) := by decide +kernel
theorem dX1_site_56 : decode cX1_site 56 = .ok (.getfield 20, 3) := by decide +kernel
theorem dX1_site_59 : decode cX1_site 59 = .ok (.aload_n 0, 1) := by decide +kernel
theorem dX1_site_60 : decode cX1_site 60 = .ok (.getfield 45, 3) := by decide +kernel
theorem dX1_site_63 : decode cX1_site 63 = .ok (.iload_n 1, 1) := by decide +kernel
theorem dX1_site_64 : decode cX1_site 64 = .ok (.iastore, 1) := by decide +kernel
theorem dX1_site_65 : decode cX1_site 65 = .ok (.aload_n 0, 1) := by decide +kernel
theorem dX1_site_66 : decode cX1_site 66 = .ok (.getfield 23, 3) := by decide +kernel
theorem dX1_site_69 : decode cX1_site 69 = .ok (.aload_n 0, 1) := by decide +kernel
theorem dX1_site_70 : decode cX1_site 70 = .ok (.getfield 45, 3) := by decide +kernel
theorem dX1_site_73 : decode cX1_site 73 = .ok (.iload_n 2, 1) := by decide +kernel
theorem dX1_site_74 : decode cX1_site 74 = .ok (.iastore, 1) := by decide +kernel
theorem dX1_site_75 : decode cX1_site 75 = .ok (.aload_n 0, 1) := by decide +kernel
theorem dX1_site_76 : decode cX1_site 76 = .ok (.dup, 1) := by decide +kernel
theorem dX1_site_77 : decode cX1_site 77 = .ok (.getfield 45, 3) := by decide +kernel
theorem dX1_site_80 : decode cX1_site 80 = .ok (.iconst 1, 1) := by decide +kernel
theorem dX1_site_81 : decode cX1_site 81 = .ok (.iadd, 1) := by decide +kernel
theorem dX1_site_82 : decode cX1_site 82 = .ok (.putfield 45, 3) := by decide +kernel
theorem dX1_site_85 : decode cX1_site 85 = .ok (.aload_n 0, 1) := by decide +kernel
theorem dX1_site_86 : decode cX1_site 86 = .ok (.getfield 45, 3) := by decide +kernel
theorem dX1_site_89 : decode cX1_site 89 = .ok (.iconst 1, 1) := by decide +kernel
theorem dX1_site_90 : decode cX1_site 90 = .ok (.isub, 1) := by decide +kernel
theorem dX1_site_91 : decode cX1_site 91 = .ok (.ireturn, 1) := by decide +kernel
theorem dX1_isPlace_0 : decode cX1_isPlace 0 = .ok (.iload_n 0, 1) := by decide +kernel
theorem dX1_isPlace_1 : decode cX1_isPlace 1 = .ok (.ifCond .lt 13, 3) := by decide +kernel
theorem dX1_isPlace_4 : decode cX1_isPlace 4 = .ok (.iload_n 0, 1) := by decide +kernel
theorem dX1_isPlace_5 : decode cX1_isPlace 5 = .ok (.bipush 60, 2) := by decide +kernel
theorem dX1_isPlace_7 : decode cX1_isPlace 7 = .ok (.if_icmp .ge 7, 3) := by decide +kernel
theorem dX1_isPlace_10 : decode cX1_isPlace 10 = .ok (.iconst 1, 1) := by decide +kernel
theorem dX1_isPlace_11 : decode cX1_isPlace 11 = .ok (.goto 4, 3) := by decide +kernel
theorem dX1_isPlace_14 : decode cX1_isPlace 14 = .ok (.iconst 0, 1) := by decide +kernel
theorem dX1_isPlace_15 : decode cX1_isPlace 15 = .ok (.ireturn, 1) := by decide +kernel
theorem dX1_isTaken_0 : decode cX1_isTaken 0 = .ok (.iconst 0, 1) := by decide +kernel
theorem dX1_isTaken_1 : decode cX1_isTaken 1 = .ok (.istore_n 2, 1) := by decide +kernel
theorem dX1_isTaken_2 : decode cX1_isTaken 2 = .ok (.iconst 0, 1) := by decide +kernel
theorem dX1_isTaken_3 : decode cX1_isTaken 3 = .ok (.istore_n 3, 1) := by decide +kernel
theorem dX1_isTaken_4 : decode cX1_isTaken 4 = .ok (.iload_n 3, 1) := by decide +kernel
theorem dX1_isTaken_5 : decode cX1_isTaken 5 = .ok (.aload_n 0, 1) := by decide +kernel
theorem dX1_isTaken_6 : decode cX1_isTaken 6 = .ok (.getfield 45, 3) := by decide +kernel
theorem dX1_isTaken_9 : decode cX1_isTaken 9 = .ok (.if_icmp .ge 29, 3) := by decide +kernel
theorem dX1_isTaken_12 : decode cX1_isTaken 12 = .ok (.iload_n 2, 1) := by decide +kernel
theorem dX1_isTaken_13 : decode cX1_isTaken 13 = .ok (.ifCond .ne 13, 3) := by decide +kernel
theorem dX1_isTaken_16 : decode cX1_isTaken 16 = .ok (.aload_n 0, 1) := by decide +kernel
theorem dX1_isTaken_17 : decode cX1_isTaken 17 = .ok (.getfield 20, 3) := by decide +kernel
theorem dX1_isTaken_20 : decode cX1_isTaken 20 = .ok (.iload_n 3, 1) := by decide +kernel
theorem dX1_isTaken_21 : decode cX1_isTaken 21 = .ok (.iaload, 1) := by decide +kernel
theorem dX1_isTaken_22 : decode cX1_isTaken 22 = .ok (.iload_n 1, 1) := by decide +kernel
theorem dX1_isTaken_23 : decode cX1_isTaken 23 = .ok (.if_icmp .ne 7, 3) := by decide +kernel
theorem dX1_isTaken_26 : decode cX1_isTaken 26 = .ok (.iconst 1, 1) := by decide +kernel
theorem dX1_isTaken_27 : decode cX1_isTaken 27 = .ok (.goto 4, 3) := by decide +kernel
theorem dX1_isTaken_30 : decode cX1_isTaken 30 = .ok (.iconst 0, 1) := by decide +kernel
theorem dX1_isTaken_31 : decode cX1_isTaken 31 = .ok (.istore_n 2, 1) := by decide +kernel
theorem dX1_isTaken_32 : decode cX1_isTaken 32 = .ok (.iinc 3 1, 3) := by decide +kernel
theorem dX1_isTaken_35 : decode cX1_isTaken 35 = .ok (.goto (-31), 3) := by decide +kernel
theorem dX1_isTaken_38 : decode cX1_isTaken 38 = .ok (.iload_n 2, 1) := by decide +kernel
theorem dX1_isTaken_39 : decode cX1_isTaken 39 = .ok (.ireturn, 1) := by decide +kernel
theorem dX1_mutate_0 : decode cX1_mutate 0 = .ok (.aload_n 0, 1) := by decide +kernel
theorem dX1_mutate_1 : decode cX1_mutate 1 = .ok (.aload_n 0, 1) := by decide +kernel
theorem dX1_mutate_2 : decode cX1_mutate 2 = .ok (.iload_n 1, 1) := by decide +kernel
theorem dX1_mutate_3 : decode cX1_mutate 3 = .ok (.invokevirtual 79, 3) := by decide +kernel
theorem dX1_mutate_6 : decode cX1_mutate 6 = .ok (.ifCond .eq 11, 3) := by decide +kernel
theorem dX1_mutate_9 : decode cX1_mutate 9 = .ok (.aload_n 0, 1) := by decide +kernel
theorem dX1_mutate_10 : decode cX1_mutate 10 = .ok (.iload_n 2, 1) := by decide +kernel
theorem dX1_mutate_11 : decode cX1_mutate 11 = .ok (.invokevirtual 70, 3) := by decide +kernel
theorem dX1_mutate_14 : decode cX1_mutate 14 = .ok (.ifCond .ne 7, 3) := by decide +kernel
theorem dX1_mutate_17 : decode cX1_mutate 17 = .ok (.iconst 1, 1) := by decide +kernel
theorem dX1_mutate_18 : decode cX1_mutate 18 = .ok (.goto 18, 3) := by decide +kernel
theorem dX1_mutate_21 : decode cX1_mutate 21 = .ok (.iload_n 3, 1) := by decide +kernel
theorem dX1_mutate_22 : decode cX1_mutate 22 = .ok (.iconst (-1), 1) := by decide +kernel
theorem dX1_mutate_23 : decode cX1_mutate 23 = .ok (.if_icmp .lt 8, 3) := by decide +kernel
theorem dX1_mutate_26 : decode cX1_mutate 26 = .ok (.iload_n 3, 1) := by decide +kernel
theorem dX1_mutate_27 : decode cX1_mutate 27 = .ok (.iconst 3, 1) := by decide +kernel
theorem dX1_mutate_28 : decode cX1_mutate 28 = .ok (.if_icmp .le 7, 3) := by decide +kernel
theorem dX1_mutate_31 : decode cX1_mutate 31 = .ok (.iconst 2, 1) := by decide +kernel
theorem dX1_mutate_32 : decode cX1_mutate 32 = .ok (.goto 4, 3) := by decide +kernel
theorem dX1_mutate_35 : decode cX1_mutate 35 = .ok (.iconst 0, 1) := by decide +kernel
theorem dX1_mutate_36 : decode cX1_mutate 36 = .ok (.invokevirtual 63, 3) := by decide +kernel
theorem dX1_mutate_39 : decode cX1_mutate 39 = .ok (.ifCond .eq 5, 3) := by decide +kernel
theorem dX1_mutate_42 : decode cX1_mutate 42 = .ok (.iconst 0, 1) := by decide +kernel
theorem dX1_mutate_43 : decode cX1_mutate 43 = .ok (.ireturn, 1) := by decide +kernel
theorem dX1_mutate_44 : decode cX1_mutate 44 = .ok (.aload_n 0, 1) := by decide +kernel
theorem dX1_mutate_45 : decode cX1_mutate 45 = .ok (.getfield 26, 3) := by decide +kernel
theorem dX1_mutate_48 : decode cX1_mutate 48 = .ok (.bipush 14, 2) := by decide +kernel
theorem dX1_mutate_50 : decode cX1_mutate 50 = .ok (.iload_n 1, 1) := by decide +kernel
theorem dX1_mutate_51 : decode cX1_mutate 51 = .ok (.imul, 1) := by decide +kernel
theorem dX1_mutate_52 : decode cX1_mutate 52 = .ok (.iload_n 2, 1) := by decide +kernel
theorem dX1_mutate_53 : decode cX1_mutate 53 = .ok (.iadd, 1) := by decide +kernel
theorem dX1_mutate_54 : decode cX1_mutate 54 = .ok (.iaload, 1) := by decide +kernel
theorem dX1_mutate_55 : decode cX1_mutate 55 = .ok (.iconst 1, 1) := by decide +kernel
theorem dX1_mutate_56 : decode cX1_mutate 56 = .ok (.isub, 1) := by decide +kernel
theorem dX1_mutate_57 : decode cX1_mutate 57 = .ok (.istore 4, 2) := by decide +kernel
theorem dX1_mutate_59 : decode cX1_mutate 59 = .ok (.aload_n 0, 1) := by decide +kernel
theorem dX1_mutate_60 : decode cX1_mutate 60 = .ok (.getfield 26, 3) := by decide +kernel
theorem dX1_mutate_63 : decode cX1_mutate 63 = .ok (.bipush 14, 2) := by decide +kernel
theorem dX1_mutate_65 : decode cX1_mutate 65 = .ok (.iload_n 1, 1) := by decide +kernel
theorem dX1_mutate_66 : decode cX1_mutate 66 = .ok (.imul, 1) := by decide +kernel
theorem dX1_mutate_67 : decode cX1_mutate 67 = .ok (.iload_n 2, 1) := by decide +kernel
theorem dX1_mutate_68 : decode cX1_mutate 68 = .ok (.iadd, 1) := by decide +kernel
theorem dX1_mutate_69 : decode cX1_mutate 69 = .ok (.iload_n 3, 1) := by decide +kernel
theorem dX1_mutate_70 : decode cX1_mutate 70 = .ok (.iconst 1, 1) := by decide +kernel
theorem dX1_mutate_71 : decode cX1_mutate 71 = .ok (.iadd, 1) := by decide +kernel
theorem dX1_mutate_72 : decode cX1_mutate 72 = .ok (.iastore, 1) := by decide +kernel
theorem dX1_mutate_73 : decode cX1_mutate 73 = .ok (.iload 4, 2) := by decide +kernel
theorem dX1_mutate_75 : decode cX1_mutate 75 = .ok (.ireturn, 1) := by decide +kernel
theorem dX1_isSite_0 : decode cX1_isSite 0 = .ok (.iload_n 1, 1) := by decide +kernel
theorem dX1_isSite_1 : decode cX1_isSite 1 = .ok (.ifCond .lt 15, 3) := by decide +kernel
theorem dX1_isSite_4 : decode cX1_isSite 4 = .ok (.iload_n 1, 1) := by decide +kernel
theorem dX1_isSite_5 : decode cX1_isSite 5 = .ok (.aload_n 0, 1) := by decide +kernel
theorem dX1_isSite_6 : decode cX1_isSite 6 = .ok (.getfield 45, 3) := by decide +kernel
theorem dX1_isSite_9 : decode cX1_isSite 9 = .ok (.if_icmp .ge 7, 3) := by decide +kernel
theorem dX1_isSite_12 : decode cX1_isSite 12 = .ok (.iconst 1, 1) := by decide +kernel
theorem dX1_isSite_13 : decode cX1_isSite 13 = .ok (.goto 4, 3) := by decide +kernel
theorem dX1_isSite_16 : decode cX1_isSite 16 = .ok (.iconst 0, 1) := by decide +kernel
theorem dX1_isSite_17 : decode cX1_isSite 17 = .ok (.ireturn, 1) := by decide +kernel
theorem dX1_count_0 : decode cX1_count 0 = .ok (.aload_n 0, 1) := by decide +kernel
theorem dX1_count_1 : decode cX1_count 1 = .ok (.iconst 0, 1) := by decide +kernel
theorem dX1_count_2 : decode cX1_count 2 = .ok (.putfield 38, 3) := by decide +kernel
theorem dX1_count_5 : decode cX1_count 5 = .ok (.iconst 0, 1) := by decide +kernel
theorem dX1_count_6 : decode cX1_count 6 = .ok (.istore_n 2, 1) := by decide +kernel
theorem dX1_count_7 : decode cX1_count 7 = .ok (.iload_n 1, 1) := by decide +kernel
theorem dX1_count_8 : decode cX1_count 8 = .ok (.tableswitch 116 0 4 #[36, 41, 46, 52, 57], 36) := by decide +kernel
theorem dX1_count_44 : decode cX1_count 44 = .ok (.aload_n 0, 1) := by decide +kernel
theorem dX1_count_45 : decode cX1_count 45 = .ok (.getfield 42, 3) := by decide +kernel
theorem dX1_count_48 : decode cX1_count 48 = .ok (.ireturn, 1) := by decide +kernel
theorem dX1_count_49 : decode cX1_count 49 = .ok (.aload_n 0, 1) := by decide +kernel
theorem dX1_count_50 : decode cX1_count 50 = .ok (.invokevirtual 94, 3) := by decide +kernel
theorem dX1_count_53 : decode cX1_count 53 = .ok (.ireturn, 1) := by decide +kernel
theorem dX1_count_54 : decode cX1_count 54 = .ok (.aload_n 0, 1) := by decide +kernel
theorem dX1_count_55 : decode cX1_count 55 = .ok (.iconst (-1), 1) := by decide +kernel
theorem dX1_count_56 : decode cX1_count 56 = .ok (.invokevirtual 98, 3) := by decide +kernel
theorem dX1_count_59 : decode cX1_count 59 = .ok (.ireturn, 1) := by decide +kernel
theorem dX1_count_60 : decode cX1_count 60 = .ok (.aload_n 0, 1) := by decide +kernel
theorem dX1_count_61 : decode cX1_count 61 = .ok (.getfield 45, 3) := by decide +kernel
theorem dX1_count_64 : decode cX1_count 64 = .ok (.ireturn, 1) := by decide +kernel
theorem dX1_count_65 : decode cX1_count 65 = .ok (.iconst 0, 1) := by decide +kernel
theorem dX1_count_66 : decode cX1_count 66 = .ok (.istore_n 3, 1) := by decide +kernel
theorem dX1_count_67 : decode cX1_count 67 = .ok (.iload_n 3, 1) := by decide +kernel
theorem dX1_count_68 : decode cX1_count 68 = .ok (.aload_n 0, 1) := by decide +kernel
theorem dX1_count_69 : decode cX1_count 69 = .ok (.getfield 45, 3) := by decide +kernel
theorem dX1_count_72 : decode cX1_count 72 = .ok (.if_icmp .ge 50, 3) := by decide +kernel
theorem dX1_count_75 : decode cX1_count 75 = .ok (.iconst 0, 1) := by decide +kernel
theorem dX1_count_76 : decode cX1_count 76 = .ok (.istore 4, 2) := by decide +kernel
theorem dX1_count_78 : decode cX1_count 78 = .ok (.iload 4, 2) := by decide +kernel
theorem dX1_count_80 : decode cX1_count 80 = .ok (.aload_n 0, 1) := by decide +kernel
theorem dX1_count_81 : decode cX1_count 81 = .ok (.getfield 42, 3) := by decide +kernel
theorem dX1_count_84 : decode cX1_count 84 = .ok (.if_icmp .ge 32, 3) := by decide +kernel
theorem dX1_count_87 : decode cX1_count 87 = .ok (.aload_n 0, 1) := by decide +kernel
theorem dX1_count_88 : decode cX1_count 88 = .ok (.getfield 26, 3) := by decide +kernel
theorem dX1_count_91 : decode cX1_count 91 = .ok (.bipush 14, 2) := by decide +kernel
theorem dX1_count_93 : decode cX1_count 93 = .ok (.iload_n 3, 1) := by decide +kernel
theorem dX1_count_94 : decode cX1_count 94 = .ok (.imul, 1) := by decide +kernel
theorem dX1_count_95 : decode cX1_count 95 = .ok (.iload 4, 2) := by decide +kernel
theorem dX1_count_97 : decode cX1_count 97 = .ok (.iadd, 1) := by decide +kernel
theorem dX1_count_98 : decode cX1_count 98 = .ok (.iaload, 1) := by decide +kernel
theorem dX1_count_99 : decode cX1_count 99 = .ok (.ifCond .le 9, 3) := by decide +kernel
theorem dX1_count_102 : decode cX1_count 102 = .ok (.iload_n 2, 1) := by decide +kernel
theorem dX1_count_103 : decode cX1_count 103 = .ok (.iconst 1, 1) := by decide +kernel
theorem dX1_count_104 : decode cX1_count 104 = .ok (.iadd, 1) := by decide +kernel
theorem dX1_count_105 : decode cX1_count 105 = .ok (.goto 4, 3) := by decide +kernel
theorem dX1_count_108 : decode cX1_count 108 = .ok (.iload_n 2, 1) := by decide +kernel
theorem dX1_count_109 : decode cX1_count 109 = .ok (.istore_n 2, 1) := by decide +kernel
theorem dX1_count_110 : decode cX1_count 110 = .ok (.iinc 4 1, 3) := by decide +kernel
theorem dX1_count_113 : decode cX1_count 113 = .ok (.goto (-35), 3) := by decide +kernel
theorem dX1_count_116 : decode cX1_count 116 = .ok (.iinc 3 1, 3) := by decide +kernel
theorem dX1_count_119 : decode cX1_count 119 = .ok (.goto (-52), 3) := by decide +kernel
theorem dX1_count_122 : decode cX1_count 122 = .ok (.iload_n 2, 1) := by decide +kernel
theorem dX1_count_123 : decode cX1_count 123 = .ok (.ireturn, 1) := by decide +kernel
theorem dX1_count_124 : decode cX1_count 124 = .ok (.iconst (-1), 1) := by decide +kernel
theorem dX1_count_125 : decode cX1_count 125 = .ok (.ireturn, 1) := by decide +kernel
theorem dX1_samples_0 : decode cX1_samples 0 = .ok (.iconst 0, 1) := by decide +kernel
theorem dX1_samples_1 : decode cX1_samples 1 = .ok (.istore_n 1, 1) := by decide +kernel
theorem dX1_samples_2 : decode cX1_samples 2 = .ok (.iconst 0, 1) := by decide +kernel
theorem dX1_samples_3 : decode cX1_samples 3 = .ok (.istore_n 2, 1) := by decide +kernel
theorem dX1_samples_4 : decode cX1_samples 4 = .ok (.iload_n 2, 1) := by decide +kernel
theorem dX1_samples_5 : decode cX1_samples 5 = .ok (.aload_n 0, 1) := by decide +kernel
theorem dX1_samples_6 : decode cX1_samples 6 = .ok (.getfield 42, 3) := by decide +kernel
theorem dX1_samples_9 : decode cX1_samples 9 = .ok (.if_icmp .ge 26, 3) := by decide +kernel
theorem dX1_samples_12 : decode cX1_samples 12 = .ok (.aload_n 0, 1) := by decide +kernel
theorem dX1_samples_13 : decode cX1_samples 13 = .ok (.getfield 13, 3) := by decide +kernel
theorem dX1_samples_16 : decode cX1_samples 16 = .ok (.iload_n 2, 1) := by decide +kernel
theorem dX1_samples_17 : decode cX1_samples 17 = .ok (.baload, 1) := by decide +kernel
theorem dX1_samples_18 : decode cX1_samples 18 = .ok (.ifCond .eq 9, 3) := by decide +kernel
theorem dX1_samples_21 : decode cX1_samples 21 = .ok (.iload_n 1, 1) := by decide +kernel
theorem dX1_samples_22 : decode cX1_samples 22 = .ok (.iconst 1, 1) := by decide +kernel
theorem dX1_samples_23 : decode cX1_samples 23 = .ok (.iadd, 1) := by decide +kernel
theorem dX1_samples_24 : decode cX1_samples 24 = .ok (.goto 4, 3) := by decide +kernel
theorem dX1_samples_27 : decode cX1_samples 27 = .ok (.iload_n 1, 1) := by decide +kernel
theorem dX1_samples_28 : decode cX1_samples 28 = .ok (.istore_n 1, 1) := by decide +kernel
theorem dX1_samples_29 : decode cX1_samples 29 = .ok (.iinc 2 1, 3) := by decide +kernel
theorem dX1_samples_32 : decode cX1_samples 32 = .ok (.goto (-28), 3) := by decide +kernel
theorem dX1_samples_35 : decode cX1_samples 35 = .ok (.iload_n 1, 1) := by decide +kernel
theorem dX1_samples_36 : decode cX1_samples 36 = .ok (.ireturn, 1) := by decide +kernel
theorem dX1_find_0 : decode cX1_find 0 = .ok (.iconst 0, 1) := by decide +kernel
theorem dX1_find_1 : decode cX1_find 1 = .ok (.istore_n 2, 1) := by decide +kernel
theorem dX1_find_2 : decode cX1_find 2 = .ok (.iconst 0, 1) := by decide +kernel
theorem dX1_find_3 : decode cX1_find 3 = .ok (.istore_n 3, 1) := by decide +kernel
theorem dX1_find_4 : decode cX1_find 4 = .ok (.iload_n 3, 1) := by decide +kernel
theorem dX1_find_5 : decode cX1_find 5 = .ok (.sipush 1000, 3) := by decide +kernel
theorem dX1_find_8 : decode cX1_find 8 = .ok (.if_icmp .gt 122, 3) := by decide +kernel
theorem dX1_find_11 : decode cX1_find 11 = .ok (.iconst 0, 1) := by decide +kernel
theorem dX1_find_12 : decode cX1_find 12 = .ok (.istore 4, 2) := by decide +kernel
theorem dX1_find_14 : decode cX1_find 14 = .ok (.iload 4, 2) := by decide +kernel
theorem dX1_find_16 : decode cX1_find 16 = .ok (.aload_n 0, 1) := by decide +kernel
theorem dX1_find_17 : decode cX1_find 17 = .ok (.getfield 42, 3) := by decide +kernel
theorem dX1_find_20 : decode cX1_find 20 = .ok (.if_icmp .ge 104, 3) := by decide +kernel
theorem dX1_find_23 : decode cX1_find 23 = .ok (.iconst 0, 1) := by decide +kernel
theorem dX1_find_24 : decode cX1_find 24 = .ok (.istore 5, 2) := by decide +kernel
theorem dX1_find_26 : decode cX1_find 26 = .ok (.iload 5, 2) := by decide +kernel
theorem dX1_find_28 : decode cX1_find 28 = .ok (.aload_n 0, 1) := by decide +kernel
theorem dX1_find_29 : decode cX1_find 29 = .ok (.getfield 42, 3) := by decide +kernel
theorem dX1_find_32 : decode cX1_find 32 = .ok (.if_icmp .ge 86, 3) := by decide +kernel
theorem dX1_find_35 : decode cX1_find 35 = .ok (.aload_n 0, 1) := by decide +kernel
theorem dX1_find_36 : decode cX1_find 36 = .ok (.getfield 7, 3) := by decide +kernel
theorem dX1_find_39 : decode cX1_find 39 = .ok (.iload 4, 2) := by decide +kernel
theorem dX1_find_41 : decode cX1_find 41 = .ok (.iaload, 1) := by decide +kernel
theorem dX1_find_42 : decode cX1_find 42 = .ok (.iload_n 3, 1) := by decide +kernel
theorem dX1_find_43 : decode cX1_find 43 = .ok (.if_icmp .ne 75, 3) := by decide +kernel
theorem dX1_find_46 : decode cX1_find 46 = .ok (.iconst 0, 1) := by decide +kernel
theorem dX1_find_47 : decode cX1_find 47 = .ok (.istore 6, 2) := by decide +kernel
theorem dX1_find_49 : decode cX1_find 49 = .ok (.iload 6, 2) := by decide +kernel
theorem dX1_find_51 : decode cX1_find 51 = .ok (.bipush 60, 2) := by decide +kernel
theorem dX1_find_53 : decode cX1_find 53 = .ok (.if_icmp .ge 59, 3) := by decide +kernel
theorem dX1_find_56 : decode cX1_find 56 = .ok (.aload_n 0, 1) := by decide +kernel
theorem dX1_find_57 : decode cX1_find 57 = .ok (.iload 5, 2) := by decide +kernel
theorem dX1_find_59 : decode cX1_find 59 = .ok (.iload 6, 2) := by decide +kernel
theorem dX1_find_61 : decode cX1_find 61 = .ok (.invokevirtual 48, 3) := by decide +kernel
theorem dX1_find_64 : decode cX1_find 64 = .ok (.iload 4, 2) := by decide +kernel
theorem dX1_find_66 : decode cX1_find 66 = .ok (.if_icmp .ne 40, 3) := by decide +kernel
theorem dX1_find_69 : decode cX1_find 69 = .ok (.aload_n 0, 1) := by decide +kernel
theorem dX1_find_70 : decode cX1_find 70 = .ok (.iload 5, 2) := by decide +kernel
theorem dX1_find_72 : decode cX1_find 72 = .ok (.iload 6, 2) := by decide +kernel
theorem dX1_find_74 : decode cX1_find 74 = .ok (.invokevirtual 82, 3) := by decide +kernel
theorem dX1_find_77 : decode cX1_find 77 = .ok (.ifCond .eq 29, 3) := by decide +kernel
theorem dX1_find_80 : decode cX1_find 80 = .ok (.iload_n 2, 1) := by decide +kernel
theorem dX1_find_81 : decode cX1_find 81 = .ok (.iload_n 1, 1) := by decide +kernel
theorem dX1_find_82 : decode cX1_find 82 = .ok (.if_icmp .ne 21, 3) := by decide +kernel
theorem dX1_find_85 : decode cX1_find 85 = .ok (.aload_n 0, 1) := by decide +kernel
theorem dX1_find_86 : decode cX1_find 86 = .ok (.iload 6, 2) := by decide +kernel
theorem dX1_find_88 : decode cX1_find 88 = .ok (.putfield 85, 3) := by decide +kernel
theorem dX1_find_91 : decode cX1_find 91 = .ok (.aload_n 0, 1) := by decide +kernel
theorem dX1_find_92 : decode cX1_find 92 = .ok (.iload 4, 2) := by decide +kernel
theorem dX1_find_94 : decode cX1_find 94 = .ok (.putfield 88, 3) := by decide +kernel
theorem dX1_find_97 : decode cX1_find 97 = .ok (.aload_n 0, 1) := by decide +kernel
theorem dX1_find_98 : decode cX1_find 98 = .ok (.iload 5, 2) := by decide +kernel
theorem dX1_find_100 : decode cX1_find 100 = .ok (.putfield 91, 3) := by decide +kernel
theorem dX1_find_103 : decode cX1_find 103 = .ok (.iinc 2 1, 3) := by decide +kernel
theorem dX1_find_106 : decode cX1_find 106 = .ok (.iinc 6 1, 3) := by decide +kernel
theorem dX1_find_109 : decode cX1_find 109 = .ok (.goto (-60), 3) := by decide +kernel
theorem dX1_find_112 : decode cX1_find 112 = .ok (.iinc 5 1, 3) := by decide +kernel
theorem dX1_find_115 : decode cX1_find 115 = .ok (.goto (-89), 3) := by decide +kernel
theorem dX1_find_118 : decode cX1_find 118 = .ok (.iinc 4 1, 3) := by decide +kernel
theorem dX1_find_121 : decode cX1_find 121 = .ok (.goto (-107), 3) := by decide +kernel
theorem dX1_find_124 : decode cX1_find 124 = .ok (.iinc 3 1, 3) := by decide +kernel
theorem dX1_find_127 : decode cX1_find 127 = .ok (.goto (-123), 3) := by decide +kernel
theorem dX1_find_130 : decode cX1_find 130 = .ok (.iload_n 2, 1) := by decide +kernel
theorem dX1_find_131 : decode cX1_find 131 = .ok (.ireturn, 1) := by decide +kernel
theorem dX1_begins_0 : decode cX1_begins 0 = .ok (.aload_n 0, 1) := by decide +kernel
theorem dX1_begins_1 : decode cX1_begins 1 = .ok (.iload_n 1, 1) := by decide +kernel
theorem dX1_begins_2 : decode cX1_begins 2 = .ok (.iload_n 2, 1) := by decide +kernel
theorem dX1_begins_3 : decode cX1_begins 3 = .ok (.invokevirtual 48, 3) := by decide +kernel
theorem dX1_begins_6 : decode cX1_begins 6 = .ok (.ifCond .lt 28, 3) := by decide +kernel
theorem dX1_begins_9 : decode cX1_begins 9 = .ok (.iload_n 2, 1) := by decide +kernel
theorem dX1_begins_10 : decode cX1_begins 10 = .ok (.ifCond .eq 20, 3) := by decide +kernel
theorem dX1_begins_13 : decode cX1_begins 13 = .ok (.aload_n 0, 1) := by decide +kernel
theorem dX1_begins_14 : decode cX1_begins 14 = .ok (.iload_n 1, 1) := by decide +kernel
theorem dX1_begins_15 : decode cX1_begins 15 = .ok (.iload_n 2, 1) := by decide +kernel
theorem dX1_begins_16 : decode cX1_begins 16 = .ok (.iconst 1, 1) := by decide +kernel
theorem dX1_begins_17 : decode cX1_begins 17 = .ok (.isub, 1) := by decide +kernel
theorem dX1_begins_18 : decode cX1_begins 18 = .ok (.invokevirtual 48, 3) := by decide +kernel
theorem dX1_begins_21 : decode cX1_begins 21 = .ok (.aload_n 0, 1) := by decide +kernel
theorem dX1_begins_22 : decode cX1_begins 22 = .ok (.iload_n 1, 1) := by decide +kernel
theorem dX1_begins_23 : decode cX1_begins 23 = .ok (.iload_n 2, 1) := by decide +kernel
theorem dX1_begins_24 : decode cX1_begins 24 = .ok (.invokevirtual 48, 3) := by decide +kernel
theorem dX1_begins_27 : decode cX1_begins 27 = .ok (.if_icmp .eq 7, 3) := by decide +kernel
theorem dX1_begins_30 : decode cX1_begins 30 = .ok (.iconst 1, 1) := by decide +kernel
theorem dX1_begins_31 : decode cX1_begins 31 = .ok (.goto 4, 3) := by decide +kernel
theorem dX1_begins_34 : decode cX1_begins 34 = .ok (.iconst 0, 1) := by decide +kernel
theorem dX1_begins_35 : decode cX1_begins 35 = .ok (.ireturn, 1) := by decide +kernel
theorem dX1_time_0 : decode cX1_time 0 = .ok (.aload_n 0, 1) := by decide +kernel
theorem dX1_time_1 : decode cX1_time 1 = .ok (.aload_n 0, 1) := by decide +kernel
theorem dX1_time_2 : decode cX1_time 2 = .ok (.iload_n 1, 1) := by decide +kernel
theorem dX1_time_3 : decode cX1_time 3 = .ok (.invokevirtual 70, 3) := by decide +kernel
theorem dX1_time_6 : decode cX1_time 6 = .ok (.ifCond .eq 7, 3) := by decide +kernel
theorem dX1_time_9 : decode cX1_time 9 = .ok (.iconst 0, 1) := by decide +kernel
theorem dX1_time_10 : decode cX1_time 10 = .ok (.goto 4, 3) := by decide +kernel
theorem dX1_time_13 : decode cX1_time 13 = .ok (.iconst 1, 1) := by decide +kernel
theorem dX1_time_14 : decode cX1_time 14 = .ok (.invokevirtual 63, 3) := by decide +kernel
theorem dX1_time_17 : decode cX1_time 17 = .ok (.ifCond .eq 7, 3) := by decide +kernel
theorem dX1_time_20 : decode cX1_time 20 = .ok (.iconst 0, 1) := by decide +kernel
theorem dX1_time_21 : decode cX1_time 21 = .ok (.goto 9, 3) := by decide +kernel
theorem dX1_time_24 : decode cX1_time 24 = .ok (.aload_n 0, 1) := by decide +kernel
theorem dX1_time_25 : decode cX1_time 25 = .ok (.getfield 7, 3) := by decide +kernel
theorem dX1_time_28 : decode cX1_time 28 = .ok (.iload_n 1, 1) := by decide +kernel
theorem dX1_time_29 : decode cX1_time 29 = .ok (.iaload, 1) := by decide +kernel
theorem dX1_time_30 : decode cX1_time 30 = .ok (.ireturn, 1) := by decide +kernel
theorem dX1_edge_0 : decode cX1_edge 0 = .ok (.aload_n 0, 1) := by decide +kernel
theorem dX1_edge_1 : decode cX1_edge 1 = .ok (.iload_n 1, 1) := by decide +kernel
theorem dX1_edge_2 : decode cX1_edge 2 = .ok (.ifCond .lt 21, 3) := by decide +kernel
theorem dX1_edge_5 : decode cX1_edge 5 = .ok (.iload_n 2, 1) := by decide +kernel
theorem dX1_edge_6 : decode cX1_edge 6 = .ok (.ifCond .lt 17, 3) := by decide +kernel
theorem dX1_edge_9 : decode cX1_edge 9 = .ok (.iload_n 2, 1) := by decide +kernel
theorem dX1_edge_10 : decode cX1_edge 10 = .ok (.iconst 3, 1) := by decide +kernel
theorem dX1_edge_11 : decode cX1_edge 11 = .ok (.if_icmp .gt 12, 3) := by decide +kernel
theorem dX1_edge_14 : decode cX1_edge 14 = .ok (.aload_n 0, 1) := by decide +kernel
theorem dX1_edge_15 : decode cX1_edge 15 = .ok (.iload_n 1, 1) := by decide +kernel
theorem dX1_edge_16 : decode cX1_edge 16 = .ok (.invokevirtual 98, 3) := by decide +kernel
theorem dX1_edge_19 : decode cX1_edge 19 = .ok (.iload_n 1, 1) := by decide +kernel
theorem dX1_edge_20 : decode cX1_edge 20 = .ok (.if_icmp .gt 7, 3) := by decide +kernel
theorem dX1_edge_23 : decode cX1_edge 23 = .ok (.iconst 1, 1) := by decide +kernel
theorem dX1_edge_24 : decode cX1_edge 24 = .ok (.goto 4, 3) := by decide +kernel
theorem dX1_edge_27 : decode cX1_edge 27 = .ok (.iconst 0, 1) := by decide +kernel
theorem dX1_edge_28 : decode cX1_edge 28 = .ok (.invokevirtual 63, 3) := by decide +kernel
theorem dX1_edge_31 : decode cX1_edge 31 = .ok (.ifCond .eq 5, 3) := by decide +kernel
theorem dX1_edge_34 : decode cX1_edge 34 = .ok (.iconst 0, 1) := by decide +kernel
theorem dX1_edge_35 : decode cX1_edge 35 = .ok (.ireturn, 1) := by decide +kernel
theorem dX1_edge_36 : decode cX1_edge 36 = .ok (.aload_n 0, 1) := by decide +kernel
theorem dX1_edge_37 : decode cX1_edge 37 = .ok (.aload_n 0, 1) := by decide +kernel
theorem dX1_edge_38 : decode cX1_edge 38 = .ok (.getfield 85, 3) := by decide +kernel
theorem dX1_edge_41 : decode cX1_edge 41 = .ok (.putfield 102, 3) := by decide +kernel
theorem dX1_edge_44 : decode cX1_edge 44 = .ok (.aload_n 0, 1) := by decide +kernel
theorem dX1_edge_45 : decode cX1_edge 45 = .ok (.getfield 102, 3) := by decide +kernel
theorem dX1_edge_48 : decode cX1_edge 48 = .ok (.bipush 60, 2) := by decide +kernel
theorem dX1_edge_50 : decode cX1_edge 50 = .ok (.if_icmp .ge 35, 3) := by decide +kernel
theorem dX1_edge_53 : decode cX1_edge 53 = .ok (.aload_n 0, 1) := by decide +kernel
theorem dX1_edge_54 : decode cX1_edge 54 = .ok (.aload_n 0, 1) := by decide +kernel
theorem dX1_edge_55 : decode cX1_edge 55 = .ok (.getfield 91, 3) := by decide +kernel
theorem dX1_edge_58 : decode cX1_edge 58 = .ok (.aload_n 0, 1) := by decide +kernel
theorem dX1_edge_59 : decode cX1_edge 59 = .ok (.getfield 102, 3) := by decide +kernel
theorem dX1_edge_62 : decode cX1_edge 62 = .ok (.invokevirtual 48, 3) := by decide +kernel
theorem dX1_edge_65 : decode cX1_edge 65 = .ok (.aload_n 0, 1) := by decide +kernel
theorem dX1_edge_66 : decode cX1_edge 66 = .ok (.getfield 88, 3) := by decide +kernel
theorem dX1_edge_69 : decode cX1_edge 69 = .ok (.if_icmp .ne 16, 3) := by decide +kernel
theorem dX1_edge_72 : decode cX1_edge 72 = .ok (.aload_n 0, 1) := by decide +kernel
theorem dX1_edge_73 : decode cX1_edge 73 = .ok (.dup, 1) := by decide +kernel
theorem dX1_edge_74 : decode cX1_edge 74 = .ok (.getfield 102, 3) := by decide +kernel
theorem dX1_edge_77 : decode cX1_edge 77 = .ok (.iconst 1, 1) := by decide +kernel
theorem dX1_edge_78 : decode cX1_edge 78 = .ok (.iadd, 1) := by decide +kernel
theorem dX1_edge_79 : decode cX1_edge 79 = .ok (.putfield 102, 3) := by decide +kernel
theorem dX1_edge_82 : decode cX1_edge 82 = .ok (.goto (-38), 3) := by decide +kernel
theorem dX1_edge_85 : decode cX1_edge 85 = .ok (.iload_n 2, 1) := by decide +kernel
theorem dX1_edge_86 : decode cX1_edge 86 = .ok (.ifCond .ne 10, 3) := by decide +kernel
theorem dX1_edge_89 : decode cX1_edge 89 = .ok (.aload_n 0, 1) := by decide +kernel
theorem dX1_edge_90 : decode cX1_edge 90 = .ok (.getfield 85, 3) := by decide +kernel
theorem dX1_edge_93 : decode cX1_edge 93 = .ok (.goto 31, 3) := by decide +kernel
theorem dX1_edge_96 : decode cX1_edge 96 = .ok (.iload_n 2, 1) := by decide +kernel
theorem dX1_edge_97 : decode cX1_edge 97 = .ok (.iconst 1, 1) := by decide +kernel
theorem dX1_edge_98 : decode cX1_edge 98 = .ok (.if_icmp .ne 10, 3) := by decide +kernel
theorem dX1_edge_101 : decode cX1_edge 101 = .ok (.aload_n 0, 1) := by decide +kernel
theorem dX1_edge_102 : decode cX1_edge 102 = .ok (.getfield 102, 3) := by decide +kernel
theorem dX1_edge_105 : decode cX1_edge 105 = .ok (.goto 19, 3) := by decide +kernel
theorem dX1_edge_108 : decode cX1_edge 108 = .ok (.iload_n 2, 1) := by decide +kernel
theorem dX1_edge_109 : decode cX1_edge 109 = .ok (.iconst 2, 1) := by decide +kernel
theorem dX1_edge_110 : decode cX1_edge 110 = .ok (.if_icmp .ne 10, 3) := by decide +kernel
theorem dX1_edge_113 : decode cX1_edge 113 = .ok (.aload_n 0, 1) := by decide +kernel
theorem dX1_edge_114 : decode cX1_edge 114 = .ok (.getfield 88, 3) := by decide +kernel
theorem dX1_edge_117 : decode cX1_edge 117 = .ok (.goto 7, 3) := by decide +kernel
theorem dX1_edge_120 : decode cX1_edge 120 = .ok (.aload_n 0, 1) := by decide +kernel
theorem dX1_edge_121 : decode cX1_edge 121 = .ok (.getfield 91, 3) := by decide +kernel
theorem dX1_edge_124 : decode cX1_edge 124 = .ok (.ireturn, 1) := by decide +kernel
theorem dX1_parent_0 : decode cX1_parent 0 = .ok (.aload_n 0, 1) := by decide +kernel
theorem dX1_parent_1 : decode cX1_parent 1 = .ok (.iload_n 1, 1) := by decide +kernel
theorem dX1_parent_2 : decode cX1_parent 2 = .ok (.invokestatic 73, 3) := by decide +kernel
theorem dX1_parent_5 : decode cX1_parent 5 = .ok (.ifCond .eq 15, 3) := by decide +kernel
theorem dX1_parent_8 : decode cX1_parent 8 = .ok (.aload_n 0, 1) := by decide +kernel
theorem dX1_parent_9 : decode cX1_parent 9 = .ok (.iload_n 2, 1) := by decide +kernel
theorem dX1_parent_10 : decode cX1_parent 10 = .ok (.invokevirtual 70, 3) := by decide +kernel
theorem dX1_parent_13 : decode cX1_parent 13 = .ok (.ifCond .eq 7, 3) := by decide +kernel
theorem dX1_parent_16 : decode cX1_parent 16 = .ok (.iconst 0, 1) := by decide +kernel
theorem dX1_parent_17 : decode cX1_parent 17 = .ok (.goto 4, 3) := by decide +kernel
theorem dX1_parent_20 : decode cX1_parent 20 = .ok (.iconst 1, 1) := by decide +kernel
theorem dX1_parent_21 : decode cX1_parent 21 = .ok (.invokevirtual 63, 3) := by decide +kernel
theorem dX1_parent_24 : decode cX1_parent 24 = .ok (.ifCond .eq 7, 3) := by decide +kernel
theorem dX1_parent_27 : decode cX1_parent 27 = .ok (.iconst 0, 1) := by decide +kernel
theorem dX1_parent_28 : decode cX1_parent 28 = .ok (.goto 9, 3) := by decide +kernel
theorem dX1_parent_31 : decode cX1_parent 31 = .ok (.aload_n 0, 1) := by decide +kernel
theorem dX1_parent_32 : decode cX1_parent 32 = .ok (.iload_n 2, 1) := by decide +kernel
theorem dX1_parent_33 : decode cX1_parent 33 = .ok (.iload_n 1, 1) := by decide +kernel
theorem dX1_parent_34 : decode cX1_parent 34 = .ok (.invokevirtual 48, 3) := by decide +kernel
theorem dX1_parent_37 : decode cX1_parent 37 = .ok (.ireturn, 1) := by decide +kernel
theorem dX1_meet_0 : decode cX1_meet 0 = .ok (.aload_n 0, 1) := by decide +kernel
theorem dX1_meet_1 : decode cX1_meet 1 = .ok (.iload_n 1, 1) := by decide +kernel
theorem dX1_meet_2 : decode cX1_meet 2 = .ok (.invokestatic 73, 3) := by decide +kernel
theorem dX1_meet_5 : decode cX1_meet 5 = .ok (.ifCond .eq 23, 3) := by decide +kernel
theorem dX1_meet_8 : decode cX1_meet 8 = .ok (.aload_n 0, 1) := by decide +kernel
theorem dX1_meet_9 : decode cX1_meet 9 = .ok (.iload_n 2, 1) := by decide +kernel
theorem dX1_meet_10 : decode cX1_meet 10 = .ok (.invokevirtual 70, 3) := by decide +kernel
theorem dX1_meet_13 : decode cX1_meet 13 = .ok (.ifCond .eq 15, 3) := by decide +kernel
theorem dX1_meet_16 : decode cX1_meet 16 = .ok (.aload_n 0, 1) := by decide +kernel
theorem dX1_meet_17 : decode cX1_meet 17 = .ok (.iload_n 3, 1) := by decide +kernel
theorem dX1_meet_18 : decode cX1_meet 18 = .ok (.invokevirtual 70, 3) := by decide +kernel
theorem dX1_meet_21 : decode cX1_meet 21 = .ok (.ifCond .eq 7, 3) := by decide +kernel
theorem dX1_meet_24 : decode cX1_meet 24 = .ok (.iconst 0, 1) := by decide +kernel
theorem dX1_meet_25 : decode cX1_meet 25 = .ok (.goto 4, 3) := by decide +kernel
theorem dX1_meet_28 : decode cX1_meet 28 = .ok (.iconst 1, 1) := by decide +kernel
theorem dX1_meet_29 : decode cX1_meet 29 = .ok (.invokevirtual 63, 3) := by decide +kernel
theorem dX1_meet_32 : decode cX1_meet 32 = .ok (.ifCond .eq 5, 3) := by decide +kernel
theorem dX1_meet_35 : decode cX1_meet 35 = .ok (.iconst 0, 1) := by decide +kernel
theorem dX1_meet_36 : decode cX1_meet 36 = .ok (.ireturn, 1) := by decide +kernel
theorem dX1_meet_37 : decode cX1_meet 37 = .ok (.iload_n 2, 1) := by decide +kernel
theorem dX1_meet_38 : decode cX1_meet 38 = .ok (.istore 4, 2) := by decide +kernel
theorem dX1_meet_40 : decode cX1_meet 40 = .ok (.iload 4, 2) := by decide +kernel
theorem dX1_meet_42 : decode cX1_meet 42 = .ok (.ifCond .lt 26, 3) := by decide +kernel
theorem dX1_meet_45 : decode cX1_meet 45 = .ok (.aload_n 0, 1) := by decide +kernel
theorem dX1_meet_46 : decode cX1_meet 46 = .ok (.iload 4, 2) := by decide +kernel
theorem dX1_meet_48 : decode cX1_meet 48 = .ok (.iload_n 3, 1) := by decide +kernel
theorem dX1_meet_49 : decode cX1_meet 49 = .ok (.iload_n 1, 1) := by decide +kernel
theorem dX1_meet_50 : decode cX1_meet 50 = .ok (.invokevirtual 52, 3) := by decide +kernel
theorem dX1_meet_53 : decode cX1_meet 53 = .ok (.ifCond .ne 15, 3) := by decide +kernel
theorem dX1_meet_56 : decode cX1_meet 56 = .ok (.aload_n 0, 1) := by decide +kernel
theorem dX1_meet_57 : decode cX1_meet 57 = .ok (.iload 4, 2) := by decide +kernel
theorem dX1_meet_59 : decode cX1_meet 59 = .ok (.iload_n 1, 1) := by decide +kernel
theorem dX1_meet_60 : decode cX1_meet 60 = .ok (.invokevirtual 48, 3) := by decide +kernel
theorem dX1_meet_63 : decode cX1_meet 63 = .ok (.istore 4, 2) := by decide +kernel
theorem dX1_meet_65 : decode cX1_meet 65 = .ok (.goto (-25), 3) := by decide +kernel
theorem dX1_meet_68 : decode cX1_meet 68 = .ok (.iload 4, 2) := by decide +kernel
theorem dX1_meet_70 : decode cX1_meet 70 = .ok (.ireturn, 1) := by decide +kernel
theorem dX1_holds_0 : decode cX1_holds 0 = .ok (.iload_n 2, 1) := by decide +kernel
theorem dX1_holds_1 : decode cX1_holds 1 = .ok (.istore 4, 2) := by decide +kernel
theorem dX1_holds_3 : decode cX1_holds 3 = .ok (.iload 4, 2) := by decide +kernel
theorem dX1_holds_5 : decode cX1_holds 5 = .ok (.ifCond .lt 21, 3) := by decide +kernel
theorem dX1_holds_8 : decode cX1_holds 8 = .ok (.iload 4, 2) := by decide +kernel
theorem dX1_holds_10 : decode cX1_holds 10 = .ok (.iload_n 1, 1) := by decide +kernel
theorem dX1_holds_11 : decode cX1_holds 11 = .ok (.if_icmp .eq 15, 3) := by decide +kernel
theorem dX1_holds_14 : decode cX1_holds 14 = .ok (.aload_n 0, 1) := by decide +kernel
theorem dX1_holds_15 : decode cX1_holds 15 = .ok (.iload 4, 2) := by decide +kernel
theorem dX1_holds_17 : decode cX1_holds 17 = .ok (.iload_n 3, 1) := by decide +kernel
theorem dX1_holds_18 : decode cX1_holds 18 = .ok (.invokevirtual 48, 3) := by decide +kernel
theorem dX1_holds_21 : decode cX1_holds 21 = .ok (.istore 4, 2) := by decide +kernel
theorem dX1_holds_23 : decode cX1_holds 23 = .ok (.goto (-20), 3) := by decide +kernel
theorem dX1_holds_26 : decode cX1_holds 26 = .ok (.iload 4, 2) := by decide +kernel
theorem dX1_holds_28 : decode cX1_holds 28 = .ok (.iload_n 1, 1) := by decide +kernel
theorem dX1_holds_29 : decode cX1_holds 29 = .ok (.if_icmp .ne 7, 3) := by decide +kernel
theorem dX1_holds_32 : decode cX1_holds 32 = .ok (.iconst 1, 1) := by decide +kernel
theorem dX1_holds_33 : decode cX1_holds 33 = .ok (.goto 4, 3) := by decide +kernel
theorem dX1_holds_36 : decode cX1_holds 36 = .ok (.iconst 0, 1) := by decide +kernel
theorem dX1_holds_37 : decode cX1_holds 37 = .ok (.ireturn, 1) := by decide +kernel
theorem dX1_trees_0 : decode cX1_trees 0 = .ok (.aload_n 0, 1) := by decide +kernel
theorem dX1_trees_1 : decode cX1_trees 1 = .ok (.iconst 0, 1) := by decide +kernel
theorem dX1_trees_2 : decode cX1_trees 2 = .ok (.putfield 38, 3) := by decide +kernel
theorem dX1_trees_5 : decode cX1_trees 5 = .ok (.iconst 1, 1) := by decide +kernel
theorem dX1_trees_6 : decode cX1_trees 6 = .ok (.istore_n 1, 1) := by decide +kernel
theorem dX1_trees_7 : decode cX1_trees 7 = .ok (.iconst 1, 1) := by decide +kernel
theorem dX1_trees_8 : decode cX1_trees 8 = .ok (.istore_n 2, 1) := by decide +kernel
theorem dX1_trees_9 : decode cX1_trees 9 = .ok (.iload_n 2, 1) := by decide +kernel
theorem dX1_trees_10 : decode cX1_trees 10 = .ok (.bipush 60, 2) := by decide +kernel
theorem dX1_trees_12 : decode cX1_trees 12 = .ok (.if_icmp .ge 25, 3) := by decide +kernel
theorem dX1_trees_15 : decode cX1_trees 15 = .ok (.aload_n 0, 1) := by decide +kernel
theorem dX1_trees_16 : decode cX1_trees 16 = .ok (.iload_n 2, 1) := by decide +kernel
theorem dX1_trees_17 : decode cX1_trees 17 = .ok (.invokevirtual 105, 3) := by decide +kernel
theorem dX1_trees_20 : decode cX1_trees 20 = .ok (.ifCond .eq 9, 3) := by decide +kernel
theorem dX1_trees_23 : decode cX1_trees 23 = .ok (.iload_n 1, 1) := by decide +kernel
theorem dX1_trees_24 : decode cX1_trees 24 = .ok (.iconst 1, 1) := by decide +kernel
theorem dX1_trees_25 : decode cX1_trees 25 = .ok (.iadd, 1) := by decide +kernel
theorem dX1_trees_26 : decode cX1_trees 26 = .ok (.goto 4, 3) := by decide +kernel
theorem dX1_trees_29 : decode cX1_trees 29 = .ok (.iload_n 1, 1) := by decide +kernel
theorem dX1_trees_30 : decode cX1_trees 30 = .ok (.istore_n 1, 1) := by decide +kernel
theorem dX1_trees_31 : decode cX1_trees 31 = .ok (.iinc 2 1, 3) := by decide +kernel
theorem dX1_trees_34 : decode cX1_trees 34 = .ok (.goto (-25), 3) := by decide +kernel
theorem dX1_trees_37 : decode cX1_trees 37 = .ok (.iload_n 1, 1) := by decide +kernel
theorem dX1_trees_38 : decode cX1_trees 38 = .ok (.ireturn, 1) := by decide +kernel
theorem dX1_differs_0 : decode cX1_differs 0 = .ok (.iconst 0, 1) := by decide +kernel
theorem dX1_differs_1 : decode cX1_differs 1 = .ok (.istore_n 2, 1) := by decide +kernel
theorem dX1_differs_2 : decode cX1_differs 2 = .ok (.iconst 0, 1) := by decide +kernel
theorem dX1_differs_3 : decode cX1_differs 3 = .ok (.istore_n 3, 1) := by decide +kernel
theorem dX1_differs_4 : decode cX1_differs 4 = .ok (.iload_n 3, 1) := by decide +kernel
theorem dX1_differs_5 : decode cX1_differs 5 = .ok (.aload_n 0, 1) := by decide +kernel
theorem dX1_differs_6 : decode cX1_differs 6 = .ok (.getfield 42, 3) := by decide +kernel
theorem dX1_differs_9 : decode cX1_differs 9 = .ok (.if_icmp .ge 36, 3) := by decide +kernel
theorem dX1_differs_12 : decode cX1_differs 12 = .ok (.iload_n 2, 1) := by decide +kernel
theorem dX1_differs_13 : decode cX1_differs 13 = .ok (.ifCond .ne 20, 3) := by decide +kernel
theorem dX1_differs_16 : decode cX1_differs 16 = .ok (.aload_n 0, 1) := by decide +kernel
theorem dX1_differs_17 : decode cX1_differs 17 = .ok (.iload_n 3, 1) := by decide +kernel
theorem dX1_differs_18 : decode cX1_differs 18 = .ok (.iload_n 1, 1) := by decide +kernel
theorem dX1_differs_19 : decode cX1_differs 19 = .ok (.invokevirtual 48, 3) := by decide +kernel
theorem dX1_differs_22 : decode cX1_differs 22 = .ok (.aload_n 0, 1) := by decide +kernel
theorem dX1_differs_23 : decode cX1_differs 23 = .ok (.iload_n 3, 1) := by decide +kernel
theorem dX1_differs_24 : decode cX1_differs 24 = .ok (.iload_n 1, 1) := by decide +kernel
theorem dX1_differs_25 : decode cX1_differs 25 = .ok (.iconst 1, 1) := by decide +kernel
theorem dX1_differs_26 : decode cX1_differs 26 = .ok (.isub, 1) := by decide +kernel
theorem dX1_differs_27 : decode cX1_differs 27 = .ok (.invokevirtual 48, 3) := by decide +kernel
theorem dX1_differs_30 : decode cX1_differs 30 = .ok (.if_icmp .eq 7, 3) := by decide +kernel
theorem dX1_differs_33 : decode cX1_differs 33 = .ok (.iconst 1, 1) := by decide +kernel
theorem dX1_differs_34 : decode cX1_differs 34 = .ok (.goto 4, 3) := by decide +kernel
theorem dX1_differs_37 : decode cX1_differs 37 = .ok (.iconst 0, 1) := by decide +kernel
theorem dX1_differs_38 : decode cX1_differs 38 = .ok (.istore_n 2, 1) := by decide +kernel
theorem dX1_differs_39 : decode cX1_differs 39 = .ok (.iinc 3 1, 3) := by decide +kernel
theorem dX1_differs_42 : decode cX1_differs 42 = .ok (.goto (-38), 3) := by decide +kernel
theorem dX1_differs_45 : decode cX1_differs 45 = .ok (.iload_n 2, 1) := by decide +kernel
theorem dX1_differs_46 : decode cX1_differs 46 = .ok (.ireturn, 1) := by decide +kernel
theorem dX1_cut_0 : decode cX1_cut 0 = .ok (.aload_n 0, 1) := by decide +kernel
theorem dX1_cut_1 : decode cX1_cut 1 = .ok (.invokevirtual 108, 3) := by decide +kernel
theorem dX1_cut_4 : decode cX1_cut 4 = .ok (.istore_n 2, 1) := by decide +kernel
theorem dX1_cut_5 : decode cX1_cut 5 = .ok (.aload_n 0, 1) := by decide +kernel
theorem dX1_cut_6 : decode cX1_cut 6 = .ok (.iload_n 1, 1) := by decide +kernel
theorem dX1_cut_7 : decode cX1_cut 7 = .ok (.ifCond .lt 8, 3) := by decide +kernel
theorem dX1_cut_10 : decode cX1_cut 10 = .ok (.iload_n 1, 1) := by decide +kernel
theorem dX1_cut_11 : decode cX1_cut 11 = .ok (.iload_n 2, 1) := by decide +kernel
theorem dX1_cut_12 : decode cX1_cut 12 = .ok (.if_icmp .le 7, 3) := by decide +kernel
theorem dX1_cut_15 : decode cX1_cut 15 = .ok (.iconst 1, 1) := by decide +kernel
theorem dX1_cut_16 : decode cX1_cut 16 = .ok (.goto 4, 3) := by decide +kernel
theorem dX1_cut_19 : decode cX1_cut 19 = .ok (.iconst 0, 1) := by decide +kernel
theorem dX1_cut_20 : decode cX1_cut 20 = .ok (.invokevirtual 63, 3) := by decide +kernel
theorem dX1_cut_23 : decode cX1_cut 23 = .ok (.ifCond .eq 5, 3) := by decide +kernel
theorem dX1_cut_26 : decode cX1_cut 26 = .ok (.iconst 0, 1) := by decide +kernel
theorem dX1_cut_27 : decode cX1_cut 27 = .ok (.ireturn, 1) := by decide +kernel
theorem dX1_cut_28 : decode cX1_cut 28 = .ok (.iconst 0, 1) := by decide +kernel
theorem dX1_cut_29 : decode cX1_cut 29 = .ok (.istore_n 3, 1) := by decide +kernel
theorem dX1_cut_30 : decode cX1_cut 30 = .ok (.iconst 0, 1) := by decide +kernel
theorem dX1_cut_31 : decode cX1_cut 31 = .ok (.istore 4, 2) := by decide +kernel
theorem dX1_cut_33 : decode cX1_cut 33 = .ok (.iload 4, 2) := by decide +kernel
theorem dX1_cut_35 : decode cX1_cut 35 = .ok (.iload_n 1, 1) := by decide +kernel
theorem dX1_cut_36 : decode cX1_cut 36 = .ok (.if_icmp .ge 34, 3) := by decide +kernel
theorem dX1_cut_39 : decode cX1_cut 39 = .ok (.iinc 3 1, 3) := by decide +kernel
theorem dX1_cut_42 : decode cX1_cut 42 = .ok (.iload_n 3, 1) := by decide +kernel
theorem dX1_cut_43 : decode cX1_cut 43 = .ok (.bipush 60, 2) := by decide +kernel
theorem dX1_cut_45 : decode cX1_cut 45 = .ok (.if_icmp .eq 11, 3) := by decide +kernel
theorem dX1_cut_48 : decode cX1_cut 48 = .ok (.aload_n 0, 1) := by decide +kernel
theorem dX1_cut_49 : decode cX1_cut 49 = .ok (.iload_n 3, 1) := by decide +kernel
theorem dX1_cut_50 : decode cX1_cut 50 = .ok (.invokevirtual 105, 3) := by decide +kernel
theorem dX1_cut_53 : decode cX1_cut 53 = .ok (.ifCond .eq 10, 3) := by decide +kernel
theorem dX1_cut_56 : decode cX1_cut 56 = .ok (.iload 4, 2) := by decide +kernel
theorem dX1_cut_58 : decode cX1_cut 58 = .ok (.iconst 1, 1) := by decide +kernel
theorem dX1_cut_59 : decode cX1_cut 59 = .ok (.iadd, 1) := by decide +kernel
theorem dX1_cut_60 : decode cX1_cut 60 = .ok (.goto 5, 3) := by decide +kernel
theorem dX1_cut_63 : decode cX1_cut 63 = .ok (.iload 4, 2) := by decide +kernel
theorem dX1_cut_65 : decode cX1_cut 65 = .ok (.istore 4, 2) := by decide +kernel
theorem dX1_cut_67 : decode cX1_cut 67 = .ok (.goto (-34), 3) := by decide +kernel
theorem dX1_cut_70 : decode cX1_cut 70 = .ok (.iload_n 3, 1) := by decide +kernel
theorem dX1_cut_71 : decode cX1_cut 71 = .ok (.ireturn, 1) := by decide +kernel
theorem dX1_letter_0 : decode cX1_letter 0 = .ok (.aload_n 0, 1) := by decide +kernel
theorem dX1_letter_1 : decode cX1_letter 1 = .ok (.aload_n 0, 1) := by decide +kernel
theorem dX1_letter_2 : decode cX1_letter 2 = .ok (.iload_n 1, 1) := by decide +kernel
theorem dX1_letter_3 : decode cX1_letter 3 = .ok (.invokevirtual 79, 3) := by decide +kernel
theorem dX1_letter_6 : decode cX1_letter 6 = .ok (.ifCond .eq 15, 3) := by decide +kernel
theorem dX1_letter_9 : decode cX1_letter 9 = .ok (.aload_n 0, 1) := by decide +kernel
theorem dX1_letter_10 : decode cX1_letter 10 = .ok (.iload_n 2, 1) := by decide +kernel
theorem dX1_letter_11 : decode cX1_letter 11 = .ok (.invokevirtual 70, 3) := by decide +kernel
theorem dX1_letter_14 : decode cX1_letter 14 = .ok (.ifCond .eq 7, 3) := by decide +kernel
theorem dX1_letter_17 : decode cX1_letter 17 = .ok (.iconst 0, 1) := by decide +kernel
theorem dX1_letter_18 : decode cX1_letter 18 = .ok (.goto 4, 3) := by decide +kernel
theorem dX1_letter_21 : decode cX1_letter 21 = .ok (.iconst 1, 1) := by decide +kernel
theorem dX1_letter_22 : decode cX1_letter 22 = .ok (.invokevirtual 63, 3) := by decide +kernel
theorem dX1_letter_25 : decode cX1_letter 25 = .ok (.ifCond .eq 7, 3) := by decide +kernel
theorem dX1_letter_28 : decode cX1_letter 28 = .ok (.iconst 0, 1) := by decide +kernel
theorem dX1_letter_29 : decode cX1_letter 29 = .ok (.goto 9, 3) := by decide +kernel
theorem dX1_letter_32 : decode cX1_letter 32 = .ok (.aload_n 0, 1) := by decide +kernel
theorem dX1_letter_33 : decode cX1_letter 33 = .ok (.iload_n 1, 1) := by decide +kernel
theorem dX1_letter_34 : decode cX1_letter 34 = .ok (.iload_n 2, 1) := by decide +kernel
theorem dX1_letter_35 : decode cX1_letter 35 = .ok (.invokevirtual 111, 3) := by decide +kernel
theorem dX1_letter_38 : decode cX1_letter 38 = .ok (.ireturn, 1) := by decide +kernel
theorem dX1_letterAt_0 : decode cX1_letterAt 0 = .ok (.iload_n 2, 1) := by decide +kernel
theorem dX1_letterAt_1 : decode cX1_letterAt 1 = .ok (.istore_n 3, 1) := by decide +kernel
theorem dX1_letterAt_2 : decode cX1_letterAt 2 = .ok (.iload_n 3, 1) := by decide +kernel
theorem dX1_letterAt_3 : decode cX1_letterAt 3 = .ok (.ifCond .lt 32, 3) := by decide +kernel
theorem dX1_letterAt_6 : decode cX1_letterAt 6 = .ok (.aload_n 0, 1) := by decide +kernel
theorem dX1_letterAt_7 : decode cX1_letterAt 7 = .ok (.getfield 26, 3) := by decide +kernel
theorem dX1_letterAt_10 : decode cX1_letterAt 10 = .ok (.bipush 14, 2) := by decide +kernel
theorem dX1_letterAt_12 : decode cX1_letterAt 12 = .ok (.iload_n 1, 1) := by decide +kernel
theorem dX1_letterAt_13 : decode cX1_letterAt 13 = .ok (.imul, 1) := by decide +kernel
theorem dX1_letterAt_14 : decode cX1_letterAt 14 = .ok (.iload_n 3, 1) := by decide +kernel
theorem dX1_letterAt_15 : decode cX1_letterAt 15 = .ok (.iadd, 1) := by decide +kernel
theorem dX1_letterAt_16 : decode cX1_letterAt 16 = .ok (.iaload, 1) := by decide +kernel
theorem dX1_letterAt_17 : decode cX1_letterAt 17 = .ok (.ifCond .ne 18, 3) := by decide +kernel
theorem dX1_letterAt_20 : decode cX1_letterAt 20 = .ok (.aload_n 0, 1) := by decide +kernel
theorem dX1_letterAt_21 : decode cX1_letterAt 21 = .ok (.iload_n 3, 1) := by decide +kernel
theorem dX1_letterAt_22 : decode cX1_letterAt 22 = .ok (.aload_n 0, 1) := by decide +kernel
theorem dX1_letterAt_23 : decode cX1_letterAt 23 = .ok (.getfield 20, 3) := by decide +kernel
theorem dX1_letterAt_26 : decode cX1_letterAt 26 = .ok (.iload_n 1, 1) := by decide +kernel
theorem dX1_letterAt_27 : decode cX1_letterAt 27 = .ok (.iaload, 1) := by decide +kernel
theorem dX1_letterAt_28 : decode cX1_letterAt 28 = .ok (.invokevirtual 48, 3) := by decide +kernel
theorem dX1_letterAt_31 : decode cX1_letterAt 31 = .ok (.istore_n 3, 1) := by decide +kernel
theorem dX1_letterAt_32 : decode cX1_letterAt 32 = .ok (.goto (-30), 3) := by decide +kernel
theorem dX1_letterAt_35 : decode cX1_letterAt 35 = .ok (.iload_n 3, 1) := by decide +kernel
theorem dX1_letterAt_36 : decode cX1_letterAt 36 = .ok (.ifCond .ge 12, 3) := by decide +kernel
theorem dX1_letterAt_39 : decode cX1_letterAt 39 = .ok (.aload_n 0, 1) := by decide +kernel
theorem dX1_letterAt_40 : decode cX1_letterAt 40 = .ok (.getfield 23, 3) := by decide +kernel
theorem dX1_letterAt_43 : decode cX1_letterAt 43 = .ok (.iload_n 1, 1) := by decide +kernel
theorem dX1_letterAt_44 : decode cX1_letterAt 44 = .ok (.iaload, 1) := by decide +kernel
theorem dX1_letterAt_45 : decode cX1_letterAt 45 = .ok (.goto 16, 3) := by decide +kernel
theorem dX1_letterAt_48 : decode cX1_letterAt 48 = .ok (.aload_n 0, 1) := by decide +kernel
theorem dX1_letterAt_49 : decode cX1_letterAt 49 = .ok (.getfield 26, 3) := by decide +kernel
theorem dX1_letterAt_52 : decode cX1_letterAt 52 = .ok (.bipush 14, 2) := by decide +kernel
theorem dX1_letterAt_54 : decode cX1_letterAt 54 = .ok (.iload_n 1, 1) := by decide +kernel
theorem dX1_letterAt_55 : decode cX1_letterAt 55 = .ok (.imul, 1) := by decide +kernel
theorem dX1_letterAt_56 : decode cX1_letterAt 56 = .ok (.iload_n 3, 1) := by decide +kernel
theorem dX1_letterAt_57 : decode cX1_letterAt 57 = .ok (.iadd, 1) := by decide +kernel
theorem dX1_letterAt_58 : decode cX1_letterAt 58 = .ok (.iaload, 1) := by decide +kernel
theorem dX1_letterAt_59 : decode cX1_letterAt 59 = .ok (.iconst 1, 1) := by decide +kernel
theorem dX1_letterAt_60 : decode cX1_letterAt 60 = .ok (.isub, 1) := by decide +kernel
theorem dX1_letterAt_61 : decode cX1_letterAt 61 = .ok (.ireturn, 1) := by decide +kernel
theorem dX1_differing_0 : decode cX1_differing 0 = .ok (.aload_n 0, 1) := by decide +kernel
theorem dX1_differing_1 : decode cX1_differing 1 = .ok (.iconst 0, 1) := by decide +kernel
theorem dX1_differing_2 : decode cX1_differing 2 = .ok (.putfield 38, 3) := by decide +kernel
theorem dX1_differing_5 : decode cX1_differing 5 = .ok (.iconst 0, 1) := by decide +kernel
theorem dX1_differing_6 : decode cX1_differing 6 = .ok (.istore_n 1, 1) := by decide +kernel
theorem dX1_differing_7 : decode cX1_differing 7 = .ok (.iconst 0, 1) := by decide +kernel
theorem dX1_differing_8 : decode cX1_differing 8 = .ok (.istore_n 2, 1) := by decide +kernel
theorem dX1_differing_9 : decode cX1_differing 9 = .ok (.iload_n 2, 1) := by decide +kernel
theorem dX1_differing_10 : decode cX1_differing 10 = .ok (.aload_n 0, 1) := by decide +kernel
theorem dX1_differing_11 : decode cX1_differing 11 = .ok (.getfield 45, 3) := by decide +kernel
theorem dX1_differing_14 : decode cX1_differing 14 = .ok (.if_icmp .ge 83, 3) := by decide +kernel
theorem dX1_differing_17 : decode cX1_differing 17 = .ok (.iconst 0, 1) := by decide +kernel
theorem dX1_differing_18 : decode cX1_differing 18 = .ok (.istore_n 3, 1) := by decide +kernel
theorem dX1_differing_19 : decode cX1_differing 19 = .ok (.iload_n 3, 1) := by decide +kernel
theorem dX1_differing_20 : decode cX1_differing 20 = .ok (.aload_n 0, 1) := by decide +kernel
theorem dX1_differing_21 : decode cX1_differing 21 = .ok (.getfield 42, 3) := by decide +kernel
theorem dX1_differing_24 : decode cX1_differing 24 = .ok (.if_icmp .ge 67, 3) := by decide +kernel
theorem dX1_differing_27 : decode cX1_differing 27 = .ok (.iconst 0, 1) := by decide +kernel
theorem dX1_differing_28 : decode cX1_differing 28 = .ok (.istore 4, 2) := by decide +kernel
theorem dX1_differing_30 : decode cX1_differing 30 = .ok (.iload 4, 2) := by decide +kernel
theorem dX1_differing_32 : decode cX1_differing 32 = .ok (.iload_n 3, 1) := by decide +kernel
theorem dX1_differing_33 : decode cX1_differing 33 = .ok (.if_icmp .ge 52, 3) := by decide +kernel
theorem dX1_differing_36 : decode cX1_differing 36 = .ok (.aload_n 0, 1) := by decide +kernel
theorem dX1_differing_37 : decode cX1_differing 37 = .ok (.getfield 13, 3) := by decide +kernel
theorem dX1_differing_40 : decode cX1_differing 40 = .ok (.iload_n 3, 1) := by decide +kernel
theorem dX1_differing_41 : decode cX1_differing 41 = .ok (.baload, 1) := by decide +kernel
theorem dX1_differing_42 : decode cX1_differing 42 = .ok (.ifCond .eq 35, 3) := by decide +kernel
theorem dX1_differing_45 : decode cX1_differing 45 = .ok (.aload_n 0, 1) := by decide +kernel
theorem dX1_differing_46 : decode cX1_differing 46 = .ok (.getfield 13, 3) := by decide +kernel
theorem dX1_differing_49 : decode cX1_differing 49 = .ok (.iload 4, 2) := by decide +kernel
theorem dX1_differing_51 : decode cX1_differing 51 = .ok (.baload, 1) := by decide +kernel
theorem dX1_differing_52 : decode cX1_differing 52 = .ok (.ifCond .eq 25, 3) := by decide +kernel
theorem dX1_differing_55 : decode cX1_differing 55 = .ok (.aload_n 0, 1) := by decide +kernel
theorem dX1_differing_56 : decode cX1_differing 56 = .ok (.iload_n 2, 1) := by decide +kernel
theorem dX1_differing_57 : decode cX1_differing 57 = .ok (.iload_n 3, 1) := by decide +kernel
theorem dX1_differing_58 : decode cX1_differing 58 = .ok (.invokevirtual 111, 3) := by decide +kernel
theorem dX1_differing_61 : decode cX1_differing 61 = .ok (.aload_n 0, 1) := by decide +kernel
theorem dX1_differing_62 : decode cX1_differing 62 = .ok (.iload_n 2, 1) := by decide +kernel
theorem dX1_differing_63 : decode cX1_differing 63 = .ok (.iload 4, 2) := by decide +kernel
theorem dX1_differing_65 : decode cX1_differing 65 = .ok (.invokevirtual 111, 3) := by decide +kernel
theorem dX1_differing_68 : decode cX1_differing 68 = .ok (.if_icmp .eq 9, 3) := by decide +kernel
theorem dX1_differing_71 : decode cX1_differing 71 = .ok (.iload_n 1, 1) := by decide +kernel
theorem dX1_differing_72 : decode cX1_differing 72 = .ok (.iconst 1, 1) := by decide +kernel
theorem dX1_differing_73 : decode cX1_differing 73 = .ok (.iadd, 1) := by decide +kernel
theorem dX1_differing_74 : decode cX1_differing 74 = .ok (.goto 4, 3) := by decide +kernel
theorem dX1_differing_77 : decode cX1_differing 77 = .ok (.iload_n 1, 1) := by decide +kernel
theorem dX1_differing_78 : decode cX1_differing 78 = .ok (.istore_n 1, 1) := by decide +kernel
theorem dX1_differing_79 : decode cX1_differing 79 = .ok (.iinc 4 1, 3) := by decide +kernel
theorem dX1_differing_82 : decode cX1_differing 82 = .ok (.goto (-52), 3) := by decide +kernel
theorem dX1_differing_85 : decode cX1_differing 85 = .ok (.iinc 3 1, 3) := by decide +kernel
theorem dX1_differing_88 : decode cX1_differing 88 = .ok (.goto (-69), 3) := by decide +kernel
theorem dX1_differing_91 : decode cX1_differing 91 = .ok (.iinc 2 1, 3) := by decide +kernel
theorem dX1_differing_94 : decode cX1_differing 94 = .ok (.goto (-85), 3) := by decide +kernel
theorem dX1_differing_97 : decode cX1_differing 97 = .ok (.iload_n 1, 1) := by decide +kernel
theorem dX1_differing_98 : decode cX1_differing 98 = .ok (.ireturn, 1) := by decide +kernel
theorem dX1_spectrum_0 : decode cX1_spectrum 0 = .ok (.aload_n 0, 1) := by decide +kernel
theorem dX1_spectrum_1 : decode cX1_spectrum 1 = .ok (.iconst 0, 1) := by decide +kernel
theorem dX1_spectrum_2 : decode cX1_spectrum 2 = .ok (.putfield 38, 3) := by decide +kernel
theorem dX1_spectrum_5 : decode cX1_spectrum 5 = .ok (.iconst 0, 1) := by decide +kernel
theorem dX1_spectrum_6 : decode cX1_spectrum 6 = .ok (.istore_n 2, 1) := by decide +kernel
theorem dX1_spectrum_7 : decode cX1_spectrum 7 = .ok (.iconst 0, 1) := by decide +kernel
theorem dX1_spectrum_8 : decode cX1_spectrum 8 = .ok (.istore_n 3, 1) := by decide +kernel
theorem dX1_spectrum_9 : decode cX1_spectrum 9 = .ok (.iload_n 3, 1) := by decide +kernel
theorem dX1_spectrum_10 : decode cX1_spectrum 10 = .ok (.aload_n 0, 1) := by decide +kernel
theorem dX1_spectrum_11 : decode cX1_spectrum 11 = .ok (.getfield 45, 3) := by decide +kernel
theorem dX1_spectrum_14 : decode cX1_spectrum 14 = .ok (.if_icmp .ge 107, 3) := by decide +kernel
theorem dX1_spectrum_17 : decode cX1_spectrum 17 = .ok (.iconst 0, 1) := by decide +kernel
theorem dX1_spectrum_18 : decode cX1_spectrum 18 = .ok (.istore 4, 2) := by decide +kernel
theorem dX1_spectrum_20 : decode cX1_spectrum 20 = .ok (.iload 4, 2) := by decide +kernel
theorem dX1_spectrum_22 : decode cX1_spectrum 22 = .ok (.iconst 4, 1) := by decide +kernel
theorem dX1_spectrum_23 : decode cX1_spectrum 23 = .ok (.if_icmp .ge 92, 3) := by decide +kernel
theorem dX1_spectrum_26 : decode cX1_spectrum 26 = .ok (.iconst 0, 1) := by decide +kernel
theorem dX1_spectrum_27 : decode cX1_spectrum 27 = .ok (.istore 5, 2) := by decide +kernel
theorem dX1_spectrum_29 : decode cX1_spectrum 29 = .ok (.iconst 0, 1) := by decide +kernel
theorem dX1_spectrum_30 : decode cX1_spectrum 30 = .ok (.istore 6, 2) := by decide +kernel
theorem dX1_spectrum_32 : decode cX1_spectrum 32 = .ok (.iload 6, 2) := by decide +kernel
theorem dX1_spectrum_34 : decode cX1_spectrum 34 = .ok (.aload_n 0, 1) := by decide +kernel
theorem dX1_spectrum_35 : decode cX1_spectrum 35 = .ok (.getfield 42, 3) := by decide +kernel
theorem dX1_spectrum_38 : decode cX1_spectrum 38 = .ok (.if_icmp .ge 42, 3) := by decide +kernel
theorem dX1_spectrum_41 : decode cX1_spectrum 41 = .ok (.aload_n 0, 1) := by decide +kernel
theorem dX1_spectrum_42 : decode cX1_spectrum 42 = .ok (.getfield 13, 3) := by decide +kernel
theorem dX1_spectrum_45 : decode cX1_spectrum 45 = .ok (.iload 6, 2) := by decide +kernel
theorem dX1_spectrum_47 : decode cX1_spectrum 47 = .ok (.baload, 1) := by decide +kernel
theorem dX1_spectrum_48 : decode cX1_spectrum 48 = .ok (.ifCond .eq 22, 3) := by decide +kernel
theorem dX1_spectrum_51 : decode cX1_spectrum 51 = .ok (.aload_n 0, 1) := by decide +kernel
theorem dX1_spectrum_52 : decode cX1_spectrum 52 = .ok (.iload_n 3, 1) := by decide +kernel
theorem dX1_spectrum_53 : decode cX1_spectrum 53 = .ok (.iload 6, 2) := by decide +kernel
theorem dX1_spectrum_55 : decode cX1_spectrum 55 = .ok (.invokevirtual 111, 3) := by decide +kernel
theorem dX1_spectrum_58 : decode cX1_spectrum 58 = .ok (.iload 4, 2) := by decide +kernel
theorem dX1_spectrum_60 : decode cX1_spectrum 60 = .ok (.if_icmp .ne 10, 3) := by decide +kernel
theorem dX1_spectrum_63 : decode cX1_spectrum 63 = .ok (.iload 5, 2) := by decide +kernel
theorem dX1_spectrum_65 : decode cX1_spectrum 65 = .ok (.iconst 1, 1) := by decide +kernel
theorem dX1_spectrum_66 : decode cX1_spectrum 66 = .ok (.iadd, 1) := by decide +kernel
theorem dX1_spectrum_67 : decode cX1_spectrum 67 = .ok (.goto 5, 3) := by decide +kernel
theorem dX1_spectrum_70 : decode cX1_spectrum 70 = .ok (.iload 5, 2) := by decide +kernel
theorem dX1_spectrum_72 : decode cX1_spectrum 72 = .ok (.istore 5, 2) := by decide +kernel
theorem dX1_spectrum_74 : decode cX1_spectrum 74 = .ok (.iinc 6 1, 3) := by decide +kernel
theorem dX1_spectrum_77 : decode cX1_spectrum 77 = .ok (.goto (-45), 3) := by decide +kernel
theorem dX1_spectrum_80 : decode cX1_spectrum 80 = .ok (.iload 4, 2) := by decide +kernel
theorem dX1_spectrum_82 : decode cX1_spectrum 82 = .ok (.aload_n 0, 1) := by decide +kernel
theorem dX1_spectrum_83 : decode cX1_spectrum 83 = .ok (.getfield 23, 3) := by decide +kernel
theorem dX1_spectrum_86 : decode cX1_spectrum 86 = .ok (.iload_n 3, 1) := by decide +kernel
theorem dX1_spectrum_87 : decode cX1_spectrum 87 = .ok (.iaload, 1) := by decide +kernel
theorem dX1_spectrum_88 : decode cX1_spectrum 88 = .ok (.if_icmp .eq 19, 3) := by decide +kernel
theorem dX1_spectrum_91 : decode cX1_spectrum 91 = .ok (.iload_n 1, 1) := by decide +kernel
theorem dX1_spectrum_92 : decode cX1_spectrum 92 = .ok (.ifCond .le 15, 3) := by decide +kernel
theorem dX1_spectrum_95 : decode cX1_spectrum 95 = .ok (.iload 5, 2) := by decide +kernel
theorem dX1_spectrum_97 : decode cX1_spectrum 97 = .ok (.iload_n 1, 1) := by decide +kernel
theorem dX1_spectrum_98 : decode cX1_spectrum 98 = .ok (.if_icmp .ne 9, 3) := by decide +kernel
theorem dX1_spectrum_101 : decode cX1_spectrum 101 = .ok (.iload_n 2, 1) := by decide +kernel
theorem dX1_spectrum_102 : decode cX1_spectrum 102 = .ok (.iconst 1, 1) := by decide +kernel
theorem dX1_spectrum_103 : decode cX1_spectrum 103 = .ok (.iadd, 1) := by decide +kernel
theorem dX1_spectrum_104 : decode cX1_spectrum 104 = .ok (.goto 4, 3) := by decide +kernel
theorem dX1_spectrum_107 : decode cX1_spectrum 107 = .ok (.iload_n 2, 1) := by decide +kernel
theorem dX1_spectrum_108 : decode cX1_spectrum 108 = .ok (.istore_n 2, 1) := by decide +kernel
theorem dX1_spectrum_109 : decode cX1_spectrum 109 = .ok (.iinc 4 1, 3) := by decide +kernel
theorem dX1_spectrum_112 : decode cX1_spectrum 112 = .ok (.goto (-92), 3) := by decide +kernel
theorem dX1_spectrum_115 : decode cX1_spectrum 115 = .ok (.iinc 3 1, 3) := by decide +kernel
theorem dX1_spectrum_118 : decode cX1_spectrum 118 = .ok (.goto (-109), 3) := by decide +kernel
theorem dX1_spectrum_121 : decode cX1_spectrum 121 = .ok (.iload_n 2, 1) := by decide +kernel
theorem dX1_spectrum_122 : decode cX1_spectrum 122 = .ok (.ireturn, 1) := by decide +kernel
theorem dX1_area_0 : decode cX1_area 0 = .ok (.aload_n 0, 1) := by decide +kernel
theorem dX1_area_1 : decode cX1_area 1 = .ok (.iconst 0, 1) := by decide +kernel
theorem dX1_area_2 : decode cX1_area 2 = .ok (.putfield 38, 3) := by decide +kernel
theorem dX1_area_5 : decode cX1_area 5 = .ok (.aload_n 0, 1) := by decide +kernel
theorem dX1_area_6 : decode cX1_area 6 = .ok (.invokevirtual 94, 3) := by decide +kernel
theorem dX1_area_9 : decode cX1_area 9 = .ok (.istore_n 1, 1) := by decide +kernel
theorem dX1_area_10 : decode cX1_area 10 = .ok (.iconst 0, 1) := by decide +kernel
theorem dX1_area_11 : decode cX1_area 11 = .ok (.istore_n 2, 1) := by decide +kernel
theorem dX1_area_12 : decode cX1_area 12 = .ok (.iconst 0, 1) := by decide +kernel
theorem dX1_area_13 : decode cX1_area 13 = .ok (.istore_n 3, 1) := by decide +kernel
theorem dX1_area_14 : decode cX1_area 14 = .ok (.iload_n 3, 1) := by decide +kernel
theorem dX1_area_15 : decode cX1_area 15 = .ok (.bipush 60, 2) := by decide +kernel
theorem dX1_area_17 : decode cX1_area 17 = .ok (.if_icmp .ge 84, 3) := by decide +kernel
theorem dX1_area_20 : decode cX1_area 20 = .ok (.iconst 0, 1) := by decide +kernel
theorem dX1_area_21 : decode cX1_area 21 = .ok (.istore 4, 2) := by decide +kernel
theorem dX1_area_23 : decode cX1_area 23 = .ok (.iload 4, 2) := by decide +kernel
theorem dX1_area_25 : decode cX1_area 25 = .ok (.aload_n 0, 1) := by decide +kernel
theorem dX1_area_26 : decode cX1_area 26 = .ok (.getfield 42, 3) := by decide +kernel
theorem dX1_area_29 : decode cX1_area 29 = .ok (.if_icmp .ge 66, 3) := by decide +kernel
theorem dX1_area_32 : decode cX1_area 32 = .ok (.aload_n 0, 1) := by decide +kernel
theorem dX1_area_33 : decode cX1_area 33 = .ok (.iload 4, 2) := by decide +kernel
theorem dX1_area_35 : decode cX1_area 35 = .ok (.iload_n 3, 1) := by decide +kernel
theorem dX1_area_36 : decode cX1_area 36 = .ok (.invokevirtual 56, 3) := by decide +kernel
theorem dX1_area_39 : decode cX1_area 39 = .ok (.istore 5, 2) := by decide +kernel
theorem dX1_area_41 : decode cX1_area 41 = .ok (.aload_n 0, 1) := by decide +kernel
theorem dX1_area_42 : decode cX1_area 42 = .ok (.iload 4, 2) := by decide +kernel
theorem dX1_area_44 : decode cX1_area 44 = .ok (.iload_n 3, 1) := by decide +kernel
theorem dX1_area_45 : decode cX1_area 45 = .ok (.invokevirtual 48, 3) := by decide +kernel
theorem dX1_area_48 : decode cX1_area 48 = .ok (.ifCond .lt 39, 3) := by decide +kernel
theorem dX1_area_51 : decode cX1_area 51 = .ok (.iload 5, 2) := by decide +kernel
theorem dX1_area_53 : decode cX1_area 53 = .ok (.ifCond .le 34, 3) := by decide +kernel
theorem dX1_area_56 : decode cX1_area 56 = .ok (.iload 5, 2) := by decide +kernel
theorem dX1_area_58 : decode cX1_area 58 = .ok (.iload_n 1, 1) := by decide +kernel
theorem dX1_area_59 : decode cX1_area 59 = .ok (.if_icmp .ge 28, 3) := by decide +kernel
theorem dX1_area_62 : decode cX1_area 62 = .ok (.iload_n 2, 1) := by decide +kernel
theorem dX1_area_63 : decode cX1_area 63 = .ok (.aload_n 0, 1) := by decide +kernel
theorem dX1_area_64 : decode cX1_area 64 = .ok (.getfield 7, 3) := by decide +kernel
theorem dX1_area_67 : decode cX1_area 67 = .ok (.aload_n 0, 1) := by decide +kernel
theorem dX1_area_68 : decode cX1_area 68 = .ok (.iload 4, 2) := by decide +kernel
theorem dX1_area_70 : decode cX1_area 70 = .ok (.iload_n 3, 1) := by decide +kernel
theorem dX1_area_71 : decode cX1_area 71 = .ok (.invokevirtual 48, 3) := by decide +kernel
theorem dX1_area_74 : decode cX1_area 74 = .ok (.iaload, 1) := by decide +kernel
theorem dX1_area_75 : decode cX1_area 75 = .ok (.iadd, 1) := by decide +kernel
theorem dX1_area_76 : decode cX1_area 76 = .ok (.aload_n 0, 1) := by decide +kernel
theorem dX1_area_77 : decode cX1_area 77 = .ok (.getfield 7, 3) := by decide +kernel
theorem dX1_area_80 : decode cX1_area 80 = .ok (.iload 4, 2) := by decide +kernel
theorem dX1_area_82 : decode cX1_area 82 = .ok (.iaload, 1) := by decide +kernel
theorem dX1_area_83 : decode cX1_area 83 = .ok (.isub, 1) := by decide +kernel
theorem dX1_area_84 : decode cX1_area 84 = .ok (.goto 4, 3) := by decide +kernel
theorem dX1_area_87 : decode cX1_area 87 = .ok (.iload_n 2, 1) := by decide +kernel
theorem dX1_area_88 : decode cX1_area 88 = .ok (.istore_n 2, 1) := by decide +kernel
theorem dX1_area_89 : decode cX1_area 89 = .ok (.iinc 4 1, 3) := by decide +kernel
theorem dX1_area_92 : decode cX1_area 92 = .ok (.goto (-69), 3) := by decide +kernel
theorem dX1_area_95 : decode cX1_area 95 = .ok (.iinc 3 1, 3) := by decide +kernel
theorem dX1_area_98 : decode cX1_area 98 = .ok (.goto (-84), 3) := by decide +kernel
theorem dX1_area_101 : decode cX1_area 101 = .ok (.iload_n 2, 1) := by decide +kernel
theorem dX1_area_102 : decode cX1_area 102 = .ok (.ireturn, 1) := by decide +kernel
theorem dX1_under_0 : decode cX1_under 0 = .ok (.iconst 0, 1) := by decide +kernel
theorem dX1_under_1 : decode cX1_under 1 = .ok (.istore_n 3, 1) := by decide +kernel
theorem dX1_under_2 : decode cX1_under 2 = .ok (.iconst 0, 1) := by decide +kernel
theorem dX1_under_3 : decode cX1_under 3 = .ok (.istore 4, 2) := by decide +kernel
theorem dX1_under_5 : decode cX1_under 5 = .ok (.iload 4, 2) := by decide +kernel
theorem dX1_under_7 : decode cX1_under 7 = .ok (.aload_n 0, 1) := by decide +kernel
theorem dX1_under_8 : decode cX1_under 8 = .ok (.getfield 42, 3) := by decide +kernel
theorem dX1_under_11 : decode cX1_under 11 = .ok (.if_icmp .ge 38, 3) := by decide +kernel
theorem dX1_under_14 : decode cX1_under 14 = .ok (.aload_n 0, 1) := by decide +kernel
theorem dX1_under_15 : decode cX1_under 15 = .ok (.getfield 13, 3) := by decide +kernel
theorem dX1_under_18 : decode cX1_under 18 = .ok (.iload 4, 2) := by decide +kernel
theorem dX1_under_20 : decode cX1_under 20 = .ok (.baload, 1) := by decide +kernel
theorem dX1_under_21 : decode cX1_under 21 = .ok (.ifCond .eq 20, 3) := by decide +kernel
theorem dX1_under_24 : decode cX1_under 24 = .ok (.aload_n 0, 1) := by decide +kernel
theorem dX1_under_25 : decode cX1_under 25 = .ok (.iload_n 1, 1) := by decide +kernel
theorem dX1_under_26 : decode cX1_under 26 = .ok (.iload 4, 2) := by decide +kernel
theorem dX1_under_28 : decode cX1_under 28 = .ok (.iload_n 2, 1) := by decide +kernel
theorem dX1_under_29 : decode cX1_under 29 = .ok (.invokevirtual 52, 3) := by decide +kernel
theorem dX1_under_32 : decode cX1_under 32 = .ok (.ifCond .eq 9, 3) := by decide +kernel
theorem dX1_under_35 : decode cX1_under 35 = .ok (.iload_n 3, 1) := by decide +kernel
theorem dX1_under_36 : decode cX1_under 36 = .ok (.iconst 1, 1) := by decide +kernel
theorem dX1_under_37 : decode cX1_under 37 = .ok (.iadd, 1) := by decide +kernel
theorem dX1_under_38 : decode cX1_under 38 = .ok (.goto 4, 3) := by decide +kernel
theorem dX1_under_41 : decode cX1_under 41 = .ok (.iload_n 3, 1) := by decide +kernel
theorem dX1_under_42 : decode cX1_under 42 = .ok (.istore_n 3, 1) := by decide +kernel
theorem dX1_under_43 : decode cX1_under 43 = .ok (.iinc 4 1, 3) := by decide +kernel
theorem dX1_under_46 : decode cX1_under 46 = .ok (.goto (-41), 3) := by decide +kernel
theorem dX1_under_49 : decode cX1_under 49 = .ok (.iload_n 3, 1) := by decide +kernel
theorem dX1_under_50 : decode cX1_under 50 = .ok (.ireturn, 1) := by decide +kernel
theorem dX1_simplify_0 : decode cX1_simplify 0 = .ok (.aload_n 0, 1) := by decide +kernel
theorem dX1_simplify_1 : decode cX1_simplify 1 = .ok (.iconst 0, 1) := by decide +kernel
theorem dX1_simplify_2 : decode cX1_simplify 2 = .ok (.putfield 38, 3) := by decide +kernel
theorem dX1_simplify_5 : decode cX1_simplify 5 = .ok (.iconst 0, 1) := by decide +kernel
theorem dX1_simplify_6 : decode cX1_simplify 6 = .ok (.istore_n 1, 1) := by decide +kernel
theorem dX1_simplify_7 : decode cX1_simplify 7 = .ok (.iconst 0, 1) := by decide +kernel
theorem dX1_simplify_8 : decode cX1_simplify 8 = .ok (.istore_n 2, 1) := by decide +kernel
theorem dX1_simplify_9 : decode cX1_simplify 9 = .ok (.iload_n 2, 1) := by decide +kernel
theorem dX1_simplify_10 : decode cX1_simplify 10 = .ok (.bipush 14, 2) := by decide +kernel
theorem dX1_simplify_12 : decode cX1_simplify 12 = .ok (.if_icmp .ge 53, 3) := by decide +kernel
theorem dX1_simplify_15 : decode cX1_simplify 15 = .ok (.aload_n 0, 1) := by decide +kernel
theorem dX1_simplify_16 : decode cX1_simplify 16 = .ok (.getfield 29, 3) := by decide +kernel
theorem dX1_simplify_19 : decode cX1_simplify 19 = .ok (.iload_n 2, 1) := by decide +kernel
theorem dX1_simplify_20 : decode cX1_simplify 20 = .ok (.iload_n 2, 1) := by decide +kernel
theorem dX1_simplify_21 : decode cX1_simplify 21 = .ok (.aload_n 0, 1) := by decide +kernel
theorem dX1_simplify_22 : decode cX1_simplify 22 = .ok (.getfield 42, 3) := by decide +kernel
theorem dX1_simplify_25 : decode cX1_simplify 25 = .ok (.if_icmp .ge 15, 3) := by decide +kernel
theorem dX1_simplify_28 : decode cX1_simplify 28 = .ok (.aload_n 0, 1) := by decide +kernel
theorem dX1_simplify_29 : decode cX1_simplify 29 = .ok (.iload_n 2, 1) := by decide +kernel
theorem dX1_simplify_30 : decode cX1_simplify 30 = .ok (.invokevirtual 117, 3) := by decide +kernel
theorem dX1_simplify_33 : decode cX1_simplify 33 = .ok (.ifCond .eq 7, 3) := by decide +kernel
theorem dX1_simplify_36 : decode cX1_simplify 36 = .ok (.iload_n 1, 1) := by decide +kernel
theorem dX1_simplify_37 : decode cX1_simplify 37 = .ok (.goto 4, 3) := by decide +kernel
theorem dX1_simplify_40 : decode cX1_simplify 40 = .ok (.iconst (-1), 1) := by decide +kernel
theorem dX1_simplify_41 : decode cX1_simplify 41 = .ok (.iastore, 1) := by decide +kernel
theorem dX1_simplify_42 : decode cX1_simplify 42 = .ok (.aload_n 0, 1) := by decide +kernel
theorem dX1_simplify_43 : decode cX1_simplify 43 = .ok (.getfield 29, 3) := by decide +kernel
theorem dX1_simplify_46 : decode cX1_simplify 46 = .ok (.iload_n 2, 1) := by decide +kernel
theorem dX1_simplify_47 : decode cX1_simplify 47 = .ok (.iaload, 1) := by decide +kernel
theorem dX1_simplify_48 : decode cX1_simplify 48 = .ok (.ifCond .lt 9, 3) := by decide +kernel
theorem dX1_simplify_51 : decode cX1_simplify 51 = .ok (.iload_n 1, 1) := by decide +kernel
theorem dX1_simplify_52 : decode cX1_simplify 52 = .ok (.iconst 1, 1) := by decide +kernel
theorem dX1_simplify_53 : decode cX1_simplify 53 = .ok (.iadd, 1) := by decide +kernel
theorem dX1_simplify_54 : decode cX1_simplify 54 = .ok (.goto 4, 3) := by decide +kernel
theorem dX1_simplify_57 : decode cX1_simplify 57 = .ok (.iload_n 1, 1) := by decide +kernel
theorem dX1_simplify_58 : decode cX1_simplify 58 = .ok (.istore_n 1, 1) := by decide +kernel
theorem dX1_simplify_59 : decode cX1_simplify 59 = .ok (.iinc 2 1, 3) := by decide +kernel
theorem dX1_simplify_62 : decode cX1_simplify 62 = .ok (.goto (-53), 3) := by decide +kernel
theorem dX1_simplify_65 : decode cX1_simplify 65 = .ok (.iconst 0, 1) := by decide +kernel
theorem dX1_simplify_66 : decode cX1_simplify 66 = .ok (.istore_n 2, 1) := by decide +kernel
theorem dX1_simplify_67 : decode cX1_simplify 67 = .ok (.iload_n 2, 1) := by decide +kernel
theorem dX1_simplify_68 : decode cX1_simplify 68 = .ok (.aload_n 0, 1) := by decide +kernel
theorem dX1_simplify_69 : decode cX1_simplify 69 = .ok (.getfield 42, 3) := by decide +kernel
theorem dX1_simplify_72 : decode cX1_simplify 72 = .ok (.if_icmp .ge 158, 3) := by decide +kernel
theorem dX1_simplify_75 : decode cX1_simplify 75 = .ok (.iconst 0, 1) := by decide +kernel
theorem dX1_simplify_76 : decode cX1_simplify 76 = .ok (.istore_n 3, 1) := by decide +kernel
theorem dX1_simplify_77 : decode cX1_simplify 77 = .ok (.iload_n 3, 1) := by decide +kernel
theorem dX1_simplify_78 : decode cX1_simplify 78 = .ok (.bipush 60, 2) := by decide +kernel
theorem dX1_simplify_80 : decode cX1_simplify 80 = .ok (.if_icmp .ge 73, 3) := by decide +kernel
theorem dX1_simplify_83 : decode cX1_simplify 83 = .ok (.aload_n 0, 1) := by decide +kernel
theorem dX1_simplify_84 : decode cX1_simplify 84 = .ok (.getfield 29, 3) := by decide +kernel
theorem dX1_simplify_87 : decode cX1_simplify 87 = .ok (.iload_n 2, 1) := by decide +kernel
theorem dX1_simplify_88 : decode cX1_simplify 88 = .ok (.iaload, 1) := by decide +kernel
theorem dX1_simplify_89 : decode cX1_simplify 89 = .ok (.ifCond .lt 64, 3) := by decide +kernel
theorem dX1_simplify_92 : decode cX1_simplify 92 = .ok (.aload_n 0, 1) := by decide +kernel
theorem dX1_simplify_93 : decode cX1_simplify 93 = .ok (.iload_n 2, 1) := by decide +kernel
theorem dX1_simplify_94 : decode cX1_simplify 94 = .ok (.iload_n 3, 1) := by decide +kernel
theorem dX1_simplify_95 : decode cX1_simplify 95 = .ok (.invokevirtual 114, 3) := by decide +kernel
theorem dX1_simplify_98 : decode cX1_simplify 98 = .ok (.ifCond .eq 12, 3) := by decide +kernel
theorem dX1_simplify_101 : decode cX1_simplify 101 = .ok (.aload_n 0, 1) := by decide +kernel
theorem dX1_simplify_102 : decode cX1_simplify 102 = .ok (.iload_n 2, 1) := by decide +kernel
theorem dX1_simplify_103 : decode cX1_simplify 103 = .ok (.iload_n 3, 1) := by decide +kernel
theorem dX1_simplify_104 : decode cX1_simplify 104 = .ok (.invokevirtual 120, 3) := by decide +kernel
theorem dX1_simplify_107 : decode cX1_simplify 107 = .ok (.goto 4, 3) := by decide +kernel
theorem dX1_simplify_110 : decode cX1_simplify 110 = .ok (.iconst (-1), 1) := by decide +kernel
theorem dX1_simplify_111 : decode cX1_simplify 111 = .ok (.istore 4, 2) := by decide +kernel
theorem dX1_simplify_113 : decode cX1_simplify 113 = .ok (.aload_n 0, 1) := by decide +kernel
theorem dX1_simplify_114 : decode cX1_simplify 114 = .ok (.getfield 32, 3) := by decide +kernel
theorem dX1_simplify_117 : decode cX1_simplify 117 = .ok (.bipush 60, 2) := by decide +kernel
theorem dX1_simplify_119 : decode cX1_simplify 119 = .ok (.aload_n 0, 1) := by decide +kernel
theorem dX1_simplify_120 : decode cX1_simplify 120 = .ok (.getfield 29, 3) := by decide +kernel
theorem dX1_simplify_123 : decode cX1_simplify 123 = .ok (.iload_n 2, 1) := by decide +kernel
theorem dX1_simplify_124 : decode cX1_simplify 124 = .ok (.iaload, 1) := by decide +kernel
theorem dX1_simplify_125 : decode cX1_simplify 125 = .ok (.imul, 1) := by decide +kernel
theorem dX1_simplify_126 : decode cX1_simplify 126 = .ok (.iload_n 3, 1) := by decide +kernel
theorem dX1_simplify_127 : decode cX1_simplify 127 = .ok (.iadd, 1) := by decide +kernel
theorem dX1_simplify_128 : decode cX1_simplify 128 = .ok (.iload 4, 2) := by decide +kernel
theorem dX1_simplify_130 : decode cX1_simplify 130 = .ok (.ifCond .ge 7, 3) := by decide +kernel
theorem dX1_simplify_133 : decode cX1_simplify 133 = .ok (.iconst 0, 1) := by decide +kernel
theorem dX1_simplify_134 : decode cX1_simplify 134 = .ok (.goto 12, 3) := by decide +kernel
theorem dX1_simplify_137 : decode cX1_simplify 137 = .ok (.aload_n 0, 1) := by decide +kernel
theorem dX1_simplify_138 : decode cX1_simplify 138 = .ok (.getfield 29, 3) := by decide +kernel
theorem dX1_simplify_141 : decode cX1_simplify 141 = .ok (.iload 4, 2) := by decide +kernel
theorem dX1_simplify_143 : decode cX1_simplify 143 = .ok (.iaload, 1) := by decide +kernel
theorem dX1_simplify_144 : decode cX1_simplify 144 = .ok (.iconst 1, 1) := by decide +kernel
theorem dX1_simplify_145 : decode cX1_simplify 145 = .ok (.iadd, 1) := by decide +kernel
theorem dX1_simplify_146 : decode cX1_simplify 146 = .ok (.iastore, 1) := by decide +kernel
theorem dX1_simplify_147 : decode cX1_simplify 147 = .ok (.iinc 3 1, 3) := by decide +kernel
theorem dX1_simplify_150 : decode cX1_simplify 150 = .ok (.goto (-73), 3) := by decide +kernel
theorem dX1_simplify_153 : decode cX1_simplify 153 = .ok (.iconst 0, 1) := by decide +kernel
theorem dX1_simplify_154 : decode cX1_simplify 154 = .ok (.istore_n 3, 1) := by decide +kernel
theorem dX1_simplify_155 : decode cX1_simplify 155 = .ok (.iload_n 3, 1) := by decide +kernel
theorem dX1_simplify_156 : decode cX1_simplify 156 = .ok (.bipush 8, 2) := by decide +kernel
theorem dX1_simplify_158 : decode cX1_simplify 158 = .ok (.if_icmp .ge 66, 3) := by decide +kernel
theorem dX1_simplify_161 : decode cX1_simplify 161 = .ok (.aload_n 0, 1) := by decide +kernel
theorem dX1_simplify_162 : decode cX1_simplify 162 = .ok (.getfield 29, 3) := by decide +kernel
theorem dX1_simplify_165 : decode cX1_simplify 165 = .ok (.iload_n 2, 1) := by decide +kernel
theorem dX1_simplify_166 : decode cX1_simplify 166 = .ok (.iaload, 1) := by decide +kernel
theorem dX1_simplify_167 : decode cX1_simplify 167 = .ok (.ifCond .lt 57, 3) := by decide +kernel
theorem dX1_simplify_170 : decode cX1_simplify 170 = .ok (.aload_n 0, 1) := by decide +kernel
theorem dX1_simplify_171 : decode cX1_simplify 171 = .ok (.getfield 35, 3) := by decide +kernel
theorem dX1_simplify_174 : decode cX1_simplify 174 = .ok (.bipush 14, 2) := by decide +kernel
theorem dX1_simplify_176 : decode cX1_simplify 176 = .ok (.iload_n 3, 1) := by decide +kernel
theorem dX1_simplify_177 : decode cX1_simplify 177 = .ok (.imul, 1) := by decide +kernel
theorem dX1_simplify_178 : decode cX1_simplify 178 = .ok (.aload_n 0, 1) := by decide +kernel
theorem dX1_simplify_179 : decode cX1_simplify 179 = .ok (.getfield 29, 3) := by decide +kernel
theorem dX1_simplify_182 : decode cX1_simplify 182 = .ok (.iload_n 2, 1) := by decide +kernel
theorem dX1_simplify_183 : decode cX1_simplify 183 = .ok (.iaload, 1) := by decide +kernel
theorem dX1_simplify_184 : decode cX1_simplify 184 = .ok (.iadd, 1) := by decide +kernel
theorem dX1_simplify_185 : decode cX1_simplify 185 = .ok (.iload_n 3, 1) := by decide +kernel
theorem dX1_simplify_186 : decode cX1_simplify 186 = .ok (.aload_n 0, 1) := by decide +kernel
theorem dX1_simplify_187 : decode cX1_simplify 187 = .ok (.getfield 45, 3) := by decide +kernel
theorem dX1_simplify_190 : decode cX1_simplify 190 = .ok (.if_icmp .ge 26, 3) := by decide +kernel
theorem dX1_simplify_193 : decode cX1_simplify 193 = .ok (.aload_n 0, 1) := by decide +kernel
theorem dX1_simplify_194 : decode cX1_simplify 194 = .ok (.iload_n 2, 1) := by decide +kernel
theorem dX1_simplify_195 : decode cX1_simplify 195 = .ok (.aload_n 0, 1) := by decide +kernel
theorem dX1_simplify_196 : decode cX1_simplify 196 = .ok (.getfield 20, 3) := by decide +kernel
theorem dX1_simplify_199 : decode cX1_simplify 199 = .ok (.iload_n 3, 1) := by decide +kernel
theorem dX1_simplify_200 : decode cX1_simplify 200 = .ok (.iaload, 1) := by decide +kernel
theorem dX1_simplify_201 : decode cX1_simplify 201 = .ok (.invokevirtual 114, 3) := by decide +kernel
theorem dX1_simplify_204 : decode cX1_simplify 204 = .ok (.ifCond .eq 12, 3) := by decide +kernel
theorem dX1_simplify_207 : decode cX1_simplify 207 = .ok (.aload_n 0, 1) := by decide +kernel
theorem dX1_simplify_208 : decode cX1_simplify 208 = .ok (.iload_n 2, 1) := by decide +kernel
theorem dX1_simplify_209 : decode cX1_simplify 209 = .ok (.iload_n 3, 1) := by decide +kernel
theorem dX1_simplify_210 : decode cX1_simplify 210 = .ok (.invokevirtual 123, 3) := by decide +kernel
theorem dX1_simplify_213 : decode cX1_simplify 213 = .ok (.goto 4, 3) := by decide +kernel
theorem dX1_simplify_216 : decode cX1_simplify 216 = .ok (.iconst 0, 1) := by decide +kernel
theorem dX1_simplify_217 : decode cX1_simplify 217 = .ok (.iastore, 1) := by decide +kernel
theorem dX1_simplify_218 : decode cX1_simplify 218 = .ok (.iinc 3 1, 3) := by decide +kernel
theorem dX1_simplify_221 : decode cX1_simplify 221 = .ok (.goto (-66), 3) := by decide +kernel
theorem dX1_simplify_224 : decode cX1_simplify 224 = .ok (.iinc 2 1, 3) := by decide +kernel
theorem dX1_simplify_227 : decode cX1_simplify 227 = .ok (.goto (-160), 3) := by decide +kernel
theorem dX1_simplify_230 : decode cX1_simplify 230 = .ok (.iconst 0, 1) := by decide +kernel
theorem dX1_simplify_231 : decode cX1_simplify 231 = .ok (.istore_n 2, 1) := by decide +kernel
theorem dX1_simplify_232 : decode cX1_simplify 232 = .ok (.iload_n 2, 1) := by decide +kernel
theorem dX1_simplify_233 : decode cX1_simplify 233 = .ok (.aload_n 0, 1) := by decide +kernel
theorem dX1_simplify_234 : decode cX1_simplify 234 = .ok (.getfield 42, 3) := by decide +kernel
theorem dX1_simplify_237 : decode cX1_simplify 237 = .ok (.if_icmp .ge 52, 3) := by decide +kernel
theorem dX1_simplify_240 : decode cX1_simplify 240 = .ok (.aload_n 0, 1) := by decide +kernel
theorem dX1_simplify_241 : decode cX1_simplify 241 = .ok (.getfield 29, 3) := by decide +kernel
theorem dX1_simplify_244 : decode cX1_simplify 244 = .ok (.iload_n 2, 1) := by decide +kernel
theorem dX1_simplify_245 : decode cX1_simplify 245 = .ok (.iaload, 1) := by decide +kernel
theorem dX1_simplify_246 : decode cX1_simplify 246 = .ok (.ifCond .lt 37, 3) := by decide +kernel
theorem dX1_simplify_249 : decode cX1_simplify 249 = .ok (.aload_n 0, 1) := by decide +kernel
theorem dX1_simplify_250 : decode cX1_simplify 250 = .ok (.getfield 7, 3) := by decide +kernel
theorem dX1_simplify_253 : decode cX1_simplify 253 = .ok (.aload_n 0, 1) := by decide +kernel
theorem dX1_simplify_254 : decode cX1_simplify 254 = .ok (.getfield 29, 3) := by decide +kernel
theorem dX1_simplify_257 : decode cX1_simplify 257 = .ok (.iload_n 2, 1) := by decide +kernel
theorem dX1_simplify_258 : decode cX1_simplify 258 = .ok (.iaload, 1) := by decide +kernel
theorem dX1_simplify_259 : decode cX1_simplify 259 = .ok (.aload_n 0, 1) := by decide +kernel
theorem dX1_simplify_260 : decode cX1_simplify 260 = .ok (.getfield 7, 3) := by decide +kernel
theorem dX1_simplify_263 : decode cX1_simplify 263 = .ok (.iload_n 2, 1) := by decide +kernel
theorem dX1_simplify_264 : decode cX1_simplify 264 = .ok (.iaload, 1) := by decide +kernel
theorem dX1_simplify_265 : decode cX1_simplify 265 = .ok (.iastore, 1) := by decide +kernel
theorem dX1_simplify_266 : decode cX1_simplify 266 = .ok (.aload_n 0, 1) := by decide +kernel
theorem dX1_simplify_267 : decode cX1_simplify 267 = .ok (.getfield 13, 3) := by decide +kernel
theorem dX1_simplify_270 : decode cX1_simplify 270 = .ok (.aload_n 0, 1) := by decide +kernel
theorem dX1_simplify_271 : decode cX1_simplify 271 = .ok (.getfield 29, 3) := by decide +kernel
theorem dX1_simplify_274 : decode cX1_simplify 274 = .ok (.iload_n 2, 1) := by decide +kernel
theorem dX1_simplify_275 : decode cX1_simplify 275 = .ok (.iaload, 1) := by decide +kernel
theorem dX1_simplify_276 : decode cX1_simplify 276 = .ok (.aload_n 0, 1) := by decide +kernel
theorem dX1_simplify_277 : decode cX1_simplify 277 = .ok (.getfield 13, 3) := by decide +kernel
theorem dX1_simplify_280 : decode cX1_simplify 280 = .ok (.iload_n 2, 1) := by decide +kernel
theorem dX1_simplify_281 : decode cX1_simplify 281 = .ok (.baload, 1) := by decide +kernel
theorem dX1_simplify_282 : decode cX1_simplify 282 = .ok (.bastore, 1) := by decide +kernel
theorem dX1_simplify_283 : decode cX1_simplify 283 = .ok (.iinc 2 1, 3) := by decide +kernel
theorem dX1_simplify_286 : decode cX1_simplify 286 = .ok (.goto (-54), 3) := by decide +kernel
theorem dX1_simplify_289 : decode cX1_simplify 289 = .ok (.aload_n 0, 1) := by decide +kernel
theorem dX1_simplify_290 : decode cX1_simplify 290 = .ok (.iload_n 1, 1) := by decide +kernel
theorem dX1_simplify_291 : decode cX1_simplify 291 = .ok (.putfield 42, 3) := by decide +kernel
theorem dX1_simplify_294 : decode cX1_simplify 294 = .ok (.iconst 0, 1) := by decide +kernel
theorem dX1_simplify_295 : decode cX1_simplify 295 = .ok (.istore_n 2, 1) := by decide +kernel
theorem dX1_simplify_296 : decode cX1_simplify 296 = .ok (.iload_n 2, 1) := by decide +kernel
theorem dX1_simplify_297 : decode cX1_simplify 297 = .ok (.bipush 60, 2) := by decide +kernel
theorem dX1_simplify_299 : decode cX1_simplify 299 = .ok (.iload_n 1, 1) := by decide +kernel
theorem dX1_simplify_300 : decode cX1_simplify 300 = .ok (.imul, 1) := by decide +kernel
theorem dX1_simplify_301 : decode cX1_simplify 301 = .ok (.if_icmp .ge 21, 3) := by decide +kernel
theorem dX1_simplify_304 : decode cX1_simplify 304 = .ok (.aload_n 0, 1) := by decide +kernel
theorem dX1_simplify_305 : decode cX1_simplify 305 = .ok (.getfield 17, 3) := by decide +kernel
theorem dX1_simplify_308 : decode cX1_simplify 308 = .ok (.iload_n 2, 1) := by decide +kernel
theorem dX1_simplify_309 : decode cX1_simplify 309 = .ok (.aload_n 0, 1) := by decide +kernel
theorem dX1_simplify_310 : decode cX1_simplify 310 = .ok (.getfield 32, 3) := by decide +kernel
theorem dX1_simplify_313 : decode cX1_simplify 313 = .ok (.iload_n 2, 1) := by decide +kernel
theorem dX1_simplify_314 : decode cX1_simplify 314 = .ok (.iaload, 1) := by decide +kernel
theorem dX1_simplify_315 : decode cX1_simplify 315 = .ok (.iastore, 1) := by decide +kernel
theorem dX1_simplify_316 : decode cX1_simplify 316 = .ok (.iinc 2 1, 3) := by decide +kernel
theorem dX1_simplify_319 : decode cX1_simplify 319 = .ok (.goto (-23), 3) := by decide +kernel
theorem dX1_simplify_322 : decode cX1_simplify 322 = .ok (.iconst 0, 1) := by decide +kernel
theorem dX1_simplify_323 : decode cX1_simplify 323 = .ok (.istore_n 2, 1) := by decide +kernel
theorem dX1_simplify_324 : decode cX1_simplify 324 = .ok (.iload_n 2, 1) := by decide +kernel
theorem dX1_simplify_325 : decode cX1_simplify 325 = .ok (.bipush 112, 2) := by decide +kernel
theorem dX1_simplify_327 : decode cX1_simplify 327 = .ok (.if_icmp .ge 33, 3) := by decide +kernel
theorem dX1_simplify_330 : decode cX1_simplify 330 = .ok (.aload_n 0, 1) := by decide +kernel
theorem dX1_simplify_331 : decode cX1_simplify 331 = .ok (.getfield 26, 3) := by decide +kernel
theorem dX1_simplify_334 : decode cX1_simplify 334 = .ok (.iload_n 2, 1) := by decide +kernel
theorem dX1_simplify_335 : decode cX1_simplify 335 = .ok (.iload_n 2, 1) := by decide +kernel
theorem dX1_simplify_336 : decode cX1_simplify 336 = .ok (.bipush 14, 2) := by decide +kernel
theorem dX1_simplify_338 : decode cX1_simplify 338 = .ok (.irem, 1) := by decide +kernel
theorem dX1_simplify_339 : decode cX1_simplify 339 = .ok (.iload_n 1, 1) := by decide +kernel
theorem dX1_simplify_340 : decode cX1_simplify 340 = .ok (.if_icmp .ge 12, 3) := by decide +kernel
theorem dX1_simplify_343 : decode cX1_simplify 343 = .ok (.aload_n 0, 1) := by decide +kernel
theorem dX1_simplify_344 : decode cX1_simplify 344 = .ok (.getfield 35, 3) := by decide +kernel
theorem dX1_simplify_347 : decode cX1_simplify 347 = .ok (.iload_n 2, 1) := by decide +kernel
theorem dX1_simplify_348 : decode cX1_simplify 348 = .ok (.iaload, 1) := by decide +kernel
theorem dX1_simplify_349 : decode cX1_simplify 349 = .ok (.goto 4, 3) := by decide +kernel
theorem dX1_simplify_352 : decode cX1_simplify 352 = .ok (.iconst 0, 1) := by decide +kernel
theorem dX1_simplify_353 : decode cX1_simplify 353 = .ok (.iastore, 1) := by decide +kernel
theorem dX1_simplify_354 : decode cX1_simplify 354 = .ok (.iinc 2 1, 3) := by decide +kernel
theorem dX1_simplify_357 : decode cX1_simplify 357 = .ok (.goto (-33), 3) := by decide +kernel
theorem dX1_simplify_360 : decode cX1_simplify 360 = .ok (.iload_n 1, 1) := by decide +kernel
theorem dX1_simplify_361 : decode cX1_simplify 361 = .ok (.ireturn, 1) := by decide +kernel
theorem dX1_stays_0 : decode cX1_stays 0 = .ok (.aload_n 0, 1) := by decide +kernel
theorem dX1_stays_1 : decode cX1_stays 1 = .ok (.getfield 13, 3) := by decide +kernel
theorem dX1_stays_4 : decode cX1_stays 4 = .ok (.iload_n 1, 1) := by decide +kernel
theorem dX1_stays_5 : decode cX1_stays 5 = .ok (.baload, 1) := by decide +kernel
theorem dX1_stays_6 : decode cX1_stays 6 = .ok (.istore_n 2, 1) := by decide +kernel
theorem dX1_stays_7 : decode cX1_stays 7 = .ok (.iconst 0, 1) := by decide +kernel
theorem dX1_stays_8 : decode cX1_stays 8 = .ok (.istore_n 3, 1) := by decide +kernel
theorem dX1_stays_9 : decode cX1_stays 9 = .ok (.iload_n 3, 1) := by decide +kernel
theorem dX1_stays_10 : decode cX1_stays 10 = .ok (.bipush 60, 2) := by decide +kernel
theorem dX1_stays_12 : decode cX1_stays 12 = .ok (.if_icmp .ge 28, 3) := by decide +kernel
theorem dX1_stays_15 : decode cX1_stays 15 = .ok (.iload_n 2, 1) := by decide +kernel
theorem dX1_stays_16 : decode cX1_stays 16 = .ok (.ifCond .ne 12, 3) := by decide +kernel
theorem dX1_stays_19 : decode cX1_stays 19 = .ok (.aload_n 0, 1) := by decide +kernel
theorem dX1_stays_20 : decode cX1_stays 20 = .ok (.iload_n 1, 1) := by decide +kernel
theorem dX1_stays_21 : decode cX1_stays 21 = .ok (.iload_n 3, 1) := by decide +kernel
theorem dX1_stays_22 : decode cX1_stays 22 = .ok (.invokevirtual 59, 3) := by decide +kernel
theorem dX1_stays_25 : decode cX1_stays 25 = .ok (.ifCond .eq 7, 3) := by decide +kernel
theorem dX1_stays_28 : decode cX1_stays 28 = .ok (.iconst 1, 1) := by decide +kernel
theorem dX1_stays_29 : decode cX1_stays 29 = .ok (.goto 4, 3) := by decide +kernel
theorem dX1_stays_32 : decode cX1_stays 32 = .ok (.iconst 0, 1) := by decide +kernel
theorem dX1_stays_33 : decode cX1_stays 33 = .ok (.istore_n 2, 1) := by decide +kernel
theorem dX1_stays_34 : decode cX1_stays 34 = .ok (.iinc 3 1, 3) := by decide +kernel
theorem dX1_stays_37 : decode cX1_stays 37 = .ok (.goto (-28), 3) := by decide +kernel
theorem dX1_stays_40 : decode cX1_stays 40 = .ok (.iload_n 2, 1) := by decide +kernel
theorem dX1_stays_41 : decode cX1_stays 41 = .ok (.ireturn, 1) := by decide +kernel
theorem dX1_isFork_0 : decode cX1_isFork 0 = .ok (.iconst 0, 1) := by decide +kernel
theorem dX1_isFork_1 : decode cX1_isFork 1 = .ok (.istore_n 3, 1) := by decide +kernel
theorem dX1_isFork_2 : decode cX1_isFork 2 = .ok (.iconst 0, 1) := by decide +kernel
theorem dX1_isFork_3 : decode cX1_isFork 3 = .ok (.istore 4, 2) := by decide +kernel
theorem dX1_isFork_5 : decode cX1_isFork 5 = .ok (.iload 4, 2) := by decide +kernel
theorem dX1_isFork_7 : decode cX1_isFork 7 = .ok (.aload_n 0, 1) := by decide +kernel
theorem dX1_isFork_8 : decode cX1_isFork 8 = .ok (.getfield 42, 3) := by decide +kernel
theorem dX1_isFork_11 : decode cX1_isFork 11 = .ok (.if_icmp .ge 38, 3) := by decide +kernel
theorem dX1_isFork_14 : decode cX1_isFork 14 = .ok (.aload_n 0, 1) := by decide +kernel
theorem dX1_isFork_15 : decode cX1_isFork 15 = .ok (.iload 4, 2) := by decide +kernel
theorem dX1_isFork_17 : decode cX1_isFork 17 = .ok (.iload_n 2, 1) := by decide +kernel
theorem dX1_isFork_18 : decode cX1_isFork 18 = .ok (.invokevirtual 48, 3) := by decide +kernel
theorem dX1_isFork_21 : decode cX1_isFork 21 = .ok (.iload_n 1, 1) := by decide +kernel
theorem dX1_isFork_22 : decode cX1_isFork 22 = .ok (.if_icmp .ne 19, 3) := by decide +kernel
theorem dX1_isFork_25 : decode cX1_isFork 25 = .ok (.aload_n 0, 1) := by decide +kernel
theorem dX1_isFork_26 : decode cX1_isFork 26 = .ok (.iload 4, 2) := by decide +kernel
theorem dX1_isFork_28 : decode cX1_isFork 28 = .ok (.iload_n 2, 1) := by decide +kernel
theorem dX1_isFork_29 : decode cX1_isFork 29 = .ok (.invokevirtual 56, 3) := by decide +kernel
theorem dX1_isFork_32 : decode cX1_isFork 32 = .ok (.ifCond .le 9, 3) := by decide +kernel
theorem dX1_isFork_35 : decode cX1_isFork 35 = .ok (.iload_n 3, 1) := by decide +kernel
theorem dX1_isFork_36 : decode cX1_isFork 36 = .ok (.iconst 1, 1) := by decide +kernel
theorem dX1_isFork_37 : decode cX1_isFork 37 = .ok (.iadd, 1) := by decide +kernel
theorem dX1_isFork_38 : decode cX1_isFork 38 = .ok (.goto 4, 3) := by decide +kernel
theorem dX1_isFork_41 : decode cX1_isFork 41 = .ok (.iload_n 3, 1) := by decide +kernel
theorem dX1_isFork_42 : decode cX1_isFork 42 = .ok (.istore_n 3, 1) := by decide +kernel
theorem dX1_isFork_43 : decode cX1_isFork 43 = .ok (.iinc 4 1, 3) := by decide +kernel
theorem dX1_isFork_46 : decode cX1_isFork 46 = .ok (.goto (-41), 3) := by decide +kernel
theorem dX1_isFork_49 : decode cX1_isFork 49 = .ok (.iload_n 3, 1) := by decide +kernel
theorem dX1_isFork_50 : decode cX1_isFork 50 = .ok (.iconst 1, 1) := by decide +kernel
theorem dX1_isFork_51 : decode cX1_isFork 51 = .ok (.if_icmp .le 7, 3) := by decide +kernel
theorem dX1_isFork_54 : decode cX1_isFork 54 = .ok (.iconst 1, 1) := by decide +kernel
theorem dX1_isFork_55 : decode cX1_isFork 55 = .ok (.goto 4, 3) := by decide +kernel
theorem dX1_isFork_58 : decode cX1_isFork 58 = .ok (.iconst 0, 1) := by decide +kernel
theorem dX1_isFork_59 : decode cX1_isFork 59 = .ok (.ireturn, 1) := by decide +kernel
theorem dX1_matters_0 : decode cX1_matters 0 = .ok (.aload_n 0, 1) := by decide +kernel
theorem dX1_matters_1 : decode cX1_matters 1 = .ok (.getfield 13, 3) := by decide +kernel
theorem dX1_matters_4 : decode cX1_matters 4 = .ok (.iload_n 1, 1) := by decide +kernel
theorem dX1_matters_5 : decode cX1_matters 5 = .ok (.baload, 1) := by decide +kernel
theorem dX1_matters_6 : decode cX1_matters 6 = .ok (.ifCond .ne 12, 3) := by decide +kernel
theorem dX1_matters_9 : decode cX1_matters 9 = .ok (.aload_n 0, 1) := by decide +kernel
theorem dX1_matters_10 : decode cX1_matters 10 = .ok (.iload_n 1, 1) := by decide +kernel
theorem dX1_matters_11 : decode cX1_matters 11 = .ok (.iload_n 2, 1) := by decide +kernel
theorem dX1_matters_12 : decode cX1_matters 12 = .ok (.invokevirtual 59, 3) := by decide +kernel
theorem dX1_matters_15 : decode cX1_matters 15 = .ok (.ifCond .eq 7, 3) := by decide +kernel
theorem dX1_matters_18 : decode cX1_matters 18 = .ok (.iconst 1, 1) := by decide +kernel
theorem dX1_matters_19 : decode cX1_matters 19 = .ok (.goto 4, 3) := by decide +kernel
theorem dX1_matters_22 : decode cX1_matters 22 = .ok (.iconst 0, 1) := by decide +kernel
theorem dX1_matters_23 : decode cX1_matters 23 = .ok (.ireturn, 1) := by decide +kernel
theorem dX1_nearest_0 : decode cX1_nearest 0 = .ok (.aload_n 0, 1) := by decide +kernel
theorem dX1_nearest_1 : decode cX1_nearest 1 = .ok (.iload_n 1, 1) := by decide +kernel
theorem dX1_nearest_2 : decode cX1_nearest 2 = .ok (.iload_n 2, 1) := by decide +kernel
theorem dX1_nearest_3 : decode cX1_nearest 3 = .ok (.invokevirtual 48, 3) := by decide +kernel
theorem dX1_nearest_6 : decode cX1_nearest 6 = .ok (.istore_n 3, 1) := by decide +kernel
theorem dX1_nearest_7 : decode cX1_nearest 7 = .ok (.iload_n 3, 1) := by decide +kernel
theorem dX1_nearest_8 : decode cX1_nearest 8 = .ok (.ifCond .lt 22, 3) := by decide +kernel
theorem dX1_nearest_11 : decode cX1_nearest 11 = .ok (.aload_n 0, 1) := by decide +kernel
theorem dX1_nearest_12 : decode cX1_nearest 12 = .ok (.iload_n 3, 1) := by decide +kernel
theorem dX1_nearest_13 : decode cX1_nearest 13 = .ok (.iload_n 2, 1) := by decide +kernel
theorem dX1_nearest_14 : decode cX1_nearest 14 = .ok (.invokevirtual 114, 3) := by decide +kernel
theorem dX1_nearest_17 : decode cX1_nearest 17 = .ok (.ifCond .ne 13, 3) := by decide +kernel
theorem dX1_nearest_20 : decode cX1_nearest 20 = .ok (.aload_n 0, 1) := by decide +kernel
theorem dX1_nearest_21 : decode cX1_nearest 21 = .ok (.iload_n 3, 1) := by decide +kernel
theorem dX1_nearest_22 : decode cX1_nearest 22 = .ok (.iload_n 2, 1) := by decide +kernel
theorem dX1_nearest_23 : decode cX1_nearest 23 = .ok (.invokevirtual 48, 3) := by decide +kernel
theorem dX1_nearest_26 : decode cX1_nearest 26 = .ok (.istore_n 3, 1) := by decide +kernel
theorem dX1_nearest_27 : decode cX1_nearest 27 = .ok (.goto (-20), 3) := by decide +kernel
theorem dX1_nearest_30 : decode cX1_nearest 30 = .ok (.iload_n 3, 1) := by decide +kernel
theorem dX1_nearest_31 : decode cX1_nearest 31 = .ok (.ireturn, 1) := by decide +kernel
theorem dX1_comes_0 : decode cX1_comes 0 = .ok (.iload_n 1, 1) := by decide +kernel
theorem dX1_comes_1 : decode cX1_comes 1 = .ok (.istore_n 3, 1) := by decide +kernel
theorem dX1_comes_2 : decode cX1_comes 2 = .ok (.aload_n 0, 1) := by decide +kernel
theorem dX1_comes_3 : decode cX1_comes 3 = .ok (.getfield 26, 3) := by decide +kernel
theorem dX1_comes_6 : decode cX1_comes 6 = .ok (.bipush 14, 2) := by decide +kernel
theorem dX1_comes_8 : decode cX1_comes 8 = .ok (.iload_n 2, 1) := by decide +kernel
theorem dX1_comes_9 : decode cX1_comes 9 = .ok (.imul, 1) := by decide +kernel
theorem dX1_comes_10 : decode cX1_comes 10 = .ok (.iload_n 1, 1) := by decide +kernel
theorem dX1_comes_11 : decode cX1_comes 11 = .ok (.iadd, 1) := by decide +kernel
theorem dX1_comes_12 : decode cX1_comes 12 = .ok (.iaload, 1) := by decide +kernel
theorem dX1_comes_13 : decode cX1_comes 13 = .ok (.istore 4, 2) := by decide +kernel
theorem dX1_comes_15 : decode cX1_comes 15 = .ok (.iload 4, 2) := by decide +kernel
theorem dX1_comes_17 : decode cX1_comes 17 = .ok (.ifCond .ne 67, 3) := by decide +kernel
theorem dX1_comes_20 : decode cX1_comes 20 = .ok (.iload_n 3, 1) := by decide +kernel
theorem dX1_comes_21 : decode cX1_comes 21 = .ok (.ifCond .lt 63, 3) := by decide +kernel
theorem dX1_comes_24 : decode cX1_comes 24 = .ok (.aload_n 0, 1) := by decide +kernel
theorem dX1_comes_25 : decode cX1_comes 25 = .ok (.iload_n 3, 1) := by decide +kernel
theorem dX1_comes_26 : decode cX1_comes 26 = .ok (.aload_n 0, 1) := by decide +kernel
theorem dX1_comes_27 : decode cX1_comes 27 = .ok (.getfield 20, 3) := by decide +kernel
theorem dX1_comes_30 : decode cX1_comes 30 = .ok (.iload_n 2, 1) := by decide +kernel
theorem dX1_comes_31 : decode cX1_comes 31 = .ok (.iaload, 1) := by decide +kernel
theorem dX1_comes_32 : decode cX1_comes 32 = .ok (.invokevirtual 48, 3) := by decide +kernel
theorem dX1_comes_35 : decode cX1_comes 35 = .ok (.istore_n 3, 1) := by decide +kernel
theorem dX1_comes_36 : decode cX1_comes 36 = .ok (.iload_n 3, 1) := by decide +kernel
theorem dX1_comes_37 : decode cX1_comes 37 = .ok (.ifCond .lt 21, 3) := by decide +kernel
theorem dX1_comes_40 : decode cX1_comes 40 = .ok (.aload_n 0, 1) := by decide +kernel
theorem dX1_comes_41 : decode cX1_comes 41 = .ok (.iload_n 3, 1) := by decide +kernel
theorem dX1_comes_42 : decode cX1_comes 42 = .ok (.aload_n 0, 1) := by decide +kernel
theorem dX1_comes_43 : decode cX1_comes 43 = .ok (.getfield 20, 3) := by decide +kernel
theorem dX1_comes_46 : decode cX1_comes 46 = .ok (.iload_n 2, 1) := by decide +kernel
theorem dX1_comes_47 : decode cX1_comes 47 = .ok (.iaload, 1) := by decide +kernel
theorem dX1_comes_48 : decode cX1_comes 48 = .ok (.invokevirtual 114, 3) := by decide +kernel
theorem dX1_comes_51 : decode cX1_comes 51 = .ok (.ifCond .eq 7, 3) := by decide +kernel
theorem dX1_comes_54 : decode cX1_comes 54 = .ok (.iconst (-1), 1) := by decide +kernel
theorem dX1_comes_55 : decode cX1_comes 55 = .ok (.goto 4, 3) := by decide +kernel
theorem dX1_comes_58 : decode cX1_comes 58 = .ok (.iload_n 3, 1) := by decide +kernel
theorem dX1_comes_59 : decode cX1_comes 59 = .ok (.istore_n 3, 1) := by decide +kernel
theorem dX1_comes_60 : decode cX1_comes 60 = .ok (.iload_n 3, 1) := by decide +kernel
theorem dX1_comes_61 : decode cX1_comes 61 = .ok (.ifCond .lt 17, 3) := by decide +kernel
theorem dX1_comes_64 : decode cX1_comes 64 = .ok (.aload_n 0, 1) := by decide +kernel
theorem dX1_comes_65 : decode cX1_comes 65 = .ok (.getfield 26, 3) := by decide +kernel
theorem dX1_comes_68 : decode cX1_comes 68 = .ok (.bipush 14, 2) := by decide +kernel
theorem dX1_comes_70 : decode cX1_comes 70 = .ok (.iload_n 2, 1) := by decide +kernel
theorem dX1_comes_71 : decode cX1_comes 71 = .ok (.imul, 1) := by decide +kernel
theorem dX1_comes_72 : decode cX1_comes 72 = .ok (.iload_n 3, 1) := by decide +kernel
theorem dX1_comes_73 : decode cX1_comes 73 = .ok (.iadd, 1) := by decide +kernel
theorem dX1_comes_74 : decode cX1_comes 74 = .ok (.iaload, 1) := by decide +kernel
theorem dX1_comes_75 : decode cX1_comes 75 = .ok (.goto 4, 3) := by decide +kernel
theorem dX1_comes_78 : decode cX1_comes 78 = .ok (.iconst 0, 1) := by decide +kernel
theorem dX1_comes_79 : decode cX1_comes 79 = .ok (.istore 4, 2) := by decide +kernel
theorem dX1_comes_81 : decode cX1_comes 81 = .ok (.goto (-66), 3) := by decide +kernel
theorem dX1_comes_84 : decode cX1_comes 84 = .ok (.iload 4, 2) := by decide +kernel
theorem dX1_comes_86 : decode cX1_comes 86 = .ok (.ireturn, 1) := by decide +kernel
theorem dX1_became_0 : decode cX1_became 0 = .ok (.aload_n 0, 1) := by decide +kernel
theorem dX1_became_1 : decode cX1_became 1 = .ok (.iconst 0, 1) := by decide +kernel
theorem dX1_became_2 : decode cX1_became 2 = .ok (.putfield 38, 3) := by decide +kernel
theorem dX1_became_5 : decode cX1_became 5 = .ok (.iload_n 1, 1) := by decide +kernel
theorem dX1_became_6 : decode cX1_became 6 = .ok (.ifCond .lt 9, 3) := by decide +kernel
theorem dX1_became_9 : decode cX1_became 9 = .ok (.iload_n 1, 1) := by decide +kernel
theorem dX1_became_10 : decode cX1_became 10 = .ok (.bipush 13, 2) := by decide +kernel
theorem dX1_became_12 : decode cX1_became 12 = .ok (.if_icmp .le 7, 3) := by decide +kernel
theorem dX1_became_15 : decode cX1_became 15 = .ok (.iconst (-1), 1) := by decide +kernel
theorem dX1_became_16 : decode cX1_became 16 = .ok (.goto 9, 3) := by decide +kernel
theorem dX1_became_19 : decode cX1_became 19 = .ok (.aload_n 0, 1) := by decide +kernel
theorem dX1_became_20 : decode cX1_became 20 = .ok (.getfield 29, 3) := by decide +kernel
theorem dX1_became_23 : decode cX1_became 23 = .ok (.iload_n 1, 1) := by decide +kernel
theorem dX1_became_24 : decode cX1_became 24 = .ok (.iaload, 1) := by decide +kernel
theorem dX1_became_25 : decode cX1_became 25 = .ok (.ireturn, 1) := by decide +kernel
end
section
theorem dL_node_0 : decode cL_node 0 = .ok (.aload_n 3, 1) := by decide +kernel
theorem dL_node_1 : decode cL_node 1 = .ok (.iconst 0, 1) := by decide +kernel
theorem dL_node_2 : decode cL_node 2 = .ok (.aload_n 0, 1) := by decide +kernel
theorem dL_node_3 : decode cL_node 3 = .ok (.iload_n 1, 1) := by decide +kernel
theorem dL_node_4 : decode cL_node 4 = .ok (.iload_n 2, 1) := by decide +kernel
theorem dL_node_5 : decode cL_node 5 = .ok (.invokevirtual 7, 3) := by decide +kernel
theorem dL_node_8 : decode cL_node 8 = .ok (.i2l, 1) := by decide +kernel
theorem dL_node_9 : decode cL_node 9 = .ok (.lastore, 1) := by decide +kernel
theorem dL_node_10 : decode cL_node 10 = .ok (.goto 11, 3) := by decide +kernel
theorem dL_node_13 : decode cL_node 13 = .ok (.astore 4, 2) := by decide +kernel
theorem dL_node_15 : decode cL_node 15 = .ok (.iconst 1, 1) := by decide +kernel
theorem dL_node_16 : decode cL_node 16 = .ok (.ireturn, 1) := by decide +kernel
theorem dL_node_17 : decode cL_node 17 = .ok (.astore 4, 2) := by decide +kernel
theorem dL_node_19 : decode cL_node 19 = .ok (.iconst 2, 1) := by decide +kernel
theorem dL_node_20 : decode cL_node 20 = .ok (.ireturn, 1) := by decide +kernel
theorem dL_node_21 : decode cL_node 21 = .ok (.iconst 0, 1) := by decide +kernel
theorem dL_node_22 : decode cL_node 22 = .ok (.ireturn, 1) := by decide +kernel
theorem dL_join_0 : decode cL_join 0 = .ok (.aload 5, 2) := by decide +kernel
theorem dL_join_2 : decode cL_join 2 = .ok (.iconst 0, 1) := by decide +kernel
theorem dL_join_3 : decode cL_join 3 = .ok (.aload_n 0, 1) := by decide +kernel
theorem dL_join_4 : decode cL_join 4 = .ok (.iload_n 1, 1) := by decide +kernel
theorem dL_join_5 : decode cL_join 5 = .ok (.iload_n 2, 1) := by decide +kernel
theorem dL_join_6 : decode cL_join 6 = .ok (.iload_n 3, 1) := by decide +kernel
theorem dL_join_7 : decode cL_join 7 = .ok (.iload 4, 2) := by decide +kernel
theorem dL_join_9 : decode cL_join 9 = .ok (.invokevirtual 17, 3) := by decide +kernel
theorem dL_join_12 : decode cL_join 12 = .ok (.i2l, 1) := by decide +kernel
theorem dL_join_13 : decode cL_join 13 = .ok (.lastore, 1) := by decide +kernel
theorem dL_join_14 : decode cL_join 14 = .ok (.goto 15, 3) := by decide +kernel
theorem dL_join_17 : decode cL_join 17 = .ok (.astore 6, 2) := by decide +kernel
theorem dL_join_19 : decode cL_join 19 = .ok (.iconst 1, 1) := by decide +kernel
theorem dL_join_20 : decode cL_join 20 = .ok (.ireturn, 1) := by decide +kernel
theorem dL_join_21 : decode cL_join 21 = .ok (.astore 6, 2) := by decide +kernel
theorem dL_join_23 : decode cL_join 23 = .ok (.iconst 2, 1) := by decide +kernel
theorem dL_join_24 : decode cL_join 24 = .ok (.ireturn, 1) := by decide +kernel
theorem dL_join_25 : decode cL_join 25 = .ok (.astore 6, 2) := by decide +kernel
theorem dL_join_27 : decode cL_join 27 = .ok (.iconst 3, 1) := by decide +kernel
theorem dL_join_28 : decode cL_join 28 = .ok (.ireturn, 1) := by decide +kernel
theorem dL_join_29 : decode cL_join 29 = .ok (.iconst 0, 1) := by decide +kernel
theorem dL_join_30 : decode cL_join 30 = .ok (.ireturn, 1) := by decide +kernel
theorem dL_part_0 : decode cL_part 0 = .ok (.aload 4, 2) := by decide +kernel
theorem dL_part_2 : decode cL_part 2 = .ok (.iconst 0, 1) := by decide +kernel
theorem dL_part_3 : decode cL_part 3 = .ok (.aload_n 0, 1) := by decide +kernel
theorem dL_part_4 : decode cL_part 4 = .ok (.iload_n 1, 1) := by decide +kernel
theorem dL_part_5 : decode cL_part 5 = .ok (.iload_n 2, 1) := by decide +kernel
theorem dL_part_6 : decode cL_part 6 = .ok (.iload_n 3, 1) := by decide +kernel
theorem dL_part_7 : decode cL_part 7 = .ok (.invokevirtual 23, 3) := by decide +kernel
theorem dL_part_10 : decode cL_part 10 = .ok (.i2l, 1) := by decide +kernel
theorem dL_part_11 : decode cL_part 11 = .ok (.lastore, 1) := by decide +kernel
theorem dL_part_12 : decode cL_part 12 = .ok (.goto 7, 3) := by decide +kernel
theorem dL_part_15 : decode cL_part 15 = .ok (.astore 5, 2) := by decide +kernel
theorem dL_part_17 : decode cL_part 17 = .ok (.iconst 1, 1) := by decide +kernel
theorem dL_part_18 : decode cL_part 18 = .ok (.ireturn, 1) := by decide +kernel
theorem dL_part_19 : decode cL_part 19 = .ok (.iconst 0, 1) := by decide +kernel
theorem dL_part_20 : decode cL_part 20 = .ok (.ireturn, 1) := by decide +kernel
theorem dL_site_0 : decode cL_site 0 = .ok (.aload_n 3, 1) := by decide +kernel
theorem dL_site_1 : decode cL_site 1 = .ok (.iconst 0, 1) := by decide +kernel
theorem dL_site_2 : decode cL_site 2 = .ok (.aload_n 0, 1) := by decide +kernel
theorem dL_site_3 : decode cL_site 3 = .ok (.iload_n 1, 1) := by decide +kernel
theorem dL_site_4 : decode cL_site 4 = .ok (.iload_n 2, 1) := by decide +kernel
theorem dL_site_5 : decode cL_site 5 = .ok (.invokevirtual 27, 3) := by decide +kernel
theorem dL_site_8 : decode cL_site 8 = .ok (.i2l, 1) := by decide +kernel
theorem dL_site_9 : decode cL_site 9 = .ok (.lastore, 1) := by decide +kernel
theorem dL_site_10 : decode cL_site 10 = .ok (.goto 15, 3) := by decide +kernel
theorem dL_site_13 : decode cL_site 13 = .ok (.astore 4, 2) := by decide +kernel
theorem dL_site_15 : decode cL_site 15 = .ok (.iconst 1, 1) := by decide +kernel
theorem dL_site_16 : decode cL_site 16 = .ok (.ireturn, 1) := by decide +kernel
theorem dL_site_17 : decode cL_site 17 = .ok (.astore 4, 2) := by decide +kernel
theorem dL_site_19 : decode cL_site 19 = .ok (.iconst 2, 1) := by decide +kernel
theorem dL_site_20 : decode cL_site 20 = .ok (.ireturn, 1) := by decide +kernel
theorem dL_site_21 : decode cL_site 21 = .ok (.astore 4, 2) := by decide +kernel
theorem dL_site_23 : decode cL_site 23 = .ok (.iconst 3, 1) := by decide +kernel
theorem dL_site_24 : decode cL_site 24 = .ok (.ireturn, 1) := by decide +kernel
theorem dL_site_25 : decode cL_site 25 = .ok (.iconst 0, 1) := by decide +kernel
theorem dL_site_26 : decode cL_site 26 = .ok (.ireturn, 1) := by decide +kernel
theorem dL_mutate_0 : decode cL_mutate 0 = .ok (.aload 4, 2) := by decide +kernel
theorem dL_mutate_2 : decode cL_mutate 2 = .ok (.iconst 0, 1) := by decide +kernel
theorem dL_mutate_3 : decode cL_mutate 3 = .ok (.aload_n 0, 1) := by decide +kernel
theorem dL_mutate_4 : decode cL_mutate 4 = .ok (.iload_n 1, 1) := by decide +kernel
theorem dL_mutate_5 : decode cL_mutate 5 = .ok (.iload_n 2, 1) := by decide +kernel
theorem dL_mutate_6 : decode cL_mutate 6 = .ok (.iload_n 3, 1) := by decide +kernel
theorem dL_mutate_7 : decode cL_mutate 7 = .ok (.invokevirtual 31, 3) := by decide +kernel
theorem dL_mutate_10 : decode cL_mutate 10 = .ok (.i2l, 1) := by decide +kernel
theorem dL_mutate_11 : decode cL_mutate 11 = .ok (.lastore, 1) := by decide +kernel
theorem dL_mutate_12 : decode cL_mutate 12 = .ok (.goto 11, 3) := by decide +kernel
theorem dL_mutate_15 : decode cL_mutate 15 = .ok (.astore 5, 2) := by decide +kernel
theorem dL_mutate_17 : decode cL_mutate 17 = .ok (.iconst 1, 1) := by decide +kernel
theorem dL_mutate_18 : decode cL_mutate 18 = .ok (.ireturn, 1) := by decide +kernel
theorem dL_mutate_19 : decode cL_mutate 19 = .ok (.astore 5, 2) := by decide +kernel
theorem dL_mutate_21 : decode cL_mutate 21 = .ok (.iconst 2, 1) := by decide +kernel
theorem dL_mutate_22 : decode cL_mutate 22 = .ok (.ireturn, 1) := by decide +kernel
theorem dL_mutate_23 : decode cL_mutate 23 = .ok (.iconst 0, 1) := by decide +kernel
theorem dL_mutate_24 : decode cL_mutate 24 = .ok (.ireturn, 1) := by decide +kernel
theorem dL_time_0 : decode cL_time 0 = .ok (.aload_n 2, 1) := by decide +kernel
theorem dL_time_1 : decode cL_time 1 = .ok (.iconst 0, 1) := by decide +kernel
theorem dL_time_2 : decode cL_time 2 = .ok (.aload_n 0, 1) := by decide +kernel
theorem dL_time_3 : decode cL_time 3 = .ok (.iload_n 1, 1) := by decide +kernel
theorem dL_time_4 : decode cL_time 4 = .ok (.invokevirtual 34, 3) := by decide +kernel
theorem dL_time_7 : decode cL_time 7 = .ok (.i2l, 1) := by decide +kernel
theorem dL_time_8 : decode cL_time 8 = .ok (.lastore, 1) := by decide +kernel
theorem dL_time_9 : decode cL_time 9 = .ok (.goto 6, 3) := by decide +kernel
theorem dL_time_12 : decode cL_time 12 = .ok (.astore_n 3, 1) := by decide +kernel
theorem dL_time_13 : decode cL_time 13 = .ok (.iconst 1, 1) := by decide +kernel
theorem dL_time_14 : decode cL_time 14 = .ok (.ireturn, 1) := by decide +kernel
theorem dL_time_15 : decode cL_time 15 = .ok (.iconst 0, 1) := by decide +kernel
theorem dL_time_16 : decode cL_time 16 = .ok (.ireturn, 1) := by decide +kernel
theorem dL_edge_0 : decode cL_edge 0 = .ok (.aload_n 3, 1) := by decide +kernel
theorem dL_edge_1 : decode cL_edge 1 = .ok (.iconst 0, 1) := by decide +kernel
theorem dL_edge_2 : decode cL_edge 2 = .ok (.aload_n 0, 1) := by decide +kernel
theorem dL_edge_3 : decode cL_edge 3 = .ok (.iload_n 1, 1) := by decide +kernel
theorem dL_edge_4 : decode cL_edge 4 = .ok (.iload_n 2, 1) := by decide +kernel
theorem dL_edge_5 : decode cL_edge 5 = .ok (.invokevirtual 38, 3) := by decide +kernel
theorem dL_edge_8 : decode cL_edge 8 = .ok (.i2l, 1) := by decide +kernel
theorem dL_edge_9 : decode cL_edge 9 = .ok (.lastore, 1) := by decide +kernel
theorem dL_edge_10 : decode cL_edge 10 = .ok (.goto 7, 3) := by decide +kernel
theorem dL_edge_13 : decode cL_edge 13 = .ok (.astore 4, 2) := by decide +kernel
theorem dL_edge_15 : decode cL_edge 15 = .ok (.iconst 1, 1) := by decide +kernel
theorem dL_edge_16 : decode cL_edge 16 = .ok (.ireturn, 1) := by decide +kernel
theorem dL_edge_17 : decode cL_edge 17 = .ok (.iconst 0, 1) := by decide +kernel
theorem dL_edge_18 : decode cL_edge 18 = .ok (.ireturn, 1) := by decide +kernel
theorem dL_parent_0 : decode cL_parent 0 = .ok (.aload_n 3, 1) := by decide +kernel
theorem dL_parent_1 : decode cL_parent 1 = .ok (.iconst 0, 1) := by decide +kernel
theorem dL_parent_2 : decode cL_parent 2 = .ok (.aload_n 0, 1) := by decide +kernel
theorem dL_parent_3 : decode cL_parent 3 = .ok (.iload_n 1, 1) := by decide +kernel
theorem dL_parent_4 : decode cL_parent 4 = .ok (.iload_n 2, 1) := by decide +kernel
theorem dL_parent_5 : decode cL_parent 5 = .ok (.invokevirtual 41, 3) := by decide +kernel
theorem dL_parent_8 : decode cL_parent 8 = .ok (.i2l, 1) := by decide +kernel
theorem dL_parent_9 : decode cL_parent 9 = .ok (.lastore, 1) := by decide +kernel
theorem dL_parent_10 : decode cL_parent 10 = .ok (.goto 7, 3) := by decide +kernel
theorem dL_parent_13 : decode cL_parent 13 = .ok (.astore 4, 2) := by decide +kernel
theorem dL_parent_15 : decode cL_parent 15 = .ok (.iconst 1, 1) := by decide +kernel
theorem dL_parent_16 : decode cL_parent 16 = .ok (.ireturn, 1) := by decide +kernel
theorem dL_parent_17 : decode cL_parent 17 = .ok (.iconst 0, 1) := by decide +kernel
theorem dL_parent_18 : decode cL_parent 18 = .ok (.ireturn, 1) := by decide +kernel
theorem dL_meet_0 : decode cL_meet 0 = .ok (.aload 4, 2) := by decide +kernel
theorem dL_meet_2 : decode cL_meet 2 = .ok (.iconst 0, 1) := by decide +kernel
theorem dL_meet_3 : decode cL_meet 3 = .ok (.aload_n 0, 1) := by decide +kernel
theorem dL_meet_4 : decode cL_meet 4 = .ok (.iload_n 1, 1) := by decide +kernel
theorem dL_meet_5 : decode cL_meet 5 = .ok (.iload_n 2, 1) := by decide +kernel
theorem dL_meet_6 : decode cL_meet 6 = .ok (.iload_n 3, 1) := by decide +kernel
theorem dL_meet_7 : decode cL_meet 7 = .ok (.invokevirtual 44, 3) := by decide +kernel
theorem dL_meet_10 : decode cL_meet 10 = .ok (.i2l, 1) := by decide +kernel
theorem dL_meet_11 : decode cL_meet 11 = .ok (.lastore, 1) := by decide +kernel
theorem dL_meet_12 : decode cL_meet 12 = .ok (.goto 7, 3) := by decide +kernel
theorem dL_meet_15 : decode cL_meet 15 = .ok (.astore 5, 2) := by decide +kernel
theorem dL_meet_17 : decode cL_meet 17 = .ok (.iconst 1, 1) := by decide +kernel
theorem dL_meet_18 : decode cL_meet 18 = .ok (.ireturn, 1) := by decide +kernel
theorem dL_meet_19 : decode cL_meet 19 = .ok (.iconst 0, 1) := by decide +kernel
theorem dL_meet_20 : decode cL_meet 20 = .ok (.ireturn, 1) := by decide +kernel
theorem dL_cut_0 : decode cL_cut 0 = .ok (.aload_n 2, 1) := by decide +kernel
theorem dL_cut_1 : decode cL_cut 1 = .ok (.iconst 0, 1) := by decide +kernel
theorem dL_cut_2 : decode cL_cut 2 = .ok (.aload_n 0, 1) := by decide +kernel
theorem dL_cut_3 : decode cL_cut 3 = .ok (.iload_n 1, 1) := by decide +kernel
theorem dL_cut_4 : decode cL_cut 4 = .ok (.invokevirtual 47, 3) := by decide +kernel
theorem dL_cut_7 : decode cL_cut 7 = .ok (.i2l, 1) := by decide +kernel
theorem dL_cut_8 : decode cL_cut 8 = .ok (.lastore, 1) := by decide +kernel
theorem dL_cut_9 : decode cL_cut 9 = .ok (.goto 6, 3) := by decide +kernel
theorem dL_cut_12 : decode cL_cut 12 = .ok (.astore_n 3, 1) := by decide +kernel
theorem dL_cut_13 : decode cL_cut 13 = .ok (.iconst 1, 1) := by decide +kernel
theorem dL_cut_14 : decode cL_cut 14 = .ok (.ireturn, 1) := by decide +kernel
theorem dL_cut_15 : decode cL_cut 15 = .ok (.iconst 0, 1) := by decide +kernel
theorem dL_cut_16 : decode cL_cut 16 = .ok (.ireturn, 1) := by decide +kernel
theorem dL_letter_0 : decode cL_letter 0 = .ok (.aload_n 3, 1) := by decide +kernel
theorem dL_letter_1 : decode cL_letter 1 = .ok (.iconst 0, 1) := by decide +kernel
theorem dL_letter_2 : decode cL_letter 2 = .ok (.aload_n 0, 1) := by decide +kernel
theorem dL_letter_3 : decode cL_letter 3 = .ok (.iload_n 1, 1) := by decide +kernel
theorem dL_letter_4 : decode cL_letter 4 = .ok (.iload_n 2, 1) := by decide +kernel
theorem dL_letter_5 : decode cL_letter 5 = .ok (.invokevirtual 50, 3) := by decide +kernel
theorem dL_letter_8 : decode cL_letter 8 = .ok (.i2l, 1) := by decide +kernel
theorem dL_letter_9 : decode cL_letter 9 = .ok (.lastore, 1) := by decide +kernel
theorem dL_letter_10 : decode cL_letter 10 = .ok (.goto 7, 3) := by decide +kernel
theorem dL_letter_13 : decode cL_letter 13 = .ok (.astore 4, 2) := by decide +kernel
theorem dL_letter_15 : decode cL_letter 15 = .ok (.iconst 1, 1) := by decide +kernel
theorem dL_letter_16 : decode cL_letter 16 = .ok (.ireturn, 1) := by decide +kernel
theorem dL_letter_17 : decode cL_letter 17 = .ok (.iconst 0, 1) := by decide +kernel
theorem dL_letter_18 : decode cL_letter 18 = .ok (.ireturn, 1) := by decide +kernel
end
section
/-! The packed walk: 'from every heap that holds ws and all locals that hold lv the machine, at pc with the stack st, comes to Q'. Rows of one instruction each over the kit's. -/
section JA
variable {p : Program} {l : Launch} {e : Env} {R : Room} {s : State} {m : MethodId} {args : Array Value} {below : List Frame} {meth : Method} {c : Code} {cells slots : Nat} {Q : State → Prop}
variable {D : va_G} {cl : List vw_C} {tys : List (ClassId × FieldType)} {A : Nat → Prop} {nL : Nat} {cc : ByteArray} {Ts : List Cond} {own : String} {ret : Option FieldType} {ws : va_W} {lv : List (Nat × Value)} {pc : Nat} {st : List Value}
def jaC (p : Program) (s : State) (m : MethodId) (args : Array Value) (meth : Method) (c : Code) (D : va_G) (cl : List vw_C) (tys : List (ClassId × FieldType)) (cc : ByteArray) (nL : Nat) (Ts : List Cond) (own : String) (ret : Option FieldType) (A : Nat → Prop) : Prop :=
  CallFix p m c cc nL s args Ts own ∧ va_K D cl tys s ∧ (∀ q : Nat, s.heap.size ≤ q → A q) ∧ meth.sig.returnType = ret ∧ meth.locks = false
def jaW (p : Program) (l : Launch) (e : Env) (R : Room) (s : State) (m : MethodId) (args : Array Value) (below : List Frame) (meth : Method) (c : Code) (cells slots : Nat) (Q : State → Prop) (D : va_G) (cl : List vw_C) (A : Nat → Prop) (nL : Nat) (ws : va_W) (lv : List (Nat × Value)) (pc : Nat) (st : List Value) : Prop :=
  ∀ (H : Heap) (locs : List Loc) (ls : Array Slot), va_P D cl ws H → va_D A ws → va_S A s.heap H locs → lv_has ls nL lv → W p l e R s m args below meth c H locs cells slots Q (F0 m pc ls st)
theorem ja_iconst (K : jaC p s m args meth c D cl tys cc nL Ts own ret A) {n : Int} (v : Int32) (hd : decode cc pc = .ok (.iconst n, 1)) (hv : Int32.ofInt n = v) (k : jaW p l e R s m args below meth c cells slots Q D cl A nL ws lv (pc + 1) (Value.int v :: st)) : jaW p l e R s m args below meth c cells slots Q D cl A nL ws lv (pc) (st) := fun H L ls hP hD hS hl => lv_iconst K.1.1 K.1.2.1 hd hv (k H L ls hP hD hS hl)
theorem ja_bipush (K : jaC p s m args meth c D cl tys cc nL Ts own ret A) {n : Int} (v : Int32) (hd : decode cc pc = .ok (.bipush n, 2)) (hv : (Int8.ofInt n).toInt32 = v) (k : jaW p l e R s m args below meth c cells slots Q D cl A nL ws lv (pc + 2) (Value.int v :: st)) : jaW p l e R s m args below meth c cells slots Q D cl A nL ws lv (pc) (st) := fun H L ls hP hD hS hl => lv_bipush K.1.1 K.1.2.1 hd hv (k H L ls hP hD hS hl)
theorem ja_sipush (K : jaC p s m args meth c D cl tys cc nL Ts own ret A) {n : Int} (v : Int32) (hd : decode cc pc = .ok (.sipush n, 3)) (hv : (Int16.ofInt n).toInt32 = v) (k : jaW p l e R s m args below meth c cells slots Q D cl A nL ws lv (pc + 3) (Value.int v :: st)) : jaW p l e R s m args below meth c cells slots Q D cl A nL ws lv (pc) (st) := fun H L ls hP hD hS hl => lv_sipush K.1.1 K.1.2.1 hd hv (k H L ls hP hD hS hl)
theorem ja_iload_n (K : jaC p s m args meth c D cl tys cc nL Ts own ret A) {k0 : Fin 4} {x : Int32} (j : Nat) (hd : decode cc pc = .ok (.iload_n k0, 1)) (hj : lv[j]? = some ((k0 : Nat), Value.int x)) (k : jaW p l e R s m args below meth c cells slots Q D cl A nL ws lv (pc + 1) (Value.int x :: st)) : jaW p l e R s m args below meth c cells slots Q D cl A nL ws lv (pc) (st) := fun H L ls hP hD hS hl => lv_iload_n K.1.1 K.1.2.1 hd rfl (lv_at hl j hj) (k H L ls hP hD hS hl)
theorem ja_iload (K : jaC p s m args meth c D cl tys cc nL Ts own ret A) {i : Nat} {x : Int32} (j : Nat) (hd : decode cc pc = .ok (.iload i, 2)) (hj : lv[j]? = some (i, Value.int x)) (k : jaW p l e R s m args below meth c cells slots Q D cl A nL ws lv (pc + 2) (Value.int x :: st)) : jaW p l e R s m args below meth c cells slots Q D cl A nL ws lv (pc) (st) := fun H L ls hP hD hS hl => lv_iload K.1.1 K.1.2.1 hd (lv_at hl j hj) (k H L ls hP hD hS hl)
theorem ja_aload_n (K : jaC p s m args meth c D cl tys cc nL Ts own ret A) {k0 : Fin 4} {x : Nat} (j : Nat) (hd : decode cc pc = .ok (.aload_n k0, 1)) (hj : lv[j]? = some ((k0 : Nat), Value.ref x)) (k : jaW p l e R s m args below meth c cells slots Q D cl A nL ws lv (pc + 1) (Value.ref x :: st)) : jaW p l e R s m args below meth c cells slots Q D cl A nL ws lv (pc) (st) := fun H L ls hP hD hS hl => lv_aload_n K.1.1 K.1.2.1 hd rfl (lv_at hl j hj) (k H L ls hP hD hS hl)
theorem ja_aload (K : jaC p s m args meth c D cl tys cc nL Ts own ret A) {i : Nat} {x : Nat} (j : Nat) (hd : decode cc pc = .ok (.aload i, 2)) (hj : lv[j]? = some (i, Value.ref x)) (k : jaW p l e R s m args below meth c cells slots Q D cl A nL ws lv (pc + 2) (Value.ref x :: st)) : jaW p l e R s m args below meth c cells slots Q D cl A nL ws lv (pc) (st) := fun H L ls hP hD hS hl => lv_aload K.1.1 K.1.2.1 hd (lv_at hl j hj) (k H L ls hP hD hS hl)
def jaset (lv : List (Nat × Value)) (i : Nat) (v : Value) : List (Nat × Value) := if lv.any (fun q => q.1 == i) then lv.map (fun q => if q.1 == i then (i, v) else q) else lv ++ [(i, v)]
def jaone (lv : List (Nat × Value)) : Bool := lv.all (fun q => q.2.category == 1)
theorem jaset_mem {lv : List (Nat × Value)} {i : Nat} {v : Value} {q : Nat × Value} (h : q ∈ jaset lv i v) : q = (i, v) ∨ (q ∈ lv ∧ q.1 ≠ i) := by
  unfold jaset at h
  split at h
  · obtain ⟨z, hz, e⟩ := List.mem_map.mp h
    split at e
    · exact Or.inl e.symm
    · rename_i hne
      subst e
      exact Or.inr ⟨hz, by simpa using hne⟩
  · rename_i hn
    rcases List.mem_append.mp h with h1 | h1
    · refine Or.inr ⟨h1, fun e => hn ?_⟩
      exact List.any_eq_true.mpr ⟨q, h1, by simp [e]⟩
    · exact Or.inl (List.mem_singleton.mp h1)
theorem jaset_has {ls : Array Slot} {n : Nat} {lv : List (Nat × Value)} {i : Nat} {v : Value} (ho : jaone lv = true) (h : lv_has ls n ((i, v) :: lv.filter (fun q => !(q.1 == i) && !(q.1 + 1 == i && q.2.category == 2)))) : lv_has ls n (jaset lv i v) := by
  refine ⟨h.1, h.2.1, fun q hq => h.2.2 q ?_⟩
  rcases jaset_mem hq with rfl | ⟨h1, h2⟩
  · exact List.mem_cons_self
  · refine List.mem_cons_of_mem _ (List.mem_filter.mpr ⟨h1, ?_⟩)
    have h3 := List.all_eq_true.mp ho q h1
    have h4 : q.2.category = 1 := by simpa using h3
    simp [h2, h4]
theorem ja_istore_n (K : jaC p s m args meth c D cl tys cc nL Ts own ret A) {k0 : Fin 4} {x : Int32} {lv1 : List (Nat × Value)} (hd : decode cc pc = .ok (.istore_n k0, 1)) (hn : (k0 : Nat) < nL) (ho : jaone lv = true) (he : jaset lv (k0 : Nat) (Value.int x) = lv1) (k : jaW p l e R s m args below meth c cells slots Q D cl A nL ws lv1 (pc + 1) (st)) : jaW p l e R s m args below meth c cells slots Q D cl A nL ws lv (pc) (Value.int x :: st) := fun H L ls hP hD hS hl => lv_istore_n K.1.1 K.1.2.1 hd rfl hl hn rfl (fun ls1 h1 => k H L ls1 hP hD hS (he ▸ jaset_has ho h1))
theorem ja_istore (K : jaC p s m args meth c D cl tys cc nL Ts own ret A) {i : Nat} {x : Int32} {lv1 : List (Nat × Value)} (hd : decode cc pc = .ok (.istore i, 2)) (hn : i < nL) (ho : jaone lv = true) (he : jaset lv i (Value.int x) = lv1) (k : jaW p l e R s m args below meth c cells slots Q D cl A nL ws lv1 (pc + 2) (st)) : jaW p l e R s m args below meth c cells slots Q D cl A nL ws lv (pc) (Value.int x :: st) := fun H L ls hP hD hS hl => lv_istore K.1.1 K.1.2.1 hd hl hn rfl (fun ls1 h1 => k H L ls1 hP hD hS (he ▸ jaset_has ho h1))
theorem ja_astore_n (K : jaC p s m args meth c D cl tys cc nL Ts own ret A) {k0 : Fin 4} {x : Nat} {lv1 : List (Nat × Value)} (hd : decode cc pc = .ok (.astore_n k0, 1)) (hn : (k0 : Nat) < nL) (ho : jaone lv = true) (he : jaset lv (k0 : Nat) (Value.ref x) = lv1) (k : jaW p l e R s m args below meth c cells slots Q D cl A nL ws lv1 (pc + 1) (st)) : jaW p l e R s m args below meth c cells slots Q D cl A nL ws lv (pc) (Value.ref x :: st) := fun H L ls hP hD hS hl => lv_astore_n K.1.1 K.1.2.1 hd rfl hl hn rfl (fun ls1 h1 => k H L ls1 hP hD hS (he ▸ jaset_has ho h1))
theorem ja_astore (K : jaC p s m args meth c D cl tys cc nL Ts own ret A) {i : Nat} {x : Nat} {lv1 : List (Nat × Value)} (hd : decode cc pc = .ok (.astore i, 2)) (hn : i < nL) (ho : jaone lv = true) (he : jaset lv i (Value.ref x) = lv1) (k : jaW p l e R s m args below meth c cells slots Q D cl A nL ws lv1 (pc + 2) (st)) : jaW p l e R s m args below meth c cells slots Q D cl A nL ws lv (pc) (Value.ref x :: st) := fun H L ls hP hD hS hl => lv_astore K.1.1 K.1.2.1 hd hl hn rfl (fun ls1 h1 => k H L ls1 hP hD hS (he ▸ jaset_has ho h1))
theorem ja_iinc (K : jaC p s m args meth c D cl tys cc nL Ts own ret A) {i : Nat} {n : Int} {x : Int32} {lv1 : List (Nat × Value)} (j : Nat) (v : Int32) (hd : decode cc pc = .ok (.iinc i n, 3)) (hj : lv[j]? = some (i, Value.int x)) (hv : x + Int32.ofInt n = v) (hn : i < nL) (ho : jaone lv = true) (he : jaset lv i (Value.int v) = lv1) (k : jaW p l e R s m args below meth c cells slots Q D cl A nL ws lv1 (pc + 3) (st)) : jaW p l e R s m args below meth c cells slots Q D cl A nL ws lv (pc) (st) := fun H L ls hP hD hS hl => lv_iinc K.1.1 K.1.2.1 hd hl hj hv hn rfl (fun ls1 h1 => k H L ls1 hP hD hS (he ▸ jaset_has ho h1))
theorem ja_locals {lv1 : List (Nat × Value)} (ks : List Nat) (h : lv_pick lv ks = lv1) (k : jaW p l e R s m args below meth c cells slots Q D cl A nL ws lv1 (pc) (st)) : jaW p l e R s m args below meth c cells slots Q D cl A nL ws lv (pc) (st) := fun H L ls hP hD hS hl => k H L ls hP hD hS (lv_sub hl ks h)
theorem ja_iadd (K : jaC p s m args meth c D cl tys cc nL Ts own ret A) {x y : Int32} (z : Int32) (hd : decode cc pc = .ok (.iadd, 1)) (hz : x + y = z) (k : jaW p l e R s m args below meth c cells slots Q D cl A nL ws lv (pc + 1) (Value.int z :: st)) : jaW p l e R s m args below meth c cells slots Q D cl A nL ws lv (pc) (Value.int y :: Value.int x :: st) := fun H L ls hP hD hS hl => lv_iadd K.1.1 K.1.2.1 hd (by rw [hz]; exact (k H L ls hP hD hS hl))
theorem ja_isub (K : jaC p s m args meth c D cl tys cc nL Ts own ret A) {x y : Int32} (z : Int32) (hd : decode cc pc = .ok (.isub, 1)) (hz : x - y = z) (k : jaW p l e R s m args below meth c cells slots Q D cl A nL ws lv (pc + 1) (Value.int z :: st)) : jaW p l e R s m args below meth c cells slots Q D cl A nL ws lv (pc) (Value.int y :: Value.int x :: st) := fun H L ls hP hD hS hl => lv_isub K.1.1 K.1.2.1 hd (by rw [hz]; exact (k H L ls hP hD hS hl))
theorem ja_imul (K : jaC p s m args meth c D cl tys cc nL Ts own ret A) {x y : Int32} (z : Int32) (hd : decode cc pc = .ok (.imul, 1)) (hz : x * y = z) (k : jaW p l e R s m args below meth c cells slots Q D cl A nL ws lv (pc + 1) (Value.int z :: st)) : jaW p l e R s m args below meth c cells slots Q D cl A nL ws lv (pc) (Value.int y :: Value.int x :: st) := fun H L ls hP hD hS hl => lv_imul K.1.1 K.1.2.1 hd (by rw [hz]; exact (k H L ls hP hD hS hl))
theorem ja_iand (K : jaC p s m args meth c D cl tys cc nL Ts own ret A) {x y : Int32} (z : Int32) (hd : decode cc pc = .ok (.iand, 1)) (hz : x &&& y = z) (k : jaW p l e R s m args below meth c cells slots Q D cl A nL ws lv (pc + 1) (Value.int z :: st)) : jaW p l e R s m args below meth c cells slots Q D cl A nL ws lv (pc) (Value.int y :: Value.int x :: st) := fun H L ls hP hD hS hl => lv_iand K.1.1 K.1.2.1 hd (by rw [hz]; exact (k H L ls hP hD hS hl))
theorem ja_ior (K : jaC p s m args meth c D cl tys cc nL Ts own ret A) {x y : Int32} (z : Int32) (hd : decode cc pc = .ok (.ior, 1)) (hz : x ||| y = z) (k : jaW p l e R s m args below meth c cells slots Q D cl A nL ws lv (pc + 1) (Value.int z :: st)) : jaW p l e R s m args below meth c cells slots Q D cl A nL ws lv (pc) (Value.int y :: Value.int x :: st) := fun H L ls hP hD hS hl => lv_ior K.1.1 K.1.2.1 hd (by rw [hz]; exact (k H L ls hP hD hS hl))
theorem ja_ishl (K : jaC p s m args meth c D cl tys cc nL Ts own ret A) {x y : Int32} (z : Int32) (hd : decode cc pc = .ok (.ishl, 1)) (hz : x <<< (y &&& 31) = z) (k : jaW p l e R s m args below meth c cells slots Q D cl A nL ws lv (pc + 1) (Value.int z :: st)) : jaW p l e R s m args below meth c cells slots Q D cl A nL ws lv (pc) (Value.int y :: Value.int x :: st) := fun H L ls hP hD hS hl => lv_ishl K.1.1 K.1.2.1 hd (by rw [hz]; exact (k H L ls hP hD hS hl))
theorem ja_ishr (K : jaC p s m args meth c D cl tys cc nL Ts own ret A) {x y : Int32} (z : Int32) (hd : decode cc pc = .ok (.ishr, 1)) (hz : x >>> (y &&& 31) = z) (k : jaW p l e R s m args below meth c cells slots Q D cl A nL ws lv (pc + 1) (Value.int z :: st)) : jaW p l e R s m args below meth c cells slots Q D cl A nL ws lv (pc) (Value.int y :: Value.int x :: st) := fun H L ls hP hD hS hl => lv_ishr K.1.1 K.1.2.1 hd (by rw [hz]; exact (k H L ls hP hD hS hl))
theorem ja_idiv (K : jaC p s m args meth c D cl tys cc nL Ts own ret A) {x y : Int32} (z : Int32) (hd : decode cc pc = .ok (.idiv, 1)) (hne : ¬ y = 0) (hz : x / y = z) (k : jaW p l e R s m args below meth c cells slots Q D cl A nL ws lv (pc + 1) (Value.int z :: st)) : jaW p l e R s m args below meth c cells slots Q D cl A nL ws lv (pc) (Value.int y :: Value.int x :: st) := fun H L ls hP hD hS hl => lv_idiv K.1.1 K.1.2.1 hd hne (by rw [hz]; exact (k H L ls hP hD hS hl))
theorem ja_irem (K : jaC p s m args meth c D cl tys cc nL Ts own ret A) {x y : Int32} (z : Int32) (hd : decode cc pc = .ok (.irem, 1)) (hne : ¬ y = 0) (hz : x - x / y * y = z) (k : jaW p l e R s m args below meth c cells slots Q D cl A nL ws lv (pc + 1) (Value.int z :: st)) : jaW p l e R s m args below meth c cells slots Q D cl A nL ws lv (pc) (Value.int y :: Value.int x :: st) := fun H L ls hP hD hS hl => lv_irem K.1.1 K.1.2.1 hd hne (by rw [hz]; exact (k H L ls hP hD hS hl))
theorem ja_ineg (K : jaC p s m args meth c D cl tys cc nL Ts own ret A) {x : Int32} (z : Int32) (hd : decode cc pc = .ok (.ineg, 1)) (hz : -x = z) (k : jaW p l e R s m args below meth c cells slots Q D cl A nL ws lv (pc + 1) (Value.int z :: st)) : jaW p l e R s m args below meth c cells slots Q D cl A nL ws lv (pc) (Value.int x :: st) := fun H L ls hP hD hS hl => lv_ineg K.1.1 K.1.2.1 hd (by rw [hz]; exact (k H L ls hP hD hS hl))
theorem ja_i2l (K : jaC p s m args meth c D cl tys cc nL Ts own ret A) {x : Int32} (z : Int64) (hd : decode cc pc = .ok (.i2l, 1)) (hz : x.toInt64 = z) (k : jaW p l e R s m args below meth c cells slots Q D cl A nL ws lv (pc + 1) (Value.long z :: st)) : jaW p l e R s m args below meth c cells slots Q D cl A nL ws lv (pc) (Value.int x :: st) := fun H L ls hP hD hS hl => lv_i2l K.1.1 K.1.2.1 hd hz (k H L ls hP hD hS hl)
theorem ja_lcmp (K : jaC p s m args meth c D cl tys cc nL Ts own ret A) {x y : Int64} (z : Int32) (hd : decode cc pc = .ok (.lcmp, 1)) (hz : lg_cmp x y = z) (k : jaW p l e R s m args below meth c cells slots Q D cl A nL ws lv (pc + 1) (Value.int z :: st)) : jaW p l e R s m args below meth c cells slots Q D cl A nL ws lv (pc) (Value.long y :: Value.long x :: st) := fun H L ls hP hD hS hl => W.lcmp K.1.1 K.1.2.1 hd (by rw [hz]; exact (k H L ls hP hD hS hl))
theorem ja_dup (K : jaC p s m args meth c D cl tys cc nL Ts own ret A) {v : Value} (hd : decode cc pc = .ok (.dup, 1)) (hv : v.category = 1) (k : jaW p l e R s m args below meth c cells slots Q D cl A nL ws lv (pc + 1) (v :: v :: st)) : jaW p l e R s m args below meth c cells slots Q D cl A nL ws lv (pc) (v :: st) := fun H L ls hP hD hS hl => lv_dup K.1.1 K.1.2.1 hd hv (k H L ls hP hD hS hl)
theorem ja_pop (K : jaC p s m args meth c D cl tys cc nL Ts own ret A) {v : Value} (hd : decode cc pc = .ok (.pop, 1)) (hv : v.category = 1) (k : jaW p l e R s m args below meth c cells slots Q D cl A nL ws lv (pc + 1) (st)) : jaW p l e R s m args below meth c cells slots Q D cl A nL ws lv (pc) (v :: st) := fun H L ls hP hD hS hl => lv_pop K.1.1 K.1.2.1 hd hv (k H L ls hP hD hS hl)
theorem ja_dup_x1 (K : jaC p s m args meth c D cl tys cc nL Ts own ret A) {v w : Value} (hd : decode cc pc = .ok (.dup_x1, 1)) (hv : v.category = 1) (hw : w.category = 1) (k : jaW p l e R s m args below meth c cells slots Q D cl A nL ws lv (pc + 1) (v :: w :: v :: st)) : jaW p l e R s m args below meth c cells slots Q D cl A nL ws lv (pc) (v :: w :: st) := fun H L ls hP hD hS hl => lv_dup_x1 K.1.1 K.1.2.1 hd hv hw (k H L ls hP hD hS hl)
theorem ja_dup2 (K : jaC p s m args meth c D cl tys cc nL Ts own ret A) {v w : Value} (hd : decode cc pc = .ok (.dup2, 1)) (hv : v.category = 1) (hw : w.category = 1) (k : jaW p l e R s m args below meth c cells slots Q D cl A nL ws lv (pc + 1) (v :: w :: v :: w :: st)) : jaW p l e R s m args below meth c cells slots Q D cl A nL ws lv (pc) (v :: w :: st) := fun H L ls hP hD hS hl => lv_dup2_11 K.1.1 K.1.2.1 hd hv hw (k H L ls hP hD hS hl)
theorem ja_if_eq (K : jaC p s m args meth c D cl tys cc nL Ts own ret A) {x : Int32} {off : Int} {tgt : Nat} (P0 : Prop) (hd : decode cc pc = .ok (.ifCond .eq off, 3)) (ht : (pc : Int) + off = (tgt : Int)) (hP0 : x = 0 ↔ P0) (kt : P0 → jaW p l e R s m args below meth c cells slots Q D cl A nL ws lv (tgt) (st)) (kf : ¬ P0 → jaW p l e R s m args below meth c cells slots Q D cl A nL ws lv (pc + 3) (st)) : jaW p l e R s m args below meth c cells slots Q D cl A nL ws lv (pc) (Value.int x :: st) := fun H L ls hP hD hS hl => lv_if_eq K.1.1 K.1.2.1 hd ht (fun h9 => kt (hP0.mp h9) H L ls hP hD hS hl) (fun h9 => kf (fun h8 => h9 (hP0.mpr h8)) H L ls hP hD hS hl)
theorem ja_if_ne (K : jaC p s m args meth c D cl tys cc nL Ts own ret A) {x : Int32} {off : Int} {tgt : Nat} (P0 : Prop) (hd : decode cc pc = .ok (.ifCond .ne off, 3)) (ht : (pc : Int) + off = (tgt : Int)) (hP0 : ¬ x = 0 ↔ P0) (kt : P0 → jaW p l e R s m args below meth c cells slots Q D cl A nL ws lv (tgt) (st)) (kf : ¬ P0 → jaW p l e R s m args below meth c cells slots Q D cl A nL ws lv (pc + 3) (st)) : jaW p l e R s m args below meth c cells slots Q D cl A nL ws lv (pc) (Value.int x :: st) := fun H L ls hP hD hS hl => lv_if_ne K.1.1 K.1.2.1 hd ht (fun h9 => kt (hP0.mp h9) H L ls hP hD hS hl) (fun h9 => kf (fun h8 => hP0.mpr h8 h9) H L ls hP hD hS hl)
theorem ja_if_lt (K : jaC p s m args meth c D cl tys cc nL Ts own ret A) {x : Int32} {off : Int} {tgt : Nat} (P0 : Prop) (hd : decode cc pc = .ok (.ifCond .lt off, 3)) (ht : (pc : Int) + off = (tgt : Int)) (hP0 : x < 0 ↔ P0) (kt : P0 → jaW p l e R s m args below meth c cells slots Q D cl A nL ws lv (tgt) (st)) (kf : ¬ P0 → jaW p l e R s m args below meth c cells slots Q D cl A nL ws lv (pc + 3) (st)) : jaW p l e R s m args below meth c cells slots Q D cl A nL ws lv (pc) (Value.int x :: st) := fun H L ls hP hD hS hl => lv_if_lt K.1.1 K.1.2.1 hd ht (fun h9 => kt (hP0.mp h9) H L ls hP hD hS hl) (fun h9 => kf (fun h8 => h9 (hP0.mpr h8)) H L ls hP hD hS hl)
theorem ja_if_ge (K : jaC p s m args meth c D cl tys cc nL Ts own ret A) {x : Int32} {off : Int} {tgt : Nat} (P0 : Prop) (hd : decode cc pc = .ok (.ifCond .ge off, 3)) (ht : (pc : Int) + off = (tgt : Int)) (hP0 : 0 ≤ x ↔ P0) (kt : P0 → jaW p l e R s m args below meth c cells slots Q D cl A nL ws lv (tgt) (st)) (kf : ¬ P0 → jaW p l e R s m args below meth c cells slots Q D cl A nL ws lv (pc + 3) (st)) : jaW p l e R s m args below meth c cells slots Q D cl A nL ws lv (pc) (Value.int x :: st) := fun H L ls hP hD hS hl => lv_if_ge K.1.1 K.1.2.1 hd ht (fun h9 => kt (hP0.mp h9) H L ls hP hD hS hl) (fun h9 => kf (fun h8 => h9 (hP0.mpr h8)) H L ls hP hD hS hl)
theorem ja_if_gt (K : jaC p s m args meth c D cl tys cc nL Ts own ret A) {x : Int32} {off : Int} {tgt : Nat} (P0 : Prop) (hd : decode cc pc = .ok (.ifCond .gt off, 3)) (ht : (pc : Int) + off = (tgt : Int)) (hP0 : 0 < x ↔ P0) (kt : P0 → jaW p l e R s m args below meth c cells slots Q D cl A nL ws lv (tgt) (st)) (kf : ¬ P0 → jaW p l e R s m args below meth c cells slots Q D cl A nL ws lv (pc + 3) (st)) : jaW p l e R s m args below meth c cells slots Q D cl A nL ws lv (pc) (Value.int x :: st) := fun H L ls hP hD hS hl => lv_if_gt K.1.1 K.1.2.1 hd ht (fun h9 => kt (hP0.mp h9) H L ls hP hD hS hl) (fun h9 => kf (fun h8 => h9 (hP0.mpr h8)) H L ls hP hD hS hl)
theorem ja_if_le (K : jaC p s m args meth c D cl tys cc nL Ts own ret A) {x : Int32} {off : Int} {tgt : Nat} (P0 : Prop) (hd : decode cc pc = .ok (.ifCond .le off, 3)) (ht : (pc : Int) + off = (tgt : Int)) (hP0 : x ≤ 0 ↔ P0) (kt : P0 → jaW p l e R s m args below meth c cells slots Q D cl A nL ws lv (tgt) (st)) (kf : ¬ P0 → jaW p l e R s m args below meth c cells slots Q D cl A nL ws lv (pc + 3) (st)) : jaW p l e R s m args below meth c cells slots Q D cl A nL ws lv (pc) (Value.int x :: st) := fun H L ls hP hD hS hl => lv_if_le K.1.1 K.1.2.1 hd ht (fun h9 => kt (hP0.mp h9) H L ls hP hD hS hl) (fun h9 => kf (fun h8 => h9 (hP0.mpr h8)) H L ls hP hD hS hl)
theorem ja_icmp_eq (K : jaC p s m args meth c D cl tys cc nL Ts own ret A) {x y : Int32} {off : Int} {tgt : Nat} (P0 : Prop) (hd : decode cc pc = .ok (.if_icmp .eq off, 3)) (ht : (pc : Int) + off = (tgt : Int)) (hP0 : x = y ↔ P0) (kt : P0 → jaW p l e R s m args below meth c cells slots Q D cl A nL ws lv (tgt) (st)) (kf : ¬ P0 → jaW p l e R s m args below meth c cells slots Q D cl A nL ws lv (pc + 3) (st)) : jaW p l e R s m args below meth c cells slots Q D cl A nL ws lv (pc) (Value.int y :: Value.int x :: st) := fun H L ls hP hD hS hl => lv_icmp_eq K.1.1 K.1.2.1 hd ht (fun h9 => kt (hP0.mp h9) H L ls hP hD hS hl) (fun h9 => kf (fun h8 => h9 (hP0.mpr h8)) H L ls hP hD hS hl)
theorem ja_icmp_ne (K : jaC p s m args meth c D cl tys cc nL Ts own ret A) {x y : Int32} {off : Int} {tgt : Nat} (P0 : Prop) (hd : decode cc pc = .ok (.if_icmp .ne off, 3)) (ht : (pc : Int) + off = (tgt : Int)) (hP0 : ¬ x = y ↔ P0) (kt : P0 → jaW p l e R s m args below meth c cells slots Q D cl A nL ws lv (tgt) (st)) (kf : ¬ P0 → jaW p l e R s m args below meth c cells slots Q D cl A nL ws lv (pc + 3) (st)) : jaW p l e R s m args below meth c cells slots Q D cl A nL ws lv (pc) (Value.int y :: Value.int x :: st) := fun H L ls hP hD hS hl => lv_icmp_ne K.1.1 K.1.2.1 hd ht (fun h9 => kt (hP0.mp h9) H L ls hP hD hS hl) (fun h9 => kf (fun h8 => hP0.mpr h8 h9) H L ls hP hD hS hl)
theorem ja_icmp_lt (K : jaC p s m args meth c D cl tys cc nL Ts own ret A) {x y : Int32} {off : Int} {tgt : Nat} (P0 : Prop) (hd : decode cc pc = .ok (.if_icmp .lt off, 3)) (ht : (pc : Int) + off = (tgt : Int)) (hP0 : x < y ↔ P0) (kt : P0 → jaW p l e R s m args below meth c cells slots Q D cl A nL ws lv (tgt) (st)) (kf : ¬ P0 → jaW p l e R s m args below meth c cells slots Q D cl A nL ws lv (pc + 3) (st)) : jaW p l e R s m args below meth c cells slots Q D cl A nL ws lv (pc) (Value.int y :: Value.int x :: st) := fun H L ls hP hD hS hl => lv_icmp_lt K.1.1 K.1.2.1 hd ht (fun h9 => kt (hP0.mp h9) H L ls hP hD hS hl) (fun h9 => kf (fun h8 => h9 (hP0.mpr h8)) H L ls hP hD hS hl)
theorem ja_icmp_ge (K : jaC p s m args meth c D cl tys cc nL Ts own ret A) {x y : Int32} {off : Int} {tgt : Nat} (P0 : Prop) (hd : decode cc pc = .ok (.if_icmp .ge off, 3)) (ht : (pc : Int) + off = (tgt : Int)) (hP0 : y ≤ x ↔ P0) (kt : P0 → jaW p l e R s m args below meth c cells slots Q D cl A nL ws lv (tgt) (st)) (kf : ¬ P0 → jaW p l e R s m args below meth c cells slots Q D cl A nL ws lv (pc + 3) (st)) : jaW p l e R s m args below meth c cells slots Q D cl A nL ws lv (pc) (Value.int y :: Value.int x :: st) := fun H L ls hP hD hS hl => lv_icmp_ge K.1.1 K.1.2.1 hd ht (fun h9 => kt (hP0.mp h9) H L ls hP hD hS hl) (fun h9 => kf (fun h8 => h9 (hP0.mpr h8)) H L ls hP hD hS hl)
theorem ja_icmp_gt (K : jaC p s m args meth c D cl tys cc nL Ts own ret A) {x y : Int32} {off : Int} {tgt : Nat} (P0 : Prop) (hd : decode cc pc = .ok (.if_icmp .gt off, 3)) (ht : (pc : Int) + off = (tgt : Int)) (hP0 : y < x ↔ P0) (kt : P0 → jaW p l e R s m args below meth c cells slots Q D cl A nL ws lv (tgt) (st)) (kf : ¬ P0 → jaW p l e R s m args below meth c cells slots Q D cl A nL ws lv (pc + 3) (st)) : jaW p l e R s m args below meth c cells slots Q D cl A nL ws lv (pc) (Value.int y :: Value.int x :: st) := fun H L ls hP hD hS hl => lv_icmp_gt K.1.1 K.1.2.1 hd ht (fun h9 => kt (hP0.mp h9) H L ls hP hD hS hl) (fun h9 => kf (fun h8 => h9 (hP0.mpr h8)) H L ls hP hD hS hl)
theorem ja_icmp_le (K : jaC p s m args meth c D cl tys cc nL Ts own ret A) {x y : Int32} {off : Int} {tgt : Nat} (P0 : Prop) (hd : decode cc pc = .ok (.if_icmp .le off, 3)) (ht : (pc : Int) + off = (tgt : Int)) (hP0 : x ≤ y ↔ P0) (kt : P0 → jaW p l e R s m args below meth c cells slots Q D cl A nL ws lv (tgt) (st)) (kf : ¬ P0 → jaW p l e R s m args below meth c cells slots Q D cl A nL ws lv (pc + 3) (st)) : jaW p l e R s m args below meth c cells slots Q D cl A nL ws lv (pc) (Value.int y :: Value.int x :: st) := fun H L ls hP hD hS hl => lv_icmp_le K.1.1 K.1.2.1 hd ht (fun h9 => kt (hP0.mp h9) H L ls hP hD hS hl) (fun h9 => kf (fun h8 => h9 (hP0.mpr h8)) H L ls hP hD hS hl)
theorem ja_goto (K : jaC p s m args meth c D cl tys cc nL Ts own ret A) {off : Int} {tgt : Nat} (hd : decode cc pc = .ok (.goto off, 3)) (ht : (pc : Int) + off = (tgt : Int)) (k : jaW p l e R s m args below meth c cells slots Q D cl A nL ws lv (tgt) (st)) : jaW p l e R s m args below meth c cells slots Q D cl A nL ws lv (pc) (st) := fun H L ls hP hD hS hl => lv_goto K.1.1 K.1.2.1 hd ht (k H L ls hP hD hS hl)
theorem ja_tableIn (K : jaC p s m args meth c D cl tys cc nL Ts own ret A) {dflt lo hi : Int} {offs : Array Int} {len : Nat} {x : Int32} {off : Int} {tgt : Nat} (hd : decode cc pc = .ok (.tableswitch dflt lo hi offs, len)) (h1 : ¬ x.toInt < lo) (h2 : ¬ hi < x.toInt) (ho : offs[(x.toInt - lo).toNat]? = some off) (ht : (pc : Int) + off = (tgt : Int)) (k : jaW p l e R s m args below meth c cells slots Q D cl A nL ws lv (tgt) (st)) : jaW p l e R s m args below meth c cells slots Q D cl A nL ws lv (pc) (Value.int x :: st) := fun H L ls hP hD hS hl => lv_tableIn K.1.1 K.1.2.1 hd h1 h2 ho ht (k H L ls hP hD hS hl)
theorem ja_tableOut (K : jaC p s m args meth c D cl tys cc nL Ts own ret A) {dflt lo hi : Int} {offs : Array Int} {len : Nat} {x : Int32} {tgt : Nat} (hd : decode cc pc = .ok (.tableswitch dflt lo hi offs, len)) (h1 : x.toInt < lo ∨ hi < x.toInt) (ht : (pc : Int) + dflt = (tgt : Int)) (k : jaW p l e R s m args below meth c cells slots Q D cl A nL ws lv (tgt) (st)) : jaW p l e R s m args below meth c cells slots Q D cl A nL ws lv (pc) (Value.int x :: st) := fun H L ls hP hD hS hl => lv_tableOut K.1.1 K.1.2.1 hd h1 ht (k H L ls hP hD hS hl)
theorem ja_get (K : jaC p s m args meth c D cl tys cc nL Ts own ret A) {ref C : String} {T : u_T} {N ci index a : Nat} {fs : List Value} (hin : ∀ w ∈ u_ws C T N, w ∈ Ts) (q0 : Nat) (he : ws[q0]? = some (a, .inr (ci, fs))) (hc : cl[ci]? = some (C, T, N)) (k0 : Nat) (hk : k0 < N) (hlink : Cond.fieldLink own index ref (T k0).2.1 (T k0).2.2.1 ∈ Ts) (hsame : (T k0).1 = ref) {v : Value} (hv : fs[k0]? = some v) (hd : decode cc pc = .ok (.getfield index, 3)) (k : jaW p l e R s m args below meth c cells slots Q D cl A nL ws lv (pc + 3) (v :: st)) : jaW p l e R s m args below meth c cells slots Q D cl A nL ws lv (pc) (Value.ref a :: st) := fun H L ls hP hD hS hl => va_get K.1.1 K.1.2.1 K.1.2.2.2.2 hin K.1.2.2.2.1 K.2.1 hP q0 he hc k0 hk (K.1.2.2.2.2 _ hlink) (fun _ h9 => hsame ▸ h9) hv hd (k H L ls hP hD hS hl)
theorem ja_put (K : jaC p s m args meth c D cl tys cc nL Ts own ret A) {ref C : String} {T : u_T} {N ci index a : Nat} {fs : List Value} (hin : ∀ w ∈ u_ws C T N, w ∈ Ts) (q0 : Nat) (he : ws[q0]? = some (a, .inr (ci, fs))) (hc : cl[ci]? = some (C, T, N)) (k0 : Nat) (hk : k0 < N) (hlink : Cond.fieldLink own index ref (T k0).2.1 (T k0).2.2.1 ∈ Ts) (hsame : (T k0).1 = ref) (ty0 : Nat → FieldType) (hty : ∀ k, k < N → parseFieldDescriptor (T k).2.2.1 = some (ty0 k)) (hnm : ∀ a, a < N → ∀ b, b < N → a ≠ b → (T a).2.1 ≠ (T b).2.1) (hfin : (T k0).2.2.2 = false) {ty : FieldType} {v : Value} {ws1 : va_W} (hd0 : parseFieldDescriptor (T k0).2.2.1 = some ty) (hn : narrow ty v = v) (hfit : fits ty v = true) (hl0 : k0 < fs.length) (hd : decode cc pc = .ok (.putfield index, 3)) (hw : ws.set q0 (a, .inr (ci, fs.set k0 v)) = ws1) (k : jaW p l e R s m args below meth c cells slots Q D cl A nL ws1 lv (pc + 3) (st)) : jaW p l e R s m args below meth c cells slots Q D cl A nL ws lv (pc) (v :: Value.ref a :: st) := fun H L ls hP hD hS hl => va_put K.1.1 K.1.2.1 K.1.2.2.2.2 hin ty0 hty hnm K.1.2.2.2.1 K.2.1 hP hD hS q0 he hc k0 hk (K.1.2.2.2.2 _ hlink) (fun _ h9 => hsame ▸ h9) hfin hd0 hn hfit hl0 hd (fun H1 L1 hP1 hD1 hS1 => k H1 L1 ls (hw ▸ hP1) (hw ▸ hD1) hS1 hl)
theorem ja_putF (K : jaC p s m args meth c D cl tys cc nL Ts own ret A) {ref C : String} {T : u_T} {N ci index a : Nat} {fs : List Value} (hin : ∀ w ∈ u_ws C T N, w ∈ Ts) (q0 : Nat) (he : ws[q0]? = some (a, .inr (ci, fs))) (hc : cl[ci]? = some (C, T, N)) (k0 : Nat) (hk : k0 < N) (hlink : Cond.fieldLink own index ref (T k0).2.1 (T k0).2.2.1 ∈ Ts) (hsame : (T k0).1 = ref) (ty0 : Nat → FieldType) (hty : ∀ k, k < N → parseFieldDescriptor (T k).2.2.1 = some (ty0 k)) (hnm : ∀ a, a < N → ∀ b, b < N → a ≠ b → (T a).2.1 ≠ (T b).2.1) (hfin : (T k0).2.2.2 = true) (hin2 : meth.name = "<init>") (hdecl : (T k0).1 = own) {ty : FieldType} {v : Value} {ws1 : va_W} (hd0 : parseFieldDescriptor (T k0).2.2.1 = some ty) (hn : narrow ty v = v) (hfit : fits ty v = true) (hl0 : k0 < fs.length) (hd : decode cc pc = .ok (.putfield index, 3)) (hw : ws.set q0 (a, .inr (ci, fs.set k0 v)) = ws1) (k : jaW p l e R s m args below meth c cells slots Q D cl A nL ws1 lv (pc + 3) (st)) : jaW p l e R s m args below meth c cells slots Q D cl A nL ws lv (pc) (v :: Value.ref a :: st) := fun H L ls hP hD hS hl => va_putF K.1.1 K.1.2.1 K.1.2.2.2.2 hin ty0 hty hnm K.1.2.2.2.1 K.2.1 hP hD hS q0 he hc k0 hk (K.1.2.2.2.2 _ hlink) (fun _ h9 => hsame ▸ h9) hfin hin2 hdecl hd0 hn hfit hl0 hd (fun H1 L1 hP1 hD1 hS1 => k H1 L1 ls (hw ▸ hP1) (hw ▸ hD1) hS1 hl)
theorem ja_in {i : Int32} {j n : Nat} (hi : i = nI j) (hj : j < n) (hn : n < 2 ^ 31) : vp_in i n ∧ i.toNatClampNeg = j := by
  subst hi
  exact ⟨vp_in_nI hj hn, nI_clamp (Nat.lt_trans hj hn)⟩
theorem ja_iald (K : jaC p s m args meth c D cl tys cc nL Ts own ret A) (q0 t0 : Nat) {a : Nat} {cA : ClassId} {n : Nat} {f : Nat → Int32} (he : ws[q0]? = some (a, .inl (cA, n, .inl f))) (ht : tys[t0]? = some (cA, .int)) (j : Nat) {i : Int32} {v : Int32} (hi : i = nI j) (hj : j < n) (hn : n < 2 ^ 31) (hv : f j = v) (hd : decode cc pc = .ok (.iaload, 1)) (k : jaW p l e R s m args below meth c cells slots Q D cl A nL ws lv (pc + 1) (Value.int v :: st)) : jaW p l e R s m args below meth c cells slots Q D cl A nL ws lv (pc) (Value.int i :: Value.ref a :: st) := fun H L ls hP hD hS hl => va_iald K.1.1 K.1.2.1 K.2.1 hP q0 t0 he ht (ja_in hi hj hn).1 hd (by rw [(ja_in hi hj hn).2, hv]; exact (k H L ls hP hD hS hl))
theorem ja_zald (K : jaC p s m args meth c D cl tys cc nL Ts own ret A) (q0 t0 : Nat) {a : Nat} {cA : ClassId} {n : Nat} {f : Nat → Int32} (he : ws[q0]? = some (a, .inl (cA, n, .inl f))) (ht : tys[t0]? = some (cA, .boolean)) (j : Nat) {i : Int32} {v : Int32} (hi : i = nI j) (hj : j < n) (hn : n < 2 ^ 31) (hv : f j = v) (hd : decode cc pc = .ok (.baload, 1)) (k : jaW p l e R s m args below meth c cells slots Q D cl A nL ws lv (pc + 1) (Value.int v :: st)) : jaW p l e R s m args below meth c cells slots Q D cl A nL ws lv (pc) (Value.int i :: Value.ref a :: st) := fun H L ls hP hD hS hl => va_zald K.1.1 K.1.2.1 K.2.1 hP q0 t0 he ht (ja_in hi hj hn).1 hd (by rw [(ja_in hi hj hn).2, hv]; exact (k H L ls hP hD hS hl))
theorem ja_lald (K : jaC p s m args meth c D cl tys cc nL Ts own ret A) (q0 t0 : Nat) {a : Nat} {cA : ClassId} {n : Nat} {f : Nat → Int64} (he : ws[q0]? = some (a, .inl (cA, n, .inr (.inl f)))) (ht : tys[t0]? = some (cA, .long)) (j : Nat) {i : Int32} {v : Int64} (hi : i = nI j) (hj : j < n) (hn : n < 2 ^ 31) (hv : f j = v) (hd : decode cc pc = .ok (.laload, 1)) (k : jaW p l e R s m args below meth c cells slots Q D cl A nL ws lv (pc + 1) (Value.long v :: st)) : jaW p l e R s m args below meth c cells slots Q D cl A nL ws lv (pc) (Value.int i :: Value.ref a :: st) := fun H L ls hP hD hS hl => va_lald K.1.1 K.1.2.1 K.2.1 hP q0 t0 he ht (ja_in hi hj hn).1 hd (by rw [(ja_in hi hj hn).2, hv]; exact (k H L ls hP hD hS hl))
theorem ja_iast (K : jaC p s m args meth c D cl tys cc nL Ts own ret A) (q0 t0 : Nat) {a : Nat} {cA : ClassId} {n : Nat} {f : Nat → Int32} (he : ws[q0]? = some (a, .inl (cA, n, .inl f))) (ht : tys[t0]? = some (cA, .int)) (j : Nat) {i x : Int32} {ws1 : va_W} (hi : i = nI j) (hj : j < n) (hn : n < 2 ^ 31) (hd : decode cc pc = .ok (.iastore, 1)) (hw : ws.set q0 (a, .inl (cA, n, .inl (upd f j x))) = ws1) (k : jaW p l e R s m args below meth c cells slots Q D cl A nL ws1 lv (pc + 1) (st)) : jaW p l e R s m args below meth c cells slots Q D cl A nL ws lv (pc) (Value.int x :: Value.int i :: Value.ref a :: st) := fun H L ls hP hD hS hl => va_iast K.1.1 K.1.2.1 K.2.1 hP hD hS q0 t0 he ht (ja_in hi hj hn).1 hd (by rw [(ja_in hi hj hn).2, hw]; exact fun H1 L1 hP1 hD1 hS1 => k H1 L1 ls hP1 hD1 hS1 hl)
theorem ja_zast (K : jaC p s m args meth c D cl tys cc nL Ts own ret A) (q0 t0 : Nat) {a : Nat} {cA : ClassId} {n : Nat} {f : Nat → Int32} (he : ws[q0]? = some (a, .inl (cA, n, .inl f))) (ht : tys[t0]? = some (cA, .boolean)) (j : Nat) {i x : Int32} {ws1 : va_W} (hx : vp_nar .boolean x = x) (hi : i = nI j) (hj : j < n) (hn : n < 2 ^ 31) (hd : decode cc pc = .ok (.bastore, 1)) (hw : ws.set q0 (a, .inl (cA, n, .inl (upd f j x))) = ws1) (k : jaW p l e R s m args below meth c cells slots Q D cl A nL ws1 lv (pc + 1) (st)) : jaW p l e R s m args below meth c cells slots Q D cl A nL ws lv (pc) (Value.int x :: Value.int i :: Value.ref a :: st) := fun H L ls hP hD hS hl => va_zast K.1.1 K.1.2.1 K.2.1 hP hD hS q0 t0 he ht (ja_in hi hj hn).1 hd (by rw [(ja_in hi hj hn).2, hx, hw]; exact fun H1 L1 hP1 hD1 hS1 => k H1 L1 ls hP1 hD1 hS1 hl)
theorem ja_last (K : jaC p s m args meth c D cl tys cc nL Ts own ret A) (q0 t0 : Nat) {a : Nat} {cA : ClassId} {n : Nat} {f : Nat → Int64} (he : ws[q0]? = some (a, .inl (cA, n, .inr (.inl f)))) (ht : tys[t0]? = some (cA, .long)) (j : Nat) {i : Int32} {x : Int64} {ws1 : va_W} (hi : i = nI j) (hj : j < n) (hn : n < 2 ^ 31) (hd : decode cc pc = .ok (.lastore, 1)) (hw : ws.set q0 (a, .inl (cA, n, .inr (.inl (vp_updL f j x)))) = ws1) (k : jaW p l e R s m args below meth c cells slots Q D cl A nL ws1 lv (pc + 1) (st)) : jaW p l e R s m args below meth c cells slots Q D cl A nL ws lv (pc) (Value.long x :: Value.int i :: Value.ref a :: st) := fun H L ls hP hD hS hl => va_last K.1.1 K.1.2.1 K.2.1 hP hD hS q0 t0 he ht (ja_in hi hj hn).1 hd (by rw [(ja_in hi hj hn).2, hw]; exact fun H1 L1 hP1 hD1 hS1 => k H1 L1 ls hP1 hD1 hS1 hl)
theorem ja_alen (K : jaC p s m args meth c D cl tys cc nL Ts own ret A) (q0 t0 : Nat) {a : Nat} {cA : ClassId} {x : vp_A} {ty : FieldType} (he : ws[q0]? = some (a, .inl (cA, x))) (ht : tys[t0]? = some (cA, ty)) (hd : decode cc pc = .ok (.arraylength, 1)) (k : jaW p l e R s m args below meth c cells slots Q D cl A nL ws lv (pc + 1) (Value.int (nI x.1) :: st)) : jaW p l e R s m args below meth c cells slots Q D cl A nL ws lv (pc) (Value.ref a :: st) := fun H L ls hP hD hS hl => va_alen K.1.1 K.1.2.1 K.2.1 hP q0 t0 he ht rfl hd (k H L ls hP hD hS hl)
theorem ja_world {ws1 : va_W} (h : ws = ws1) (k : jaW p l e R s m args below meth c cells slots Q D cl A nL ws1 lv (pc) (st)) : jaW p l e R s m args below meth c cells slots Q D cl A nL ws lv (pc) (st) := h ▸ k
theorem ja_pc {pc1 : Nat} (h : pc = pc1) (k : jaW p l e R s m args below meth c cells slots Q D cl A nL ws lv (pc1) (st)) : jaW p l e R s m args below meth c cells slots Q D cl A nL ws lv (pc) (st) := h ▸ k
theorem ja_widen {k1 n1 : Nat} (h1 : cells ≤ k1) (h2 : slots ≤ n1) (k : jaW p l e R s m args below meth c k1 n1 Q D cl A nL ws lv (pc) (st)) : jaW p l e R s m args below meth c cells slots Q D cl A nL ws lv (pc) (st) := fun H L ls hP hD hS hl => W.widen h1 h2 (k H L ls hP hD hS hl)
/-- what a method starts from, and what it leaves: the cells ws, the tables, the cells apart -/
def jkP (D : va_G) (cl : List vw_C) (tys : List (ClassId × FieldType)) (ws : va_W) (sz : Nat) : State → Prop := fun U => U.heap.size = sz ∧ va_P D cl ws U.heap ∧ va_K D cl tys U ∧ va_D (fun _ => True) ws
def jkA {S : Type} (D : va_G) (cl : List vw_C) (tys : List (ClassId × FieldType)) (A : Nat → Prop) (cf : S → va_W) : S → State → Prop := fun u t => va_P D cl (cf u) t.heap ∧ va_K D cl tys t ∧ va_D A (cf u)
/-- a contract: an int answer, no exception -/
def jkI {S : Type} (l : Launch) (y : MethodName) (wm : List Cond) (rm : Room) (D : va_G) (cl : List vw_C) (tys : List (ClassId × FieldType)) (cf : S → va_W) (av : List Value) (w0 : va_W) (post : Int32 → S → Prop) : Prop :=
  ∀ sz : Nat, Met l y wm rm (va_Pc av (jkP D cl tys w0 sz)) (va_Qi post (jkA D cl tys (va_A w0 sz) cf) (va_A w0 sz)) rm.cells rm.slots (va_A w0 sz)
def jkV {S : Type} (l : Launch) (y : MethodName) (wm : List Cond) (rm : Room) (D : va_G) (cl : List vw_C) (tys : List (ClassId × FieldType)) (cf : S → va_W) (av : List Value) (w0 : va_W) (post : S → Prop) : Prop :=
  ∀ sz : Nat, Met l y wm rm (va_Pc av (jkP D cl tys w0 sz)) (va_Qv post (jkA D cl tys (va_A w0 sz) cf) (va_A w0 sz)) rm.cells rm.slots (va_A w0 sz)
theorem jk_blind (D : va_G) (cl : List vw_C) (tys : List (ClassId × FieldType)) (av : List Value) (ws : va_W) (sz : Nat) : FrameBlind (va_Pc av (jkP D cl tys ws sz)) := fun a U g mk q => by
  obtain ⟨q0, q1, qP, qK, qD⟩ := q
  exact ⟨q0, q1, qP, va_K.moved (u := U) (U := U.calling g mk a) (Vm.Alike.refl U.vm) qK, qD⟩
theorem jk_freeAll {A : Nat → Prop} {ws : va_W} {H0 H : Heap} {locs : List Loc} (hD : va_D A ws) (hS : va_S A H0 H locs) (hA : ∀ q : Nat, H0.size ≤ q → A q) : ∀ q, va_A ws H.size q → A q := fun q h => by
  rcases h with ⟨k, e, hk⟩ | h
  · exact hD.2 k (q, e) hk
  · exact hA q (Nat.le_trans hS.1 h)
theorem jkI_of {S : Type} {l : Launch} {y : MethodName} {wm wm' : List Cond} {rm : Room} {D : va_G} {cl : List vw_C} {tys : List (ClassId × FieldType)} {cf : S → va_W} {av : List Value} {w0 : va_W} {post : Int32 → S → Prop} {cc : ByteArray} {maxL : Nat} {ret : Option FieldType} (hy : plainName y.cls = true) (hw : wm = Cond.code y cc maxL ret :: wm') (hav : (lg_sl av).length ≤ maxL)
    (body : ∀ (p : Program) (e : Env) (R : Room) (s : State) (m : MethodId) (args : Array Value) (below : List Frame) (meth : Method) (c : Code) (Q : State → Prop) (A : Nat → Prop), jaC p s m args meth c D cl tys cc maxL wm y.cls ret A → meth.name = y.name → R = rm → Q = MQ below (va_Qi post (jkA D cl tys A cf) A) args s rm.cells rm.slots A →
      jaW p l e R s m args below meth c 0 0 Q D cl A maxL w0 (lv_args 0 av) 0 []) : jkI l y wm rm D cl tys cf av w0 post := by
  intro sz
  refine Met.ofW (cc := cc) (maxL := maxL) (ret := ret) hy hw ?_
  intro p e s m args below meth c s₁ B hml hv
  obtain ⟨rfl, hsz, hP, hK, hD0⟩ := hv
  subst hsz
  rw [lg_entry_eq]
  exact body p e (headSpec wm rm).room s m av.toArray below meth c _ (va_A w0 s.heap.size) ⟨⟨B.exec, B.bytes, hml, findClass_of_methodNamed B.named, atoms_spec (ws := wm) B.pre⟩, hK, fun q h => Or.inr h, B.returns, B.notSynchronized⟩ (name_of_methodNamed B.named B.method).1 rfl rfl s.heap [] _ hP (hD0.self) va_S.rf (lv_entry av hav)
theorem jkV_of {S : Type} {l : Launch} {y : MethodName} {wm wm' : List Cond} {rm : Room} {D : va_G} {cl : List vw_C} {tys : List (ClassId × FieldType)} {cf : S → va_W} {av : List Value} {w0 : va_W} {post : S → Prop} {cc : ByteArray} {maxL : Nat} {ret : Option FieldType} (hy : plainName y.cls = true) (hw : wm = Cond.code y cc maxL ret :: wm') (hav : (lg_sl av).length ≤ maxL)
    (body : ∀ (p : Program) (e : Env) (R : Room) (s : State) (m : MethodId) (args : Array Value) (below : List Frame) (meth : Method) (c : Code) (Q : State → Prop) (A : Nat → Prop), jaC p s m args meth c D cl tys cc maxL wm y.cls ret A → meth.name = y.name → R = rm → Q = MQ below (va_Qv post (jkA D cl tys A cf) A) args s rm.cells rm.slots A →
      jaW p l e R s m args below meth c 0 0 Q D cl A maxL w0 (lv_args 0 av) 0 []) : jkV l y wm rm D cl tys cf av w0 post := by
  intro sz
  refine Met.ofW (cc := cc) (maxL := maxL) (ret := ret) hy hw ?_
  intro p e s m args below meth c s₁ B hml hv
  obtain ⟨rfl, hsz, hP, hK, hD0⟩ := hv
  subst hsz
  rw [lg_entry_eq]
  exact body p e (headSpec wm rm).room s m av.toArray below meth c _ (va_A w0 s.heap.size) ⟨⟨B.exec, B.bytes, hml, findClass_of_methodNamed B.named, atoms_spec (ws := wm) B.pre⟩, hK, fun q h => Or.inr h, B.returns, B.notSynchronized⟩ (name_of_methodNamed B.named B.method).1 rfl rfl s.heap [] _ hP (hD0.self) va_S.rf (lv_entry av hav)
theorem ja_iret (K : jaC p s m args meth c D cl tys cc nL Ts own ret A) {S : Type} {cf : S → va_W} {post : Int32 → S → Prop} {mc ms : Nat} {v : Int32} (u : S) (hret : ret = some .int) (hc : cells ≤ mc) (hs : slots ≤ ms) (hd : decode cc pc = .ok (.ireturn, 1)) (hQ : Q = MQ below (va_Qi post (jkA D cl tys A cf) A) args s mc ms A) (hw : ws = cf u) (hp : post v u) : jaW p l e R s m args below meth c cells slots Q D cl A nL ws lv pc [Value.int v] := by
  subst hQ
  subst hw
  subst hret
  intro H L ls hP hD hS hl
  refine W.widen hc hs ?_
  exact W.iret (v := v) K.1.1 K.1.2.1 K.2.2.2.1 (fun t ht hW => ⟨⟨v, u, rfl, hp, by rw [ht]; exact hP, va_K.moved hW.alike K.2.1, hD⟩, hS.F ht⟩) hS.2.2 hd K.2.2.2.2
theorem ja_zret (K : jaC p s m args meth c D cl tys cc nL Ts own ret A) {S : Type} {cf : S → va_W} {post : Int32 → S → Prop} {mc ms : Nat} {v : Int32} {ty : FieldType} (u : S) (hret : ret = some ty) (hn : narrow ty (.int v) = .int v) (hc : cells ≤ mc) (hs : slots ≤ ms) (hd : decode cc pc = .ok (.ireturn, 1)) (hQ : Q = MQ below (va_Qi post (jkA D cl tys A cf) A) args s mc ms A) (hw : ws = cf u) (hp : post v u) : jaW p l e R s m args below meth c cells slots Q D cl A nL ws lv pc [Value.int v] := by
  subst hQ
  subst hw
  subst hret
  intro H L ls hP hD hS hl
  refine W.widen hc hs ?_
  exact W.zret (v := v) K.1.1 K.1.2.1 K.2.2.2.1 hn (fun t ht hW => ⟨⟨v, u, rfl, hp, by rw [ht]; exact hP, va_K.moved hW.alike K.2.1, hD⟩, hS.F ht⟩) hS.2.2 hd K.2.2.2.2
theorem ja_vret (K : jaC p s m args meth c D cl tys cc nL Ts own ret A) {S : Type} {cf : S → va_W} {post : S → Prop} {mc ms : Nat} (u : S) (hret : ret = none) (hc : cells ≤ mc) (hs : slots ≤ ms) (hd : decode cc pc = .ok (.return_, 1)) (hQ : Q = MQ below (va_Qv post (jkA D cl tys A cf) A) args s mc ms A) (hw : ws = cf u) (hp : post u) : jaW p l e R s m args below meth c cells slots Q D cl A nL ws lv pc [] := by
  subst hQ
  subst hw
  subst hret
  intro H L ls hP hD hS hl
  refine W.widen hc hs ?_
  exact W.vret K.1.1 K.1.2.1 K.2.2.2.1 (fun t ht hW => ⟨⟨u, rfl, hp, by rw [ht]; exact hP, va_K.moved hW.alike K.2.1, hD⟩, hS.F ht⟩) hS.2.2 hd K.2.2.2.2
theorem ja_callVI (K : jaC p s m args meth c D cl tys cc nL Ts own ret A) {S : Type} {y : MethodName} {wm : List Cond} {rm : Room} {cf : S → va_W} {av : List Value} {post : Int32 → S → Prop} {index n maxL : Nat} {bytes : ByteArray} {rt : Option FieldType} {st0 : List Value} {b q0 ci : Nat} {fs : List Value} {qc : vw_C} (As : List Value) (hM : jkI l y wm rm D cl tys cf av ws post) (cw : CallW R s args own qc.1 index y bytes maxL rt wm rm rm.cells rm.slots n) (he : ws[q0]? = some (b, .inr (ci, fs))) (hc : cl[ci]? = some qc) (hav : (Value.ref b :: As).toArray = av.toArray) (hn : As.length = n) (hs0 : st0 = As.reverse ++ Value.ref b :: st) (hst : (st.map fun v => v.category).sum ≤ 8) (hd : decode cc pc = .ok (.invokevirtual index, 3)) (hf : cells + rm.cells ≤ R.cells ∧ slots + rm.slots ≤ R.slots) (k : ∀ (r : Int32) (u : S), post r u → jaW p l e R s m args below meth c (cells + rm.cells) (slots + rm.slots) Q D cl A nL (cf u) lv (pc + 3) (Value.int r :: st)) : jaW p l e R s m args below meth c cells slots Q D cl A nL ws lv (pc) (st0) := by
  intro H L ls hP hD hS hl
  exact va_calli (va_runV (g := F0 m pc ls st0) K.1 (hM H.size) cw ⟨jk_blind _ _ _ _ _ _, va_recv K.2.1 hP hc he, fun U hU hW => ⟨hav, by rw [hU], by rw [hU]; exact hP, va_K.moved hW.alike K.2.1, hD.weaken (fun _ _ _ _ => trivial)⟩⟩ rfl hn hl.1 hs0 (lv_room hst) hd hf) hS (fun q _ h => jk_freeAll hD hS K.2.2.1 q h) (jk_freeAll hD hS K.2.2.1) (fun r u t H1 L1 ht hvm hw hB hz hk1 hS1 => k r u hw H1 L1 ls (ht ▸ hB.1) (hB.2.2.weaken (fun _ _ _ h9 => jk_freeAll hD hS K.2.2.1 _ h9)) hS1 hl)
theorem ja_callSI (K : jaC p s m args meth c D cl tys cc nL Ts own ret A) {S : Type} {y : MethodName} {wm : List Cond} {rm : Room} {cf : S → va_W} {av : List Value} {post : Int32 → S → Prop} {index n maxL : Nat} {bytes : ByteArray} {rt : Option FieldType} {st0 : List Value} (As : List Value) (hM : jkI l y wm rm D cl tys cf av ws post) (cw : CallB R s args own index y bytes maxL rt wm rm rm.cells rm.slots n ∧ (Cond.static y).before args s = true) (hav : As.toArray = av.toArray) (hn : As.length = n) (hs0 : st0 = As.reverse ++ st) (hst : (st.map fun v => v.category).sum ≤ 8) (hd : decode cc pc = .ok (.invokestatic index, 3)) (hf : cells + rm.cells ≤ R.cells ∧ slots + rm.slots ≤ R.slots) (k : ∀ (r : Int32) (u : S), post r u → jaW p l e R s m args below meth c (cells + rm.cells) (slots + rm.slots) Q D cl A nL (cf u) lv (pc + 3) (Value.int r :: st)) : jaW p l e R s m args below meth c cells slots Q D cl A nL ws lv (pc) (st0) := by
  intro H L ls hP hD hS hl
  exact va_calli (va_runS (g := F0 m pc ls st0) K.1 (hM H.size) cw ⟨jk_blind _ _ _ _ _ _, fun U hU hW => ⟨hav, by rw [hU], by rw [hU]; exact hP, va_K.moved hW.alike K.2.1, hD.weaken (fun _ _ _ _ => trivial)⟩⟩ rfl hn hl.1 hs0 (lv_room hst) hd hf) hS (fun q _ h => jk_freeAll hD hS K.2.2.1 q h) (jk_freeAll hD hS K.2.2.1) (fun r u t H1 L1 ht hvm hw hB hz hk1 hS1 => k r u hw H1 L1 ls (ht ▸ hB.1) (hB.2.2.weaken (fun _ _ _ h9 => jk_freeAll hD hS K.2.2.1 _ h9)) hS1 hl)
theorem ja_callVV (K : jaC p s m args meth c D cl tys cc nL Ts own ret A) {S : Type} {y : MethodName} {wm : List Cond} {rm : Room} {cf : S → va_W} {av : List Value} {post : S → Prop} {index n maxL : Nat} {bytes : ByteArray} {rt : Option FieldType} {st0 : List Value} {b q0 ci : Nat} {fs : List Value} {qc : vw_C} (As : List Value) (hM : jkV l y wm rm D cl tys cf av ws post) (cw : CallW R s args own qc.1 index y bytes maxL rt wm rm rm.cells rm.slots n) (he : ws[q0]? = some (b, .inr (ci, fs))) (hc : cl[ci]? = some qc) (hav : (Value.ref b :: As).toArray = av.toArray) (hn : As.length = n) (hs0 : st0 = As.reverse ++ Value.ref b :: st) (hst : (st.map fun v => v.category).sum ≤ 8) (hd : decode cc pc = .ok (.invokevirtual index, 3)) (hf : cells + rm.cells ≤ R.cells ∧ slots + rm.slots ≤ R.slots) (k : ∀ (u : S), post u → jaW p l e R s m args below meth c (cells + rm.cells) (slots + rm.slots) Q D cl A nL (cf u) lv (pc + 3) (st)) : jaW p l e R s m args below meth c cells slots Q D cl A nL ws lv (pc) (st0) := by
  intro H L ls hP hD hS hl
  exact va_callv (va_runV (g := F0 m pc ls st0) K.1 (hM H.size) cw ⟨jk_blind _ _ _ _ _ _, va_recv K.2.1 hP hc he, fun U hU hW => ⟨hav, by rw [hU], by rw [hU]; exact hP, va_K.moved hW.alike K.2.1, hD.weaken (fun _ _ _ _ => trivial)⟩⟩ rfl hn hl.1 hs0 (lv_room hst) hd hf) hS (fun q _ h => jk_freeAll hD hS K.2.2.1 q h) (jk_freeAll hD hS K.2.2.1) (fun u t H1 L1 ht hvm hw hB hz hk1 hS1 => k u hw H1 L1 ls (ht ▸ hB.1) (hB.2.2.weaken (fun _ _ _ h9 => jk_freeAll hD hS K.2.2.1 _ h9)) hS1 hl)
theorem ja_callSV (K : jaC p s m args meth c D cl tys cc nL Ts own ret A) {S : Type} {y : MethodName} {wm : List Cond} {rm : Room} {cf : S → va_W} {av : List Value} {post : S → Prop} {index n maxL : Nat} {bytes : ByteArray} {rt : Option FieldType} {st0 : List Value} (As : List Value) (hM : jkV l y wm rm D cl tys cf av ws post) (cw : CallB R s args own index y bytes maxL rt wm rm rm.cells rm.slots n ∧ (Cond.static y).before args s = true) (hav : As.toArray = av.toArray) (hn : As.length = n) (hs0 : st0 = As.reverse ++ st) (hst : (st.map fun v => v.category).sum ≤ 8) (hd : decode cc pc = .ok (.invokestatic index, 3)) (hf : cells + rm.cells ≤ R.cells ∧ slots + rm.slots ≤ R.slots) (k : ∀ (u : S), post u → jaW p l e R s m args below meth c (cells + rm.cells) (slots + rm.slots) Q D cl A nL (cf u) lv (pc + 3) (st)) : jaW p l e R s m args below meth c cells slots Q D cl A nL ws lv (pc) (st0) := by
  intro H L ls hP hD hS hl
  exact va_callv (va_runS (g := F0 m pc ls st0) K.1 (hM H.size) cw ⟨jk_blind _ _ _ _ _ _, fun U hU hW => ⟨hav, by rw [hU], by rw [hU]; exact hP, va_K.moved hW.alike K.2.1, hD.weaken (fun _ _ _ _ => trivial)⟩⟩ rfl hn hl.1 hs0 (lv_room hst) hd hf) hS (fun q _ h => jk_freeAll hD hS K.2.2.1 q h) (jk_freeAll hD hS K.2.2.1) (fun u t H1 L1 ht hvm hw hB hz hk1 hS1 => k u hw H1 L1 ls (ht ▸ hB.1) (hB.2.2.weaken (fun _ _ _ h9 => jk_freeAll hD hS K.2.2.1 _ h9)) hS1 hl)
end JA
/-- loops: a measure that falls -/
theorem jl_1 {A1 : Type} (μ : A1 → Nat) (I G : A1 → Prop) (h : ∀ a, I a → (∀ b, I b → μ b < μ a → G b) → G a) : ∀ a, I a → G a := by
  have key : ∀ n a, μ a < n → I a → G a := by
    intro n
    induction n with
    | zero => intro a h0; omega
    | succ n ih => exact fun a hn hi => h a hi (fun b hb hm => ih b (by omega) hb)
  exact fun a hi => key (μ a + 1) a (Nat.lt_succ_self _) hi
theorem jl_2 {A1 A2 : Type} (μ : A1 → A2 → Nat) (I G : A1 → A2 → Prop) (h : ∀ a1 a2, I a1 a2 → (∀ b1 b2, I b1 b2 → μ b1 b2 < μ a1 a2 → G b1 b2) → G a1 a2) : ∀ a1 a2, I a1 a2 → G a1 a2 := fun a1 a2 hi =>
  jl_1 (A1 := A1 × A2) (fun a => μ a.1 a.2) (fun a => I a.1 a.2) (fun a => G a.1 a.2) (fun a ha k => h a.1 a.2 ha (fun b1 b2 hb hm => k (b1, b2) hb hm)) (a1, a2) hi
theorem jl_3 {A1 A2 A3 : Type} (μ : A1 → A2 → A3 → Nat) (I G : A1 → A2 → A3 → Prop) (h : ∀ a1 a2 a3, I a1 a2 a3 → (∀ b1 b2 b3, I b1 b2 b3 → μ b1 b2 b3 < μ a1 a2 a3 → G b1 b2 b3) → G a1 a2 a3) : ∀ a1 a2 a3, I a1 a2 a3 → G a1 a2 a3 := fun a1 a2 a3 hi =>
  jl_1 (A1 := A1 × A2 × A3) (fun a => μ a.1 a.2.1 a.2.2) (fun a => I a.1 a.2.1 a.2.2) (fun a => G a.1 a.2.1 a.2.2) (fun a ha k => h a.1 a.2.1 a.2.2 ha (fun b1 b2 b3 hb hm => k (b1, b2, b3) hb hm)) (a1, a2, a3) hi
end
section
/-! Calls whose callee needs a part of the cells; methods that may throw, and catching. -/
section JA2
variable {p : Program} {l : Launch} {e : Env} {R : Room} {s : State} {m : MethodId} {args : Array Value} {below : List Frame} {meth : Method} {c : Code} {cells slots : Nat} {Q : State → Prop}
variable {D : va_G} {cl : List vw_C} {tys : List (ClassId × FieldType)} {A : Nat → Prop} {nL : Nat} {cc : ByteArray} {Ts : List Cond} {own : String} {ret : Option FieldType} {ws : va_W} {lv : List (Nat × Value)} {pc : Nat} {st : List Value}
theorem ja_perm {ws1 : va_W} (is : List Nat) (h1 : is.filterMap (fun i => ws[i]?) = ws1) (h2 : is.map (fun i => ws[i]?) = ws1.map some) (hn : va_nd is = true) (k : jaW p l e R s m args below meth c cells slots Q D cl A nL ws1 lv (pc) (st)) : jaW p l e R s m args below meth c cells slots Q D cl A nL ws lv (pc) (st) := fun H L ls hP hD hS hl => k H L ls (hP.sub is h1) (hD.sub is hn h2) hS hl
theorem ja_fcallVI (K : jaC p s m args meth c D cl tys cc nL Ts own ret A) {S : Type} {y : MethodName} {wm : List Cond} {rm : Room} {tyc : List (ClassId × FieldType)} {cf : S → va_W} {av : List Value} {w0 wr : va_W} {post : Int32 → S → Prop} {index n maxL : Nat} {bytes : ByteArray} {rt : Option FieldType} {st0 : List Value} (isC isR isT : List Nat) (hC1 : isC.filterMap (fun i => ws[i]?) = w0) (hC2 : isC.map (fun i => ws[i]?) = w0.map some) (hnC : va_nd isC = true) (hR2 : isR.map (fun i => ws[i]?) = wr.map some) (hnR : va_nd isR = true) (hdis : ∀ i ∈ isR, i ∉ isC) (hT : isT.filterMap (fun i => tys[i]?) = tyc) {b q0 ci : Nat} {fs : List Value} {qc : vw_C} (As : List Value) (hM : jkI l y wm rm D cl tyc cf av w0 post) (cw : CallW R s args own qc.1 index y bytes maxL rt wm rm rm.cells rm.slots n) (he : w0[q0]? = some (b, .inr (ci, fs))) (hc : cl[ci]? = some qc) (hav : (Value.ref b :: As).toArray = av.toArray) (hn : As.length = n) (hs0 : st0 = As.reverse ++ Value.ref b :: st) (hst : (st.map fun v => v.category).sum ≤ 8) (hd : decode cc pc = .ok (.invokevirtual index, 3)) (hf : cells + rm.cells ≤ R.cells ∧ slots + rm.slots ≤ R.slots) (k : ∀ (r : Int32) (u : S), post r u → jaW p l e R s m args below meth c (cells + rm.cells) (slots + rm.slots) Q D cl A nL (wr ++ cf u) lv (pc + 3) (Value.int r :: st)) : jaW p l e R s m args below meth c cells slots Q D cl A nL ws lv (pc) (st0) := by
  intro H L ls hP hD hS hl
  have hPc := hP.sub isC hC1
  have hDc := hD.sub isC hnC hC2
  have hF := va_free hD hS K.2.2.1 isC hC2
  refine va_calli (va_runV (g := F0 m pc ls st0) K.1 (hM H.size) cw ⟨jk_blind _ _ _ _ _ _, va_recv K.2.1 hPc hc he, fun U hU hW => ⟨hav, by rw [hU], by rw [hU]; exact hPc, va_K.moved hW.alike (K.2.1.sub isT hT), hDc.weaken (fun _ _ _ _ => trivial)⟩⟩ rfl hn hl.1 hs0 (lv_room hst) hd hf) hS (fun q _ h => hF q h) hF (fun r u t H1 L1 ht hvm hw hB hz hk1 hS1 => ?_)
  obtain ⟨hP2, hD2⟩ := va_join (wr := wr) (w1 := cf u) hP hD isC isR hC2 hR2 hnR hdis hk1 hF (ht ▸ hB.1) hB.2.2
  exact k r u hw H1 L1 ls hP2 hD2 hS1 hl
theorem ja_fcallSI (K : jaC p s m args meth c D cl tys cc nL Ts own ret A) {S : Type} {y : MethodName} {wm : List Cond} {rm : Room} {tyc : List (ClassId × FieldType)} {cf : S → va_W} {av : List Value} {w0 wr : va_W} {post : Int32 → S → Prop} {index n maxL : Nat} {bytes : ByteArray} {rt : Option FieldType} {st0 : List Value} (isC isR isT : List Nat) (hC1 : isC.filterMap (fun i => ws[i]?) = w0) (hC2 : isC.map (fun i => ws[i]?) = w0.map some) (hnC : va_nd isC = true) (hR2 : isR.map (fun i => ws[i]?) = wr.map some) (hnR : va_nd isR = true) (hdis : ∀ i ∈ isR, i ∉ isC) (hT : isT.filterMap (fun i => tys[i]?) = tyc) (As : List Value) (hM : jkI l y wm rm D cl tyc cf av w0 post) (cw : CallB R s args own index y bytes maxL rt wm rm rm.cells rm.slots n ∧ (Cond.static y).before args s = true) (hav : As.toArray = av.toArray) (hn : As.length = n) (hs0 : st0 = As.reverse ++ st) (hst : (st.map fun v => v.category).sum ≤ 8) (hd : decode cc pc = .ok (.invokestatic index, 3)) (hf : cells + rm.cells ≤ R.cells ∧ slots + rm.slots ≤ R.slots) (k : ∀ (r : Int32) (u : S), post r u → jaW p l e R s m args below meth c (cells + rm.cells) (slots + rm.slots) Q D cl A nL (wr ++ cf u) lv (pc + 3) (Value.int r :: st)) : jaW p l e R s m args below meth c cells slots Q D cl A nL ws lv (pc) (st0) := by
  intro H L ls hP hD hS hl
  have hPc := hP.sub isC hC1
  have hDc := hD.sub isC hnC hC2
  have hF := va_free hD hS K.2.2.1 isC hC2
  refine va_calli (va_runS (g := F0 m pc ls st0) K.1 (hM H.size) cw ⟨jk_blind _ _ _ _ _ _, fun U hU hW => ⟨hav, by rw [hU], by rw [hU]; exact hPc, va_K.moved hW.alike (K.2.1.sub isT hT), hDc.weaken (fun _ _ _ _ => trivial)⟩⟩ rfl hn hl.1 hs0 (lv_room hst) hd hf) hS (fun q _ h => hF q h) hF (fun r u t H1 L1 ht hvm hw hB hz hk1 hS1 => ?_)
  obtain ⟨hP2, hD2⟩ := va_join (wr := wr) (w1 := cf u) hP hD isC isR hC2 hR2 hnR hdis hk1 hF (ht ▸ hB.1) hB.2.2
  exact k r u hw H1 L1 ls hP2 hD2 hS1 hl
theorem ja_fcallVV (K : jaC p s m args meth c D cl tys cc nL Ts own ret A) {S : Type} {y : MethodName} {wm : List Cond} {rm : Room} {tyc : List (ClassId × FieldType)} {cf : S → va_W} {av : List Value} {w0 wr : va_W} {post : S → Prop} {index n maxL : Nat} {bytes : ByteArray} {rt : Option FieldType} {st0 : List Value} (isC isR isT : List Nat) (hC1 : isC.filterMap (fun i => ws[i]?) = w0) (hC2 : isC.map (fun i => ws[i]?) = w0.map some) (hnC : va_nd isC = true) (hR2 : isR.map (fun i => ws[i]?) = wr.map some) (hnR : va_nd isR = true) (hdis : ∀ i ∈ isR, i ∉ isC) (hT : isT.filterMap (fun i => tys[i]?) = tyc) {b q0 ci : Nat} {fs : List Value} {qc : vw_C} (As : List Value) (hM : jkV l y wm rm D cl tyc cf av w0 post) (cw : CallW R s args own qc.1 index y bytes maxL rt wm rm rm.cells rm.slots n) (he : w0[q0]? = some (b, .inr (ci, fs))) (hc : cl[ci]? = some qc) (hav : (Value.ref b :: As).toArray = av.toArray) (hn : As.length = n) (hs0 : st0 = As.reverse ++ Value.ref b :: st) (hst : (st.map fun v => v.category).sum ≤ 8) (hd : decode cc pc = .ok (.invokevirtual index, 3)) (hf : cells + rm.cells ≤ R.cells ∧ slots + rm.slots ≤ R.slots) (k : ∀ (u : S), post u → jaW p l e R s m args below meth c (cells + rm.cells) (slots + rm.slots) Q D cl A nL (wr ++ cf u) lv (pc + 3) (st)) : jaW p l e R s m args below meth c cells slots Q D cl A nL ws lv (pc) (st0) := by
  intro H L ls hP hD hS hl
  have hPc := hP.sub isC hC1
  have hDc := hD.sub isC hnC hC2
  have hF := va_free hD hS K.2.2.1 isC hC2
  refine va_callv (va_runV (g := F0 m pc ls st0) K.1 (hM H.size) cw ⟨jk_blind _ _ _ _ _ _, va_recv K.2.1 hPc hc he, fun U hU hW => ⟨hav, by rw [hU], by rw [hU]; exact hPc, va_K.moved hW.alike (K.2.1.sub isT hT), hDc.weaken (fun _ _ _ _ => trivial)⟩⟩ rfl hn hl.1 hs0 (lv_room hst) hd hf) hS (fun q _ h => hF q h) hF (fun u t H1 L1 ht hvm hw hB hz hk1 hS1 => ?_)
  obtain ⟨hP2, hD2⟩ := va_join (wr := wr) (w1 := cf u) hP hD isC isR hC2 hR2 hnR hdis hk1 hF (ht ▸ hB.1) hB.2.2
  exact k u hw H1 L1 ls hP2 hD2 hS1 hl
theorem ja_fcallSV (K : jaC p s m args meth c D cl tys cc nL Ts own ret A) {S : Type} {y : MethodName} {wm : List Cond} {rm : Room} {tyc : List (ClassId × FieldType)} {cf : S → va_W} {av : List Value} {w0 wr : va_W} {post : S → Prop} {index n maxL : Nat} {bytes : ByteArray} {rt : Option FieldType} {st0 : List Value} (isC isR isT : List Nat) (hC1 : isC.filterMap (fun i => ws[i]?) = w0) (hC2 : isC.map (fun i => ws[i]?) = w0.map some) (hnC : va_nd isC = true) (hR2 : isR.map (fun i => ws[i]?) = wr.map some) (hnR : va_nd isR = true) (hdis : ∀ i ∈ isR, i ∉ isC) (hT : isT.filterMap (fun i => tys[i]?) = tyc) (As : List Value) (hM : jkV l y wm rm D cl tyc cf av w0 post) (cw : CallB R s args own index y bytes maxL rt wm rm rm.cells rm.slots n ∧ (Cond.static y).before args s = true) (hav : As.toArray = av.toArray) (hn : As.length = n) (hs0 : st0 = As.reverse ++ st) (hst : (st.map fun v => v.category).sum ≤ 8) (hd : decode cc pc = .ok (.invokestatic index, 3)) (hf : cells + rm.cells ≤ R.cells ∧ slots + rm.slots ≤ R.slots) (k : ∀ (u : S), post u → jaW p l e R s m args below meth c (cells + rm.cells) (slots + rm.slots) Q D cl A nL (wr ++ cf u) lv (pc + 3) (st)) : jaW p l e R s m args below meth c cells slots Q D cl A nL ws lv (pc) (st0) := by
  intro H L ls hP hD hS hl
  have hPc := hP.sub isC hC1
  have hDc := hD.sub isC hnC hC2
  have hF := va_free hD hS K.2.2.1 isC hC2
  refine va_callv (va_runS (g := F0 m pc ls st0) K.1 (hM H.size) cw ⟨jk_blind _ _ _ _ _ _, fun U hU hW => ⟨hav, by rw [hU], by rw [hU]; exact hPc, va_K.moved hW.alike (K.2.1.sub isT hT), hDc.weaken (fun _ _ _ _ => trivial)⟩⟩ rfl hn hl.1 hs0 (lv_room hst) hd hf) hS (fun q _ h => hF q h) hF (fun u t H1 L1 ht hvm hw hB hz hk1 hS1 => ?_)
  obtain ⟨hP2, hD2⟩ := va_join (wr := wr) (w1 := cf u) hP hD isC isR hC2 hR2 hnR hdis hk1 hF (ht ▸ hB.1) hB.2.2
  exact k u hw H1 L1 ls hP2 hD2 hS1 hl
theorem ja_fcallIV (K : jaC p s m args meth c D cl tys cc nL Ts own ret A) {S : Type} {y : MethodName} {wm : List Cond} {rm : Room} {tyc : List (ClassId × FieldType)} {cf : S → va_W} {av : List Value} {w0 wr : va_W} {post : S → Prop} {index n maxL : Nat} {bytes : ByteArray} {rt : Option FieldType} {st0 : List Value} (isC isR isT : List Nat) (hC1 : isC.filterMap (fun i => ws[i]?) = w0) (hC2 : isC.map (fun i => ws[i]?) = w0.map some) (hnC : va_nd isC = true) (hR2 : isR.map (fun i => ws[i]?) = wr.map some) (hnR : va_nd isR = true) (hdis : ∀ i ∈ isR, i ∉ isC) (hT : isT.filterMap (fun i => tys[i]?) = tyc) {b : Nat} (As : List Value) (hM : jkV l y wm rm D cl tyc cf av w0 post) (cw : CallB R s args own index y bytes maxL none wm rm rm.cells rm.slots n ∧ y.name = "<init>" ∧ (Cond.instanceMethod y).before args s = true) (hav : (Value.ref b :: As).toArray = av.toArray) (hn : As.length = n) (hs0 : st0 = As.reverse ++ Value.ref b :: st) (hst : (st.map fun v => v.category).sum ≤ 8) (hd : decode cc pc = .ok (.invokespecial index, 3)) (hf : cells + rm.cells ≤ R.cells ∧ slots + rm.slots ≤ R.slots) (k : ∀ (u : S), post u → jaW p l e R s m args below meth c (cells + rm.cells) (slots + rm.slots) Q D cl A nL (wr ++ cf u) lv (pc + 3) (st)) : jaW p l e R s m args below meth c cells slots Q D cl A nL ws lv (pc) (st0) := by
  intro H L ls hP hD hS hl
  have hPc := hP.sub isC hC1
  have hDc := hD.sub isC hnC hC2
  have hF := va_free hD hS K.2.2.1 isC hC2
  refine va_callv (va_runI (g := F0 m pc ls st0) K.1 (hM H.size) cw ⟨jk_blind _ _ _ _ _ _, fun U hU hW => ⟨hav, by rw [hU], by rw [hU]; exact hPc, va_K.moved hW.alike (K.2.1.sub isT hT), hDc.weaken (fun _ _ _ _ => trivial)⟩⟩ rfl hn hl.1 hs0 (lv_room hst) hd hf) hS (fun q _ h => hF q h) hF (fun u t H1 L1 ht hvm hw hB hz hk1 hS1 => ?_)
  obtain ⟨hP2, hD2⟩ := va_join (wr := wr) (w1 := cf u) hP hD isC isR hC2 hR2 hnR hdis hk1 hF (ht ▸ hB.1) hB.2.2
  exact k u hw H1 L1 ls hP2 hD2 hS1 hl
theorem ja_newa (K : jaC p s m args meth c D cl tys cc nL Ts own ret A) (t0 : Nat) {cA : ClassId} {ty : FieldType} {atype : ArrayType} (ht : tys[t0]? = some (cA, ty)) (hty : newarray.typeOf atype = ty) (hp : ∀ c9, va_RA s c9 ty → s.vm.findClass ("[" ++ ty.toString) = some c9) (harr : Cond.arrayClass (newarray.typeOf atype) ∈ Ts) {n : Int32} {N1 : Nat} {a0 : vp_A} (ha : ∀ c9 : ClassId, vp_cell c9 a0 = arrV c9 N1 (fun _ => defaultValue ty)) (hn : ¬ n < 0) (hN : n.toNatClampNeg = N1) (hb : N1 * componentBytes ty ≤ 536870912) (hc : cells + 1 ≤ R.cells) (hs : slots + N1 ≤ R.slots) (hd : decode cc pc = .ok (.newarray atype, 2)) (k : ∀ q : Nat, jaW p l e R s m args below meth c (cells + 1) (slots + N1) Q D cl A nL (ws ++ [(q, .inl (cA, a0))]) lv (pc + 2) (Value.ref q :: st)) : jaW p l e R s m args below meth c cells slots Q D cl A nL ws lv (pc) (Value.int n :: st) := by
  intro H L ls hP hD hS hl
  refine va_newa K.1.1 K.1.2.1 (K.1.2.2.2.2 _ harr) hty K.2.1 hP hD hS K.2.2.1 ha hn hN hb hc hs hd (fun q c1 H1 hK1 hP1 hD1 hS1 => ?_)
  have e : c1 = cA := by
    have h1 := hp c1 (hK1.2 tys.length (c1, ty) (by simp)).2
    have h2 := hp cA (K.2.1.2 t0 _ ht).2
    exact Option.some.inj (h1.symm.trans h2)
  subst e
  exact k q H1 L ls hP1 hD1 hS1 hl
theorem ja_new (K : jaC p s m args meth c D cl tys cc nL Ts own ret A) {C : String} {T : u_T} {N ci index : Nat} (hin : ∀ w ∈ u_ws C T N, w ∈ Ts) (ty : Nat → FieldType) (hty : ∀ k, k < N → parseFieldDescriptor (T k).2.2.1 = some (ty k)) (hcl : Cond.classLink own index C ∈ Ts) (hinst : Cond.instantiable C N ∈ Ts) (hini : Cond.initialized C ∈ Ts) (hc : cl[ci]? = some (C, T, N)) {fs : List Value} (hfs : ∀ j, j < N → defaultValue (ty j) = vp_V fs j) (hc1 : cells + 1 ≤ R.cells) (hs1 : slots + N ≤ R.slots) (hd : decode cc pc = .ok (.new index, 3)) (k : ∀ q : Nat, jaW p l e R s m args below meth c (cells + 1) (slots + N) Q D cl A nL (ws ++ [(q, .inr (ci, fs))]) lv (pc + 3) (Value.ref q :: st)) : jaW p l e R s m args below meth c cells slots Q D cl A nL ws lv (pc) (st) := by
  intro H L ls hP hD hS hl
  exact va_new K.1.1 K.1.2.1 K.1.2.2.2.2 hin ty hty K.1.2.2.2.1 (K.1.2.2.2.2 _ hcl) (K.1.2.2.2.2 _ hinst) (K.1.2.2.2.2 _ hini) K.2.1 hP hD hS K.2.2.1 hc hfs hc1 hs1 hd (fun q H1 hP1 hD1 hS1 => k q H1 L ls hP1 hD1 hS1 hl)
theorem ja_objInit (K : jaC p s m args meth c D cl tys cc nL Ts own ret A) {idx a : Nat} (h1 : Cond.methodLink own idx Lib.objectInit ∈ Ts) (h2 : Cond.instanceMethod Lib.objectInit ∈ Ts) (h3 : Cond.code Lib.objectInit ⟨#[0xb1]⟩ 1 none ∈ Ts) (hd : decode cc pc = .ok (.invokespecial idx, 3)) (hf : 1 ≤ R.frames) (hlo : 2 * (F0 m pc #[] []).monitorRoom + (st.map fun v => v.category).sum + 12 ≤ R.locals) (k : jaW p l e R s m args below meth c cells slots Q D cl A nL ws lv (pc + 3) (st)) : jaW p l e R s m args below meth c cells slots Q D cl A nL ws lv (pc) (Value.ref a :: st) := by
  intro H L ls hP hD hS hl
  exact W.objInit K.1.1 K.1.2.1 K.1.2.2.2.1 (K.1.2.2.2.2 _ h1) (K.1.2.2.2.2 _ h2) (K.1.2.2.2.2 _ h3) rfl (by rw [K.1.2.2.1]; exact hl.1) rfl hd hf hlo (k H L ls hP hD hS hl)
end JA2
end
section
/-! Methods that may throw, and catching. -/
section JA3
variable {p : Program} {l : Launch} {e : Env} {R : Room} {s : State} {m : MethodId} {args : Array Value} {below : List Frame} {meth : Method} {c : Code} {cells slots : Nat} {Q : State → Prop}
variable {D : va_G} {cl : List vw_C} {tys : List (ClassId × FieldType)} {A : Nat → Prop} {nL : Nat} {cc : ByteArray} {Ts : List Cond} {own : String} {ret : Option FieldType} {ws : va_W} {lv : List (Nat × Value)} {pc : Nat} {st : List Value}
def jzw : Cond → Bool
  | .castable _ _ => true
  | .declares _ => true
  | _ => false
theorem jzw_warm {w : Cond} {s U : State} (hw : jzw w = true) (hW : s.WarmedH U.vm) (h : va_Nw w s) : va_Nw w U := by
  cases w <;> first | exact va_Nw.warmC hW h | exact va_Nw.warmD hW h | (simp [jzw] at hw)
theorem jzw_on {w : Cond} (hw : jzw w = true) : w.onTables = true := by
  cases w <;> first | rfl | (simp [jzw] at hw)
/-- what a throw needs of the start: two statics of Throwable, words on the exceptions, the texts -/
def jZ (A : Nat → Prop) (zs : List Cond) (tx : List (String × Nat × String)) (U : State) : Prop :=
  vx_Zq Bundle.tN "UNASSIGNED_STACK" Bundle.steD A U U.heap ∧ vx_Zq Bundle.tN "SUPPRESSED_SENTINEL" Bundle.listD A U U.heap ∧ (∀ w ∈ zs, jzw w = true ∧ va_Nw w U) ∧ ∀ t ∈ tx, ∃ sa, vk_R t.1 t.2.1 t.2.2 sa U
theorem jZ_go {A B : Nat → Prop} {zs zs1 : List Cond} {tx tx1 : List (String × Nat × String)} {s U : State} {H : Heap} {L : List Loc} (h : jZ A zs tx s) (hW : s.WarmedH U.vm) (hU : U.heap = H) (hS : va_S A s.heap H L) (hAB : ∀ q, B q → A q) (h1 : ∀ w ∈ zs1, w ∈ zs) (h2 : ∀ t ∈ tx1, t ∈ tx) : jZ B zs1 tx1 U := by
  obtain ⟨a, b, c, d⟩ := h
  refine ⟨?_, ?_, fun w hw => ⟨(c w (h1 w hw)).1, jzw_warm (c w (h1 w hw)).1 hW (c w (h1 w hw)).2⟩, fun t ht => ?_⟩
  · rw [hU]; exact vx_Zq.moved hW.alike ((a.kept hS.2.1).narrow hAB)
  · rw [hU]; exact vx_Zq.moved hW.alike ((b.kept hS.2.1).narrow hAB)
  · obtain ⟨sa, hsa⟩ := d t (h2 t ht)
    exact ⟨sa, vk_R.warm hW hsa⟩
def jkX {S : Type} (l : Launch) (y : MethodName) (wm : List Cond) (rm : Room) (D : va_G) (cl : List vw_C) (tys : List (ClassId × FieldType)) (zs : List Cond) (tx : List (String × Nat × String)) (cf : S → va_W) (av : List Value) (w0 : va_W) (post : Int32 → S → Prop) (px : String → S → Prop) : Prop :=
  ∀ sz : Nat, vx_Met l y wm rm (va_Pc av (fun U => jkP D cl tys w0 sz U ∧ jZ (va_A w0 sz) zs tx U)) (va_Qi post (jkA D cl tys (va_A w0 sz) cf) (va_A w0 sz)) (vx_X (fun _ : S => True) (fun E u t => px E u ∧ jkA D cl tys (va_A w0 sz) cf u t) (va_A w0 sz)) rm.cells rm.slots (va_A w0 sz)
theorem jkX_blind (D : va_G) (cl : List vw_C) (tys : List (ClassId × FieldType)) (A : Nat → Prop) (zs : List Cond) (tx : List (String × Nat × String)) (av : List Value) (ws : va_W) (sz : Nat) : FrameBlind (va_Pc av (fun U => jkP D cl tys ws sz U ∧ jZ A zs tx U)) := fun a U g mk q => by
  obtain ⟨q0, ⟨q1, qP, qK, qD⟩, qa, qb, qc, qd⟩ := q
  refine ⟨q0, ⟨q1, qP, va_K.moved (u := U) (U := U.calling g mk a) (Vm.Alike.refl U.vm) qK, qD⟩, vx_Zq.moved (u := U) (U := U.calling g mk a) (Vm.Alike.refl U.vm) qa, vx_Zq.moved (u := U) (U := U.calling g mk a) (Vm.Alike.refl U.vm) qb, fun w hw => ⟨(qc w hw).1, va_Nw.same (u := U) (U := U.calling g mk a) (jzw_on (qc w hw).1) rfl (qc w hw).2⟩, fun t ht => ?_⟩
  obtain ⟨sa, hsa⟩ := qd t ht
  exact ⟨sa, vk_R.same (u := U) (U := U.calling g mk a) rfl hsa⟩
theorem jkX_of {S : Type} {l : Launch} {y : MethodName} {wm wm' : List Cond} {rm : Room} {D : va_G} {cl : List vw_C} {tys : List (ClassId × FieldType)} {zs : List Cond} {tx : List (String × Nat × String)} {cf : S → va_W} {av : List Value} {w0 : va_W} {post : Int32 → S → Prop} {px : String → S → Prop} {cc : ByteArray} {maxL : Nat} {ret : Option FieldType} (hy : plainName y.cls = true) (hw : wm = Cond.code y cc maxL ret :: wm') (hav : (lg_sl av).length ≤ maxL)
    (body : ∀ (p : Program) (e : Env) (R : Room) (s : State) (m : MethodId) (args : Array Value) (below : List Frame) (meth : Method) (c : Code) (Q : State → Prop) (A : Nat → Prop), jaC p s m args meth c D cl tys cc maxL wm y.cls ret A → meth.name = y.name → R = rm → (∀ x ∈ c.exceptionTable.toList, False) → jZ A zs tx s → Q = vx_MQ below (va_Qi post (jkA D cl tys A cf) A) (vx_X (fun _ : S => True) (fun E u t => px E u ∧ jkA D cl tys A cf u t) A) args s rm.cells rm.slots A →
      jaW p l e R s m args below meth c 0 0 Q D cl A maxL w0 (lv_args 0 av) 0 []) : jkX l y wm rm D cl tys zs tx cf av w0 post px := by
  intro sz
  refine vx_ofW (cc := cc) (maxL := maxL) (ret := ret) hy hw ?_
  intro p e s m args below meth c s₁ B hml hEx hv
  obtain ⟨rfl, ⟨hsz, hP, hK, hD0⟩, hZ⟩ := hv
  subst hsz
  rw [lg_entry_eq]
  exact body p e (headSpec wm rm).room s m av.toArray below meth c _ (va_A w0 s.heap.size) ⟨⟨B.exec, B.bytes, hml, findClass_of_methodNamed B.named, atoms_spec (ws := wm) B.pre⟩, hK, fun q h => Or.inr h, B.returns, B.notSynchronized⟩ (name_of_methodNamed B.named B.method).1 rfl hEx hZ rfl s.heap [] _ hP (hD0.self) va_S.rf (lv_entry av hav)
theorem ja_iretX (K : jaC p s m args meth c D cl tys cc nL Ts own ret A) {S : Type} {cf : S → va_W} {post : Int32 → S → Prop} {px : String → S → Prop} {mc ms : Nat} {v : Int32} {ty : FieldType} (u : S) (hret : ret = some ty) (hn : narrow ty (.int v) = .int v) (hc : cells ≤ mc) (hs : slots ≤ ms) (hd : decode cc pc = .ok (.ireturn, 1)) (hQ : Q = vx_MQ below (va_Qi post (jkA D cl tys A cf) A) (vx_X (fun _ : S => True) (fun E u t => px E u ∧ jkA D cl tys A cf u t) A) args s mc ms A) (hw : ws = cf u) (hp : post v u) : jaW p l e R s m args below meth c cells slots Q D cl A nL ws lv (pc) ([Value.int v]) := by
  subst hQ
  subst hw
  subst hret
  intro H L ls hP hD hS hl
  refine W.widen hc hs (vx_ret ?_)
  exact W.zret (v := v) K.1.1 K.1.2.1 K.2.2.2.1 hn (fun t ht hW => ⟨⟨v, u, rfl, hp, by rw [ht]; exact hP, va_K.moved hW.alike K.2.1, hD⟩, hS.F ht⟩) hS.2.2 hd K.2.2.2.2
theorem ja_throwS (K : jaC p s m args meth c D cl tys cc nL Ts own ret A) {S : Type} {cf : S → va_W} {Qc : Array Value → State → Outcome → State → Prop} {px : String → S → Prop} {mc ms : Nat} {cls text : String} {names : List String} {ik is ic : Nat} {zs : List Cond} {tx : List (String × Nat × String)} (u : S) (hst : l.stackTraces = false) (hEx : ∀ x ∈ c.exceptionTable.toList, False) (hZ : jZ A zs tx s) (hcls : Bundle.fit cls = true) (hnames : ∀ n ∈ names, Bundle.fit n = true) (hk : Cond.classLink own ik cls ∈ Ts) (hini : Cond.initialized cls ∈ Ts) (htx : (own, is, text) ∈ tx) (hat1 : ∀ w ∈ (vx_atS own ic cls names).filter goodWord, w ∈ Ts) (hat2 : ∀ w ∈ (vx_atS own ic cls names).filter (fun w => !goodWord w), w ∈ zs) (hgood : ∀ w ∈ Cond.classLink own ik cls :: Cond.initialized cls :: vx_atS own ic cls names, vx_ot w = true) (d0 : decode cc pc = .ok (.new ik, 3)) (d3 : decode cc (pc + 3) = .ok (.dup, 1)) (d4 : decode cc (pc + 4) = .ok (.ldc is, 2)) (d6 : decode cc (pc + 6) = .ok (.invokespecial ic, 3)) (d9 : decode cc (pc + 9) = .ok (.athrow, 1)) (hRf : names.length + 3 < R.frames) (hRl : (st.map fun v => v.category).sum + (13 * (names.length + 1) + 43) ≤ R.locals) (hRc : cells + 1 ≤ R.cells) (hRs : slots + 6 ≤ R.slots) (hc : cells + 1 ≤ mc) (hs : slots + 6 ≤ ms) (hQ : Q = vx_MQ below Qc (vx_X (fun _ : S => True) (fun E u t => px E u ∧ jkA D cl tys A cf u t) A) args s mc ms A) (hw : ws = cf u) (hp : px cls u) : jaW p l e R s m args below meth c cells slots Q D cl A nL ws lv (pc) (st) := by
  subst hQ
  subst hw
  intro H L ls hP hD hS hl
  obtain ⟨hU, hN, hzs, htxs⟩ := hZ
  obtain ⟨sa, hsa⟩ := htxs _ htx
  exact vx_throwS (own := own) (cls := cls) (names := names) K.1.1 K.1.2.1 hst K.1.2.2.2.1 hcls hnames (K.1.2.2.2.2 _ hk) (K.1.2.2.2.2 _ hini) hsa (vx_hat (L := vx_atS own ic cls names) (B := zs) (fun w hw => K.1.2.2.2.2 w (hat1 w hw)) hat2 (fun w hw => va_Nw.use (jzw_on (hzs w hw).1) (hzs w hw).2)) hgood hU hN hS (hl.1.trans K.1.2.2.1.symm) d0 d3 d4 d6 d9 (fun x hx => (hEx x hx).elim) hRf hRl hRc hRs K.2.2.2.2 (fun t ha hsz hk => ⟨u, trivial, ⟨hp, hP.kept (fun k q hq => hk q.1 (hP k q hq).lt), va_K.moved ha K.2.1, hD⟩, Nat.le_trans hS.1 hsz, fun q h1 h2 => (hk q (Nat.lt_of_lt_of_le h1 hS.1)).trans (hS.2.1 q h1 h2)⟩) hS.2.2 hc hs
end JA3
end
section
/-! The cells of both sides. -/
/-- the numbers and the rows of one side, by their places: nodeCount times samples parents siteCount sitePlaces ancestrals mutations newNumbers carried mattering tally row -/
abbrev JX : Type := (Nat → Int32) × (Nat → Nat → Int32)
def jxN (u : JX) : Int32 := u.1 0
def jxsN (u : JX) (z : Int32) : JX := (fun k => if k = 0 then z else u.1 k, u.2)
def jxT (u : JX) : Nat → Int32 := u.2 0
def jxsT (u : JX) (z : Nat → Int32) : JX := (u.1, fun k => if k = 0 then z else u.2 k)
def jxM (u : JX) : Nat → Int32 := u.2 1
def jxsM (u : JX) (z : Nat → Int32) : JX := (u.1, fun k => if k = 1 then z else u.2 k)
def jxU (u : JX) : Nat → Int32 := u.2 2
def jxsU (u : JX) (z : Nat → Int32) : JX := (u.1, fun k => if k = 2 then z else u.2 k)
def jxK (u : JX) : Int32 := u.1 1
def jxsK (u : JX) (z : Int32) : JX := (fun k => if k = 1 then z else u.1 k, u.2)
def jxP (u : JX) : Nat → Int32 := u.2 3
def jxsP (u : JX) (z : Nat → Int32) : JX := (u.1, fun k => if k = 3 then z else u.2 k)
def jxA (u : JX) : Nat → Int32 := u.2 4
def jxsA (u : JX) (z : Nat → Int32) : JX := (u.1, fun k => if k = 4 then z else u.2 k)
def jxL (u : JX) : Nat → Int32 := u.2 5
def jxsL (u : JX) (z : Nat → Int32) : JX := (u.1, fun k => if k = 5 then z else u.2 k)
def jxB (u : JX) : Nat → Int32 := u.2 6
def jxsB (u : JX) (z : Nat → Int32) : JX := (u.1, fun k => if k = 6 then z else u.2 k)
def jxC (u : JX) : Nat → Int32 := u.2 7
def jxsC (u : JX) (z : Nat → Int32) : JX := (u.1, fun k => if k = 7 then z else u.2 k)
def jxG (u : JX) : Nat → Int32 := u.2 8
def jxsG (u : JX) (z : Nat → Int32) : JX := (u.1, fun k => if k = 8 then z else u.2 k)
def jxY (u : JX) : Nat → Int32 := u.2 9
def jxsY (u : JX) (z : Nat → Int32) : JX := (u.1, fun k => if k = 9 then z else u.2 k)
def jxR (u : JX) : Nat → Int32 := u.2 10
def jxsR (u : JX) (z : Nat → Int32) : JX := (u.1, fun k => if k = 10 then z else u.2 k)
def jxR1 (S : JS) (u : JX) : Prop := jxN u = nI (jN S) ∧ (∀ i, i < jN S → jxT u i = nI (jT S i)) ∧ (∀ i, i < jN S → jxM u i = jbI (jM S i)) ∧ (∀ x c, x < 60 → c < 14 → jxU u (x * 14 + c) = jeI (jU S x c)) ∧ jxK u = nI (jK S) ∧ (∀ i, i < jK S → jxP u i = nI (jP S i)) ∧ (∀ i, i < jK S → jxA u i = nI (jA S i)) ∧ (∀ i c, i < 8 → c < 14 → jxL u (i * 14 + c) = jeI (jL S i c)) ∧ (∀ c, c < 14 → jxB u c = jeI (jB S c))
/-- the numbers and the rows of one side, by their places: fault nodes time sample parent sites placeOf ancestral mutation became nextParent nextMutation foundLeft foundRight foundParent foundChild -/
abbrev JM : Type := (Nat → Int32) × (Nat → Nat → Int32)
def jmF (u : JM) : Int32 := u.1 0
def jmsF (u : JM) (z : Int32) : JM := (fun k => if k = 0 then z else u.1 k, u.2)
def jmN (u : JM) : Int32 := u.1 1
def jmsN (u : JM) (z : Int32) : JM := (fun k => if k = 1 then z else u.1 k, u.2)
def jmT (u : JM) : Nat → Int32 := u.2 0
def jmsT (u : JM) (z : Nat → Int32) : JM := (u.1, fun k => if k = 0 then z else u.2 k)
def jmM (u : JM) : Nat → Int32 := u.2 1
def jmsM (u : JM) (z : Nat → Int32) : JM := (u.1, fun k => if k = 1 then z else u.2 k)
def jmU (u : JM) : Nat → Int32 := u.2 2
def jmsU (u : JM) (z : Nat → Int32) : JM := (u.1, fun k => if k = 2 then z else u.2 k)
def jmK (u : JM) : Int32 := u.1 2
def jmsK (u : JM) (z : Int32) : JM := (fun k => if k = 2 then z else u.1 k, u.2)
def jmP (u : JM) : Nat → Int32 := u.2 3
def jmsP (u : JM) (z : Nat → Int32) : JM := (u.1, fun k => if k = 3 then z else u.2 k)
def jmA (u : JM) : Nat → Int32 := u.2 4
def jmsA (u : JM) (z : Nat → Int32) : JM := (u.1, fun k => if k = 4 then z else u.2 k)
def jmL (u : JM) : Nat → Int32 := u.2 5
def jmsL (u : JM) (z : Nat → Int32) : JM := (u.1, fun k => if k = 5 then z else u.2 k)
def jmB (u : JM) : Nat → Int32 := u.2 6
def jmsB (u : JM) (z : Nat → Int32) : JM := (u.1, fun k => if k = 6 then z else u.2 k)
def jmV (u : JM) : Nat → Int32 := u.2 7
def jmsV (u : JM) (z : Nat → Int32) : JM := (u.1, fun k => if k = 7 then z else u.2 k)
def jmW (u : JM) : Nat → Int32 := u.2 8
def jmsW (u : JM) (z : Nat → Int32) : JM := (u.1, fun k => if k = 8 then z else u.2 k)
def jm1 (u : JM) : Int32 := u.1 3
def jms1 (u : JM) (z : Int32) : JM := (fun k => if k = 3 then z else u.1 k, u.2)
def jm2 (u : JM) : Int32 := u.1 4
def jms2 (u : JM) (z : Int32) : JM := (fun k => if k = 4 then z else u.1 k, u.2)
def jm3 (u : JM) : Int32 := u.1 5
def jms3 (u : JM) (z : Int32) : JM := (fun k => if k = 5 then z else u.1 k, u.2)
def jm4 (u : JM) : Int32 := u.1 6
def jms4 (u : JM) (z : Int32) : JM := (fun k => if k = 6 then z else u.1 k, u.2)
def jmR1 (S : JS) (v : JM) : Prop := jmN v = nI (jN S) ∧ (∀ i, i < jN S → jmT v i = nI (jT S i)) ∧ (∀ i, i < jN S → jmM v i = jbI (jM S i)) ∧ (∀ x c, x < 60 → c < jN S → jmU v (60 * c + x) = nI (joN (jU S x c))) ∧ jmK v = nI (jK S) ∧ (∀ i, i < jK S → jmP v i = nI (jP S i)) ∧ (∀ i, i < jK S → jmA v i = nI (jA S i)) ∧ (∀ i c, i < 8 → c < jN S → jmL v (14 * i + c) = nI (joN (jL S i c))) ∧ (∀ c, c < 14 → jmB v c = jeI (jB S c))
def jxt (cI cZ : ClassId) : List (ClassId × FieldType) := [(cI, .int), (cZ, .boolean)]
def jxc (q : Nat → Nat) (cI cZ : ClassId) (u : JX) : va_W := [(q 0, .inr (0, [.int (jxN u), .ref (q 1), .ref (q 2), .ref (q 3), .int (jxK u), .ref (q 4), .ref (q 5), .ref (q 6), .ref (q 7), .ref (q 8), .ref (q 9), .ref (q 10), .ref (q 11)])), (q 1, .inl (cI, 14, .inl (jxT u))), (q 2, .inl (cZ, 14, .inl (jxM u))), (q 3, .inl (cI, 840, .inl (jxU u))), (q 4, .inl (cI, 8, .inl (jxP u))), (q 5, .inl (cI, 8, .inl (jxA u))), (q 6, .inl (cI, 112, .inl (jxL u))), (q 7, .inl (cI, 14, .inl (jxB u))), (q 8, .inl (cI, 14, .inl (jxC u))), (q 9, .inl (cI, 60, .inl (jxG u))), (q 10, .inl (cI, 4, .inl (jxY u))), (q 11, .inl (cI, 14, .inl (jxR u)))]
def jmc (q : Nat → Nat) (cI cZ : ClassId) (u : JM) : va_W := [(q 0, .inr (1, [.int (jmF u), .int (jmN u), .ref (q 1), .ref (q 2), .ref (q 3), .int (jmK u), .ref (q 4), .ref (q 5), .ref (q 6), .ref (q 7), .ref (q 8), .ref (q 9), .int (jm1 u), .int (jm2 u), .int (jm3 u), .int (jm4 u)])), (q 1, .inl (cI, 14, .inl (jmT u))), (q 2, .inl (cZ, 14, .inl (jmM u))), (q 3, .inl (cI, 840, .inl (jmU u))), (q 4, .inl (cI, 8, .inl (jmP u))), (q 5, .inl (cI, 8, .inl (jmA u))), (q 6, .inl (cI, 112, .inl (jmL u))), (q 7, .inl (cI, 14, .inl (jmB u))), (q 8, .inl (cI, 840, .inl (jmV u))), (q 9, .inl (cI, 112, .inl (jmW u)))]
end
section
/-! More values. -/
theorem jin_tt {z : Int32} {n : Nat} (h1 : ¬ z < 0) (h2 : z < nI n) : jin z n = true := by
  simp only [jin, decide_eq_true_eq]
  rw [Int32.lt_iff_toInt_lt] at h1
  refine ⟨?_, h2⟩
  rw [Int32.le_iff_toInt_le]
  omega
theorem jin_ff1 {z : Int32} {n : Nat} (h1 : z < 0) : jin z n = false := by
  simp only [jin, decide_eq_false_iff_not]
  rw [Int32.lt_iff_toInt_lt] at h1
  rw [Int32.le_iff_toInt_le]
  omega
theorem jin_ff2 {z : Int32} {n : Nat} (h2 : ¬ z < nI n) : jin z n = false := by
  simp only [jin, decide_eq_false_iff_not]
  exact fun h => h2 h.2
def jbec (S : JS) (z : Int32) : Option Nat := if jin z 14 = true then jB S z.toNatClampNeg else none
theorem jbec_f1 {S : JS} {z : Int32} (h : z < 0) : jeI (jbec S z) = -1 := by rw [jbec, jin_ff1 h]; rfl
theorem jbec_f2 {S : JS} {z : Int32} (h : ¬ z < nI 14) : jeI (jbec S z) = -1 := by rw [jbec, jin_ff2 h]; rfl
theorem jbec_t {S : JS} {j : Nat} (h : j < 14) : jbec S (nI j) = jB S j := by
  rw [jbec, jin_nI (by omega) (by omega), nI_clamp (by omega)]
  simp [h]
/-- a run begins at x -/
def jsr (S : JS) (x : Nat) : Bool := x == 0 || jany (fun c => jU S x c != jU S (x - 1) c) (jN S)
/-- the first from e on, of k, that has P no more -/
def jene (P : Nat → Bool) : Nat → Nat → Nat
  | 0, e => e
  | k + 1, e => if P e then jene P k (e + 1) else e
def jend (S : JS) (x c : Nat) : Nat := jene (fun e => jU S e c == jU S x c) (60 - (x + 1)) (x + 1)
theorem jz_eq {a : Nat} (h : a < 2 ^ 31) : nI a = 0 ↔ a = 0 := by rw [← nI_0]; exact nI_eq h (by omega)
theorem jz_lt {a : Nat} (h : a < 2 ^ 31) : nI a < 0 ↔ a < 0 := by rw [← nI_0]; exact nI_ltI h (by omega)
theorem jz_ge {a : Nat} (h : a < 2 ^ 31) : 0 ≤ nI a ↔ 0 ≤ a := by rw [← nI_0]; exact nI_leI (by omega) h
theorem jz_gt {a : Nat} (h : a < 2 ^ 31) : 0 < nI a ↔ 0 < a := by rw [← nI_0]; exact nI_ltI (by omega) h
theorem jz_le {a : Nat} (h : a < 2 ^ 31) : nI a ≤ 0 ↔ a ≤ 0 := by rw [← nI_0]; exact nI_leI h (by omega)
theorem jl_4 {A1 A2 A3 A4 : Type} (μ : A1 → A2 → A3 → A4 → Nat) (I G : A1 → A2 → A3 → A4 → Prop) (h : ∀ a1 a2 a3 a4, I a1 a2 a3 a4 → (∀ b1 b2 b3 b4, I b1 b2 b3 b4 → μ b1 b2 b3 b4 < μ a1 a2 a3 a4 → G b1 b2 b3 b4) → G a1 a2 a3 a4) : ∀ a1 a2 a3 a4, I a1 a2 a3 a4 → G a1 a2 a3 a4 := fun a1 a2 a3 a4 hi =>
  jl_1 (A1 := A1 × A2 × A3 × A4) (fun a => μ a.1 a.2.1 a.2.2.1 a.2.2.2) (fun a => I a.1 a.2.1 a.2.2.1 a.2.2.2) (fun a => G a.1 a.2.1 a.2.2.1 a.2.2.2) (fun a ha k => h a.1 a.2.1 a.2.2.1 a.2.2.2 ha (fun b1 b2 b3 b4 hb hm => k (b1, b2, b3, b4) hb hm)) (a1, a2, a3, a4) hi
theorem jtal_f {sm : Nat → Bool} {f : Nat → Nat} {i : Nat} (h : sm i = false) (a : Nat) : jtal sm f (i + 1) a = jtal sm f i a := by simp [jtal, jct, h]
theorem jtal_t {sm : Nat → Bool} {f : Nat → Nat} {i : Nat} (h : sm i = true) : jtal sm f (i + 1) (f i) = jtal sm f i (f i) + 1 := by simp [jtal, jct, h]
theorem jtal_n {sm : Nat → Bool} {f : Nat → Nat} {i a : Nat} (h : sm i = true) (ha : a ≠ f i) : jtal sm f (i + 1) a = jtal sm f i a := by simp [jtal, jct, h, Ne.symm ha]
def jlf (S : JS) (i c : Nat) : Nat := jlet (jU S (jP S i)) (jL S i) (jA S i) c
theorem jlf_lt {S : JS} (h : jWf S) {i : Nat} (hi : i < jK S) (c : Nat) : jlf S i c < 4 := by
  simp only [jlf, jlet]
  split
  · exact (h.2.2.2.2.1 i hi).2
  · rename_i x hx
    cases e : jL S i x with
    | none => simp
    | some a => simpa using (h.2.2.2.2.2.1 i x a e).2.2
def jundS (S : JS) (x c : Nat) : Nat := junder (jN S) (jM S) (jU S x) c
theorem jacyc {n : Nat} {t : Nat → Nat} {up : Nat → Option Nat} (h : jup n t up) (d y : Nat) : jpF up (fun z => z == y) d (up y) = none := by
  cases e : jpF up (fun z => z == y) d (up y) with
  | none => rfl
  | some x =>
    cases e2 : up y with
    | none => rw [e2, jpF_none] at e; cases e
    | some z =>
      rw [e2] at e
      have a := jpF_time h e2 e
      have b := jpF_P e
      simp at b
      subst b
      omega
/-- one step of counting who is carried -/
theorem jcar_step {n : Nat} {t : Nat → Nat} {up : Nat → Option Nat} (h : jup n t up) {e T : Nat → Nat} {d y : Nat} (H : ∀ c, e c + (if (jpF up (fun z => z == c) (d + 1) (some y)).isSome then 1 else 0) = T c) (c : Nat) : (if c = y then e y + 1 else e c) + (if (jpF up (fun z => z == c) d (up y)).isSome then 1 else 0) = T c := by
  have a := H c
  by_cases q : c = y
  · subst q
    simp only [jpF, beq_self_eq_true, if_true, Option.isSome_some] at a
    simp only [jacyc h, if_true]
    simpa using a
  · have e1 : jpF up (fun z => z == c) (d + 1) (some y) = jpF up (fun z => z == c) d (up y) := by
      simp only [jpF]
      rw [if_neg (by simpa using Ne.symm q)]
    rw [e1] at a
    rw [if_neg q]
    exact a
theorem jbit_or {B i c : Nat} : (B ||| 2 ^ i).testBit c = (B.testBit c || decide (i = c)) := by rw [Nat.testBit_or, Nat.testBit_two_pow]
theorem jnI_or (a b : Nat) : nI a ||| nI b = nI (a ||| b) := by
  apply Int32.toBitVec_inj.mp
  show (BitVec.ofNat 32 a) ||| (BitVec.ofNat 32 b) = BitVec.ofNat 32 (a ||| b)
  rw [BitVec.ofNat_or]
theorem jone_shl : ∀ i, i < 14 → (nI 1) <<< (nI i &&& 31) = nI (2 ^ i) := by decide
theorem jsh31 : ∀ i, i < 14 → ((nI i &&& 31).toBitVec.smod 32).toNat = i := by decide
theorem jbit_get {B i : Nat} (hB : B < 16384) (hi : i < 14) : ((nI B >>> (nI i &&& 31)) &&& nI 1 = nI 1) ↔ B.testBit i = true := by
  rw [pk_shrN (by omega) _ i (jsh31 i hi)]
  have h1 : B / 2 ^ i ≤ B := Nat.div_le_self _ _
  rw [pk_andN (by omega) (k := 1) (by decide), nI_eq (by omega) (by omega), Nat.testBit_eq_decide_div_mod_eq]
  simp
def jbt (S : JS) (x B : Nat) : Prop := B < 16384 ∧ ∀ c, B.testBit c = (decide (c < jN S) && jmatS S x c)
def jdif (S : JS) : Nat := jsm (fun i => jprs (jM S) (jlf S i) (jN S)) (jK S)
theorem jdif_4 {S : JS} (h : jWf S) {i : Nat} (hi : i < jK S) : jsm (fun a => jsm (fun b => jtal (jM S) (jlf S i) (jN S) b) a * jtal (jM S) (jlf S i) (jN S) a) 4 = jprs (jM S) (jlf S i) (jN S) := by
  rw [jprs_eq (jM S) (jlf S i) (fun c _ => jlf_lt h hi c)]
  simp [jsm]
def jspec (S : JS) (z : Int32) : Nat := if nI 1 ≤ z then jsm (fun i => jct (fun a => a != jA S i && decide (nI (jtal (jM S) (jlf S i) (jN S) a) = z)) 4) (jK S) else 0
def jarT (S : JS) (x c : Nat) : Int32 := match jU S x c with
  | some p => if 0 < jundS S x c ∧ jundS S x c < jct (jM S) (jN S) then nI (jT S p) - nI (jT S c) else 0
  | none => 0
def jarI (S : JS) (x : Nat) : Nat → Int32
  | 0 => 0
  | c + 1 => jarI S x c + jarT S x c
def jar (S : JS) : Nat → Int32
  | 0 => 0
  | x + 1 => jar S x + jarI S x (jN S)
def jcount (S : JS) (z : Int32) : Int32 := if z = nI 0 then nI (jN S) else if z = nI 1 then nI (jct (jM S) (jN S)) else if z = nI 2 then nI (jsm (fun x => jct (fun c => jst (jU S) x c) (jN S)) 60) else if z = nI 3 then nI (jK S) else if z = nI 4 then nI (jcm S) else -1
theorem jsw5 (z : Int32) : z = nI 0 ∨ z = nI 1 ∨ z = nI 2 ∨ z = nI 3 ∨ z = nI 4 ∨ ((z.toInt < 0 ∨ 4 < z.toInt) ∧ ¬ z = nI 0 ∧ ¬ z = nI 1 ∧ ¬ z = nI 2 ∧ ¬ z = nI 3 ∧ ¬ z = nI 4) := by
  by_cases h0 : z = nI 0
  · exact Or.inl h0
  · by_cases h1 : z = nI 1
    · exact Or.inr (Or.inl h1)
    · by_cases h2 : z = nI 2
      · exact Or.inr (Or.inr (Or.inl h2))
      · by_cases h3 : z = nI 3
        · exact Or.inr (Or.inr (Or.inr (Or.inl h3)))
        · by_cases h4 : z = nI 4
          · exact Or.inr (Or.inr (Or.inr (Or.inr (Or.inl h4))))
          · refine Or.inr (Or.inr (Or.inr (Or.inr (Or.inr ⟨?_, h0, h1, h2, h3, h4⟩))))
            have g : ∀ k : Nat, k < 5 → ¬ z = nI k → ¬ z.toInt = k := fun k hk hz q => hz (Int32.toInt_inj.mp (by rw [nI_toInt (by omega)]; exact q))
            have g0 := g 0 (by omega) h0
            have g1 := g 1 (by omega) h1
            have g2 := g 2 (by omega) h2
            have g3 := g 3 (by omega) h3
            have g4 := g 4 (by omega) h4
            omega
end
section
/-! java.util.Arrays.fill of ints -/
set_option maxRecDepth 100000 in
set_option maxHeartbeats 4000000 in
theorem jc_fill (l : Launch) (D : va_G) (cI : ClassId) (a n : Nat) (f : Nat → Int32) (z : Int32) (hn : n < 2 ^ 31) : jkV l yJ7_fill wsJ7_fill ({ frames := 0, cells := 0, slots := 0, locals := 0 }) D vwCl [(cI, .int)] (fun g : Nat → Int32 => [(a, .inl (cI, n, .inl g))]) [.ref a, .int z] [(a, .inl (cI, n, .inl f))] (fun g => ∀ j, j < n → g j = z) := by
  refine jkV_of (cc := cJ7_fill) (maxL := 4) (ret := none) (by decide) rfl (Nat.le_of_ble_eq_true rfl) ?_
  intro p e R s m args below meth c Q A K hn9 hR9 hQ9
  show jaW p l e R s m args below meth c 0 0 Q D vwCl A 4 [(a, .inl (cI, n, .inl f))] [(0, .ref a), (1, .int z)] 0 []
  refine ja_iconst K (nI 0) dJ7_fill_0 (by decide) ?_
  refine ja_istore_n K (lv1 := [(0, .ref a), (1, .int z), (2, .int (nI 0))]) dJ7_fill_1 (by decide) rfl rfl ?_
  refine ja_aload_n K 0 dJ7_fill_2 rfl ?_
  refine ja_alen K 0 0 rfl rfl dJ7_fill_3 ?_
  refine ja_istore_n K (lv1 := [(0, .ref a), (1, .int z), (2, .int (nI 0)), (3, .int (nI n))]) dJ7_fill_4 (by decide) rfl rfl ?_
  have L5 : ∀ (i : Nat) (g : Nat → Int32), (i ≤ n ∧ ∀ j, j < i → g j = z) → jaW p l e R s m args below meth c 0 0 Q D vwCl A 4 [(a, .inl (cI, n, .inl g))] [(0, .ref a), (1, .int z), (2, .int (nI i)), (3, .int (nI n))] 5 [] := by
    refine jl_2 (fun (i : Nat) (g : Nat → Int32) => n - i) (fun (i : Nat) (g : Nat → Int32) => i ≤ n ∧ ∀ j, j < i → g j = z) _ ?_
    intro i g hI IH
    refine ja_iload_n K 2 dJ7_fill_5 rfl ?_
    refine ja_iload_n K 3 dJ7_fill_6 rfl ?_
    refine ja_icmp_ge K (tgt := 20) (n ≤ i) dJ7_fill_7 (by decide) (nI_leI (by omega) (by omega)) (fun h7 => ?_) (fun h7 => ?_)
    · exact ja_vret K g rfl (Nat.zero_le _) (Nat.zero_le _) dJ7_fill_20 hQ9 rfl (fun j hj => hI.2 j (by omega))
    · refine ja_aload_n K 0 dJ7_fill_10 rfl ?_
      refine ja_iload_n K 2 dJ7_fill_11 rfl ?_
      refine ja_iload_n K 1 dJ7_fill_12 rfl ?_
      refine ja_iast K (ws1 := [(a, .inl (cI, n, .inl (upd g i z)))]) 0 0 rfl rfl i rfl (by omega) hn dJ7_fill_13 rfl ?_
      refine ja_iinc K (lv1 := [(0, .ref a), (1, .int z), (2, .int (nI (i + 1))), (3, .int (nI n))]) 2 (nI (i + 1)) dJ7_fill_14 rfl (ja_inc _) (by decide) rfl rfl ?_
      refine ja_goto K (tgt := 5) dJ7_fill_17 (by decide) ?_
      refine IH (i + 1) (upd g i z) ⟨by omega, fun j hj => ?_⟩ (by omega)
      by_cases e1 : j = i
      · subst e1; exact pk_us
      · rw [pk_un e1]; exact hI.2 j (by omega)
  exact L5 0 f ⟨Nat.zero_le _, fun j hj => absurd hj (Nat.not_lt_zero _)⟩
end
section
/-! Arrays.fill over the cells of the component -/
set_option maxRecDepth 100000 in
set_option maxHeartbeats 4000000 in
theorem jx_fillY {p : Program} {l : Launch} {e : Env} {R : Room} {s : State} {m : MethodId} {args : Array Value} {below : List Frame} {meth : Method} {c : Code} {cells slots : Nat} {Q : State → Prop} {D : va_G} {A : Nat → Prop} {nL : Nat} {cc : ByteArray} {c0 : Cond} {ret : Option FieldType} {lv : List (Nat × Value)} {pc : Nat} {st : List Value} {q : Nat → Nat} {cI cZ : ClassId} {u : JX} {z : Int32} (K : jaC p s m args meth c D vwCl (jxt cI cZ) cc nL (c0 :: jW0) RX0 ret A) (hR : 1 ≤ R.frames ∧ 23 ≤ R.locals) (hst : (st.map fun v => v.category).sum ≤ 8) (hd : decode cc pc = .ok (.invokestatic 51, 3)) (hf : cells + 0 ≤ R.cells ∧ slots + 0 ≤ R.slots) (k : ∀ g : Nat → Int32, (∀ j, j < 4 → g j = z) → jaW p l e R s m args below meth c cells slots Q D vwCl A nL (jxc q cI cZ (jxsY u g)) lv (pc + 3) st) : jaW p l e R s m args below meth c cells slots Q D vwCl A nL (jxc q cI cZ u) lv pc (.int z :: .ref (q 10) :: st) := by
  refine ja_fcallSV K (st := st) (w0 := [(q 10, .inl (cI, 4, .inl (jxY (u))))]) (wr := [(q 0, .inr (0, [.int (jxN (u)), .ref (q 1), .ref (q 2), .ref (q 3), .int (jxK (u)), .ref (q 4), .ref (q 5), .ref (q 6), .ref (q 7), .ref (q 8), .ref (q 9), .ref (q 10), .ref (q 11)])), (q 1, .inl (cI, 14, .inl (jxT (u)))), (q 2, .inl (cZ, 14, .inl (jxM (u)))), (q 3, .inl (cI, 840, .inl (jxU (u)))), (q 4, .inl (cI, 8, .inl (jxP (u)))), (q 5, .inl (cI, 8, .inl (jxA (u)))), (q 6, .inl (cI, 112, .inl (jxL (u)))), (q 7, .inl (cI, 14, .inl (jxB (u)))), (q 8, .inl (cI, 14, .inl (jxC (u)))), (q 9, .inl (cI, 60, .inl (jxG (u)))), (q 11, .inl (cI, 14, .inl (jxR (u))))]) [10] [0, 1, 2, 3, 4, 5, 6, 7, 8, 9, 11] [0] rfl rfl rfl rfl rfl (by decide) rfl [.ref (q 10), .int z] (jc_fill l D cI (q 10) 4 (jxY u) z (by decide)) (va_cwS 2 K.1.2.2.2.2 (gX0_J7_fill _) rfl rfl rfl (by decide +kernel) hR) rfl rfl rfl hst hd hf (fun g hg => ?_)
  refine ja_perm (ws1 := jxc q cI cZ (jxsY u g)) [0, 1, 2, 3, 4, 5, 6, 7, 8, 9, 11, 10] rfl rfl rfl ?_
  exact k g hg
set_option maxRecDepth 100000 in
set_option maxHeartbeats 4000000 in
theorem jx_fillC {p : Program} {l : Launch} {e : Env} {R : Room} {s : State} {m : MethodId} {args : Array Value} {below : List Frame} {meth : Method} {c : Code} {cells slots : Nat} {Q : State → Prop} {D : va_G} {A : Nat → Prop} {nL : Nat} {cc : ByteArray} {c0 : Cond} {ret : Option FieldType} {lv : List (Nat × Value)} {pc : Nat} {st : List Value} {q : Nat → Nat} {cI cZ : ClassId} {u : JX} {z : Int32} (K : jaC p s m args meth c D vwCl (jxt cI cZ) cc nL (c0 :: jW0) RX0 ret A) (hR : 1 ≤ R.frames ∧ 23 ≤ R.locals) (hst : (st.map fun v => v.category).sum ≤ 8) (hd : decode cc pc = .ok (.invokestatic 51, 3)) (hf : cells + 0 ≤ R.cells ∧ slots + 0 ≤ R.slots) (k : ∀ g : Nat → Int32, (∀ j, j < 14 → g j = z) → jaW p l e R s m args below meth c cells slots Q D vwCl A nL (jxc q cI cZ (jxsC u g)) lv (pc + 3) st) : jaW p l e R s m args below meth c cells slots Q D vwCl A nL (jxc q cI cZ u) lv pc (.int z :: .ref (q 8) :: st) := by
  refine ja_fcallSV K (st := st) (w0 := [(q 8, .inl (cI, 14, .inl (jxC (u))))]) (wr := [(q 0, .inr (0, [.int (jxN (u)), .ref (q 1), .ref (q 2), .ref (q 3), .int (jxK (u)), .ref (q 4), .ref (q 5), .ref (q 6), .ref (q 7), .ref (q 8), .ref (q 9), .ref (q 10), .ref (q 11)])), (q 1, .inl (cI, 14, .inl (jxT (u)))), (q 2, .inl (cZ, 14, .inl (jxM (u)))), (q 3, .inl (cI, 840, .inl (jxU (u)))), (q 4, .inl (cI, 8, .inl (jxP (u)))), (q 5, .inl (cI, 8, .inl (jxA (u)))), (q 6, .inl (cI, 112, .inl (jxL (u)))), (q 7, .inl (cI, 14, .inl (jxB (u)))), (q 9, .inl (cI, 60, .inl (jxG (u)))), (q 10, .inl (cI, 4, .inl (jxY (u)))), (q 11, .inl (cI, 14, .inl (jxR (u))))]) [8] [0, 1, 2, 3, 4, 5, 6, 7, 9, 10, 11] [0] rfl rfl rfl rfl rfl (by decide) rfl [.ref (q 8), .int z] (jc_fill l D cI (q 8) 14 (jxC u) z (by decide)) (va_cwS 2 K.1.2.2.2.2 (gX0_J7_fill _) rfl rfl rfl (by decide +kernel) hR) rfl rfl rfl hst hd hf (fun g hg => ?_)
  refine ja_perm (ws1 := jxc q cI cZ (jxsC u g)) [0, 1, 2, 3, 4, 5, 6, 7, 11, 8, 9, 10] rfl rfl rfl ?_
  exact k g hg
set_option maxRecDepth 100000 in
set_option maxHeartbeats 4000000 in
theorem jx_fillR {p : Program} {l : Launch} {e : Env} {R : Room} {s : State} {m : MethodId} {args : Array Value} {below : List Frame} {meth : Method} {c : Code} {cells slots : Nat} {Q : State → Prop} {D : va_G} {A : Nat → Prop} {nL : Nat} {cc : ByteArray} {c0 : Cond} {ret : Option FieldType} {lv : List (Nat × Value)} {pc : Nat} {st : List Value} {q : Nat → Nat} {cI cZ : ClassId} {u : JX} {z : Int32} (K : jaC p s m args meth c D vwCl (jxt cI cZ) cc nL (c0 :: jW0) RX0 ret A) (hR : 1 ≤ R.frames ∧ 23 ≤ R.locals) (hst : (st.map fun v => v.category).sum ≤ 8) (hd : decode cc pc = .ok (.invokestatic 51, 3)) (hf : cells + 0 ≤ R.cells ∧ slots + 0 ≤ R.slots) (k : ∀ g : Nat → Int32, (∀ j, j < 14 → g j = z) → jaW p l e R s m args below meth c cells slots Q D vwCl A nL (jxc q cI cZ (jxsR u g)) lv (pc + 3) st) : jaW p l e R s m args below meth c cells slots Q D vwCl A nL (jxc q cI cZ u) lv pc (.int z :: .ref (q 11) :: st) := by
  refine ja_fcallSV K (st := st) (w0 := [(q 11, .inl (cI, 14, .inl (jxR (u))))]) (wr := [(q 0, .inr (0, [.int (jxN (u)), .ref (q 1), .ref (q 2), .ref (q 3), .int (jxK (u)), .ref (q 4), .ref (q 5), .ref (q 6), .ref (q 7), .ref (q 8), .ref (q 9), .ref (q 10), .ref (q 11)])), (q 1, .inl (cI, 14, .inl (jxT (u)))), (q 2, .inl (cZ, 14, .inl (jxM (u)))), (q 3, .inl (cI, 840, .inl (jxU (u)))), (q 4, .inl (cI, 8, .inl (jxP (u)))), (q 5, .inl (cI, 8, .inl (jxA (u)))), (q 6, .inl (cI, 112, .inl (jxL (u)))), (q 7, .inl (cI, 14, .inl (jxB (u)))), (q 8, .inl (cI, 14, .inl (jxC (u)))), (q 9, .inl (cI, 60, .inl (jxG (u)))), (q 10, .inl (cI, 4, .inl (jxY (u))))]) [11] [0, 1, 2, 3, 4, 5, 6, 7, 8, 9, 10] [0] rfl rfl rfl rfl rfl (by decide) rfl [.ref (q 11), .int z] (jc_fill l D cI (q 11) 14 (jxR u) z (by decide)) (va_cwS 2 K.1.2.2.2.2 (gX0_J7_fill _) rfl rfl rfl (by decide +kernel) hR) rfl rfl rfl hst hd hf (fun g hg => ?_)
  refine ja_perm (ws1 := jxc q cI cZ (jxsR u g)) [0, 1, 2, 3, 4, 5, 6, 7, 8, 9, 10, 11] rfl rfl rfl ?_
  exact k g hg
set_option maxRecDepth 100000 in
set_option maxHeartbeats 4000000 in
theorem jx_fillU {p : Program} {l : Launch} {e : Env} {R : Room} {s : State} {m : MethodId} {args : Array Value} {below : List Frame} {meth : Method} {c : Code} {cells slots : Nat} {Q : State → Prop} {D : va_G} {A : Nat → Prop} {nL : Nat} {cc : ByteArray} {c0 : Cond} {ret : Option FieldType} {lv : List (Nat × Value)} {pc : Nat} {st : List Value} {q : Nat → Nat} {cI cZ : ClassId} {u : JX} {z : Int32} (K : jaC p s m args meth c D vwCl (jxt cI cZ) cc nL (c0 :: jW0) RX0 ret A) (hR : 1 ≤ R.frames ∧ 23 ≤ R.locals) (hst : (st.map fun v => v.category).sum ≤ 8) (hd : decode cc pc = .ok (.invokestatic 51, 3)) (hf : cells + 0 ≤ R.cells ∧ slots + 0 ≤ R.slots) (k : ∀ g : Nat → Int32, (∀ j, j < 840 → g j = z) → jaW p l e R s m args below meth c cells slots Q D vwCl A nL (jxc q cI cZ (jxsU u g)) lv (pc + 3) st) : jaW p l e R s m args below meth c cells slots Q D vwCl A nL (jxc q cI cZ u) lv pc (.int z :: .ref (q 3) :: st) := by
  refine ja_fcallSV K (st := st) (w0 := [(q 3, .inl (cI, 840, .inl (jxU (u))))]) (wr := [(q 0, .inr (0, [.int (jxN (u)), .ref (q 1), .ref (q 2), .ref (q 3), .int (jxK (u)), .ref (q 4), .ref (q 5), .ref (q 6), .ref (q 7), .ref (q 8), .ref (q 9), .ref (q 10), .ref (q 11)])), (q 1, .inl (cI, 14, .inl (jxT (u)))), (q 2, .inl (cZ, 14, .inl (jxM (u)))), (q 4, .inl (cI, 8, .inl (jxP (u)))), (q 5, .inl (cI, 8, .inl (jxA (u)))), (q 6, .inl (cI, 112, .inl (jxL (u)))), (q 7, .inl (cI, 14, .inl (jxB (u)))), (q 8, .inl (cI, 14, .inl (jxC (u)))), (q 9, .inl (cI, 60, .inl (jxG (u)))), (q 10, .inl (cI, 4, .inl (jxY (u)))), (q 11, .inl (cI, 14, .inl (jxR (u))))]) [3] [0, 1, 2, 4, 5, 6, 7, 8, 9, 10, 11] [0] rfl rfl rfl rfl rfl (by decide) rfl [.ref (q 3), .int z] (jc_fill l D cI (q 3) 840 (jxU u) z (by decide)) (va_cwS 2 K.1.2.2.2.2 (gX0_J7_fill _) rfl rfl rfl (by decide +kernel) hR) rfl rfl rfl hst hd hf (fun g hg => ?_)
  refine ja_perm (ws1 := jxc q cI cZ (jxsU u g)) [0, 1, 2, 11, 3, 4, 5, 6, 7, 8, 9, 10] rfl rfl rfl ?_
  exact k g hg
set_option maxRecDepth 100000 in
set_option maxHeartbeats 4000000 in
theorem jx_fillL {p : Program} {l : Launch} {e : Env} {R : Room} {s : State} {m : MethodId} {args : Array Value} {below : List Frame} {meth : Method} {c : Code} {cells slots : Nat} {Q : State → Prop} {D : va_G} {A : Nat → Prop} {nL : Nat} {cc : ByteArray} {c0 : Cond} {ret : Option FieldType} {lv : List (Nat × Value)} {pc : Nat} {st : List Value} {q : Nat → Nat} {cI cZ : ClassId} {u : JX} {z : Int32} (K : jaC p s m args meth c D vwCl (jxt cI cZ) cc nL (c0 :: jW0) RX0 ret A) (hR : 1 ≤ R.frames ∧ 23 ≤ R.locals) (hst : (st.map fun v => v.category).sum ≤ 8) (hd : decode cc pc = .ok (.invokestatic 51, 3)) (hf : cells + 0 ≤ R.cells ∧ slots + 0 ≤ R.slots) (k : ∀ g : Nat → Int32, (∀ j, j < 112 → g j = z) → jaW p l e R s m args below meth c cells slots Q D vwCl A nL (jxc q cI cZ (jxsL u g)) lv (pc + 3) st) : jaW p l e R s m args below meth c cells slots Q D vwCl A nL (jxc q cI cZ u) lv pc (.int z :: .ref (q 6) :: st) := by
  refine ja_fcallSV K (st := st) (w0 := [(q 6, .inl (cI, 112, .inl (jxL (u))))]) (wr := [(q 0, .inr (0, [.int (jxN (u)), .ref (q 1), .ref (q 2), .ref (q 3), .int (jxK (u)), .ref (q 4), .ref (q 5), .ref (q 6), .ref (q 7), .ref (q 8), .ref (q 9), .ref (q 10), .ref (q 11)])), (q 1, .inl (cI, 14, .inl (jxT (u)))), (q 2, .inl (cZ, 14, .inl (jxM (u)))), (q 3, .inl (cI, 840, .inl (jxU (u)))), (q 4, .inl (cI, 8, .inl (jxP (u)))), (q 5, .inl (cI, 8, .inl (jxA (u)))), (q 7, .inl (cI, 14, .inl (jxB (u)))), (q 8, .inl (cI, 14, .inl (jxC (u)))), (q 9, .inl (cI, 60, .inl (jxG (u)))), (q 10, .inl (cI, 4, .inl (jxY (u)))), (q 11, .inl (cI, 14, .inl (jxR (u))))]) [6] [0, 1, 2, 3, 4, 5, 7, 8, 9, 10, 11] [0] rfl rfl rfl rfl rfl (by decide) rfl [.ref (q 6), .int z] (jc_fill l D cI (q 6) 112 (jxL u) z (by decide)) (va_cwS 2 K.1.2.2.2.2 (gX0_J7_fill _) rfl rfl rfl (by decide +kernel) hR) rfl rfl rfl hst hd hf (fun g hg => ?_)
  refine ja_perm (ws1 := jxc q cI cZ (jxsL u g)) [0, 1, 2, 3, 4, 5, 11, 6, 7, 8, 9, 10] rfl rfl rfl ?_
  exact k g hg
set_option maxRecDepth 100000 in
set_option maxHeartbeats 4000000 in
theorem jx_fillB {p : Program} {l : Launch} {e : Env} {R : Room} {s : State} {m : MethodId} {args : Array Value} {below : List Frame} {meth : Method} {c : Code} {cells slots : Nat} {Q : State → Prop} {D : va_G} {A : Nat → Prop} {nL : Nat} {cc : ByteArray} {c0 : Cond} {ret : Option FieldType} {lv : List (Nat × Value)} {pc : Nat} {st : List Value} {q : Nat → Nat} {cI cZ : ClassId} {u : JX} {z : Int32} (K : jaC p s m args meth c D vwCl (jxt cI cZ) cc nL (c0 :: jW0) RX0 ret A) (hR : 1 ≤ R.frames ∧ 23 ≤ R.locals) (hst : (st.map fun v => v.category).sum ≤ 8) (hd : decode cc pc = .ok (.invokestatic 51, 3)) (hf : cells + 0 ≤ R.cells ∧ slots + 0 ≤ R.slots) (k : ∀ g : Nat → Int32, (∀ j, j < 14 → g j = z) → jaW p l e R s m args below meth c cells slots Q D vwCl A nL (jxc q cI cZ (jxsB u g)) lv (pc + 3) st) : jaW p l e R s m args below meth c cells slots Q D vwCl A nL (jxc q cI cZ u) lv pc (.int z :: .ref (q 7) :: st) := by
  refine ja_fcallSV K (st := st) (w0 := [(q 7, .inl (cI, 14, .inl (jxB (u))))]) (wr := [(q 0, .inr (0, [.int (jxN (u)), .ref (q 1), .ref (q 2), .ref (q 3), .int (jxK (u)), .ref (q 4), .ref (q 5), .ref (q 6), .ref (q 7), .ref (q 8), .ref (q 9), .ref (q 10), .ref (q 11)])), (q 1, .inl (cI, 14, .inl (jxT (u)))), (q 2, .inl (cZ, 14, .inl (jxM (u)))), (q 3, .inl (cI, 840, .inl (jxU (u)))), (q 4, .inl (cI, 8, .inl (jxP (u)))), (q 5, .inl (cI, 8, .inl (jxA (u)))), (q 6, .inl (cI, 112, .inl (jxL (u)))), (q 8, .inl (cI, 14, .inl (jxC (u)))), (q 9, .inl (cI, 60, .inl (jxG (u)))), (q 10, .inl (cI, 4, .inl (jxY (u)))), (q 11, .inl (cI, 14, .inl (jxR (u))))]) [7] [0, 1, 2, 3, 4, 5, 6, 8, 9, 10, 11] [0] rfl rfl rfl rfl rfl (by decide) rfl [.ref (q 7), .int z] (jc_fill l D cI (q 7) 14 (jxB u) z (by decide)) (va_cwS 2 K.1.2.2.2.2 (gX0_J7_fill _) rfl rfl rfl (by decide +kernel) hR) rfl rfl rfl hst hd hf (fun g hg => ?_)
  refine ja_perm (ws1 := jxc q cI cZ (jxsB u g)) [0, 1, 2, 3, 4, 5, 6, 11, 7, 8, 9, 10] rfl rfl rfl ?_
  exact k g hg
end
section
/-! Values of the sums. -/
theorem jund_le (S : JS) (x c : Nat) : jundS S x c ≤ jN S := jct_le _ _
theorem jfork_le (S : JS) (x c : Nat) : jfork (jN S) (jM S) (jU S x) c ≤ jN S := jct_le _ _
theorem jbits_set {S : JS} {x i B : Nat} (h : ∀ c, B.testBit c = (decide (c < i) && jmatS S x c)) (hm : jmatS S x i = true) (c : Nat) : (B ||| 2 ^ i).testBit c = (decide (c < i + 1) && jmatS S x c) := by
  rw [jbit_or, h c]
  by_cases q : i = c
  · subst q; simp [hm]
  · rw [show decide (c < i + 1) = decide (c < i) by simp; omega]
    simp [q]
theorem jbits_not {S : JS} {x i B : Nat} (h : ∀ c, B.testBit c = (decide (c < i) && jmatS S x c)) (hm : jmatS S x i = false) (c : Nat) : B.testBit c = (decide (c < i + 1) && jmatS S x c) := by
  rw [h c]
  by_cases q : i = c
  · subst q; simp [hm]
  · rw [show decide (c < i + 1) = decide (c < i) by simp; omega]
theorem jor_lt {B i : Nat} (h : B < 16384) (hi : i < 14) : B ||| 2 ^ i < 16384 := Nat.or_lt_two_pow (n := 14) h (Nat.pow_lt_pow_right (by omega) hi)
theorem jmat_t1 {S : JS} {x c : Nat} (h : jM S c = true) : jmatS S x c = true := by simp [jmatS, jmat, h]
theorem jmat_t2 {S : JS} {x c : Nat} (h : ¬ jfork (jN S) (jM S) (jU S x) c < 2) : jmatS S x c = true := by simp [jmatS, jmat]; right; omega
theorem jmat_f {S : JS} {x c : Nat} (h1 : jM S c = false) (h2 : jfork (jN S) (jM S) (jU S x) c < 2) : jmatS S x c = false := by simp [jmatS, jmat, h1]; omega
theorem jarT_none {S : JS} {x c : Nat} (h : jU S x c = none) : jarT S x c = 0 := by simp [jarT, h]
theorem jarT_pos {S : JS} {x c p : Nat} (h : jU S x c = some p) (h2 : 0 < jundS S x c ∧ jundS S x c < jct (jM S) (jN S)) : jarT S x c = nI (jT S p) - nI (jT S c) := by simp [jarT, h, h2]
theorem jarT_neg {S : JS} {x c p : Nat} (h : jU S x c = some p) (h2 : ¬ (0 < jundS S x c ∧ jundS S x c < jct (jM S) (jN S))) : jarT S x c = 0 := by simp only [jarT, h, if_neg h2]
theorem jin_ff3 {z : Int32} {k : Nat} (hk : k < 2 ^ 30) (h : ¬ z ≤ nI k) : jin z (k + 1) = false := by
  simp only [jin, decide_eq_false_iff_not]
  rw [Int32.le_iff_toInt_le, nI_toInt (by omega)] at h
  rw [Int32.lt_iff_toInt_lt, nI_toInt (by omega)]
  omega
theorem jin_le {z : Int32} {k : Nat} (h1 : ¬ z < 0) (h : z ≤ nI k) (hk : k < 2 ^ 30 := by decide) : jin z (k + 1) = true := by
  simp only [jin, decide_eq_true_eq]
  rw [Int32.lt_iff_toInt_lt] at h1
  rw [Int32.le_iff_toInt_le, nI_toInt (by omega)] at h
  rw [Int32.le_iff_toInt_le, Int32.lt_iff_toInt_lt, nI_toInt (by omega)]
  omega
end
section
set_option maxRecDepth 100000 in
set_option maxHeartbeats 4000000 in
theorem jc_isNode (l : Launch) (D : va_G) (q : Nat → Nat) (cI cZ : ClassId) (S : JS) (u : JX) (hW9 : jWf S) (hS9 : jxR1 S u) (z : Int32) : jkI l yX0_isNode wsX0_isNode ({ frames := 0, cells := 0, slots := 0, locals := 0 }) D vwCl (jxt cI cZ) (jxc q cI cZ) [.ref (q 0), .int z] (jxc q cI cZ u) (fun r u1 => jbI (jin z (jN S)) = r ∧ u = u1) := by
  refine jkI_of (cc := cX0_isNode) (maxL := 2) (ret := (some .boolean)) (by decide) rfl (Nat.le_of_ble_eq_true rfl) ?_
  intro p e R s m args below meth c Q A K hn9 hR9 hQ9
  obtain ⟨rN, rT, rM, rU, rK, rP, rA, rL, rB⟩ := id hS9
  obtain ⟨wn, wt, wu, wk, wp, wl, wb⟩ := id hW9
  have hu9 : ∀ w ∈ u_ws RX0 TX0 13, w ∈ wsX0_isNode := fun w h => List.mem_cons_of_mem _ (ku_X0 w h)
  show jaW p l e R s m args below meth c 0 0 Q D vwCl A 2 (jxc q cI cZ u) [(0, .ref (q 0)), (1, .int (z))] 0 []
  refine ja_iload_n K 1 dX0_isNode_0 rfl ?_
  refine ja_if_lt K (tgt := 16) (z < 0) dX0_isNode_1 (by decide) Iff.rfl (fun h1 => ?_) (fun h1 => ?_)
  · refine ja_iconst K (nI 0) dX0_isNode_16 (by decide) ?_
    exact ja_zret K (u) rfl (by first | exact ja_nz1 | exact ja_nz0 | exact jbI_narrow _) (Nat.zero_le _) (Nat.zero_le _) dX0_isNode_17 hQ9 rfl ⟨by first | exact jin_t ‹_› ‹_› | exact jin_f1 ‹_› | exact jin_f2 ‹_›, rfl⟩
  · refine ja_iload_n K 1 dX0_isNode_4 rfl ?_
    refine ja_aload_n K 0 dX0_isNode_5 rfl ?_
    refine ja_get K hu9 0 rfl rfl 0 (by decide) (List.mem_cons_of_mem _ kfX0_7) rfl (congrArg (fun z9 => some (Value.int z9)) rN) dX0_isNode_6 ?_
    refine ja_icmp_ge K (tgt := 16) (nI ((jN S)) ≤ z) dX0_isNode_9 (by decide) Iff.rfl (fun h9 => ?_) (fun h9 => ?_)
    · refine ja_iconst K (nI 0) dX0_isNode_16 (by decide) ?_
      exact ja_zret K (u) rfl (by first | exact ja_nz1 | exact ja_nz0 | exact jbI_narrow _) (Nat.zero_le _) (Nat.zero_le _) dX0_isNode_17 hQ9 rfl ⟨by first | exact jin_t ‹_› ‹_› | exact jin_f1 ‹_› | exact jin_f2 ‹_›, rfl⟩
    · refine ja_iconst K (nI 1) dX0_isNode_12 (by decide) ?_
      refine ja_goto K (tgt := 17) dX0_isNode_13 (by decide) ?_
      exact ja_zret K (u) rfl (by first | exact ja_nz1 | exact ja_nz0 | exact jbI_narrow _) (Nat.zero_le _) (Nat.zero_le _) dX0_isNode_17 hQ9 rfl ⟨by first | exact jin_t ‹_› ‹_› | exact jin_f1 ‹_› | exact jin_f2 ‹_›, rfl⟩
set_option maxRecDepth 100000 in
set_option maxHeartbeats 4000000 in
theorem jc_isSite (l : Launch) (D : va_G) (q : Nat → Nat) (cI cZ : ClassId) (S : JS) (u : JX) (hW9 : jWf S) (hS9 : jxR1 S u) (z : Int32) : jkI l yX0_isSite wsX0_isSite ({ frames := 0, cells := 0, slots := 0, locals := 0 }) D vwCl (jxt cI cZ) (jxc q cI cZ) [.ref (q 0), .int z] (jxc q cI cZ u) (fun r u1 => jbI (jin z (jK S)) = r ∧ u = u1) := by
  refine jkI_of (cc := cX0_isSite) (maxL := 2) (ret := (some .boolean)) (by decide) rfl (Nat.le_of_ble_eq_true rfl) ?_
  intro p e R s m args below meth c Q A K hn9 hR9 hQ9
  obtain ⟨rN, rT, rM, rU, rK, rP, rA, rL, rB⟩ := id hS9
  obtain ⟨wn, wt, wu, wk, wp, wl, wb⟩ := id hW9
  have hu9 : ∀ w ∈ u_ws RX0 TX0 13, w ∈ wsX0_isSite := fun w h => List.mem_cons_of_mem _ (ku_X0 w h)
  show jaW p l e R s m args below meth c 0 0 Q D vwCl A 2 (jxc q cI cZ u) [(0, .ref (q 0)), (1, .int (z))] 0 []
  refine ja_iload_n K 1 dX0_isSite_0 rfl ?_
  refine ja_if_lt K (tgt := 16) (z < 0) dX0_isSite_1 (by decide) Iff.rfl (fun h1 => ?_) (fun h1 => ?_)
  · refine ja_iconst K (nI 0) dX0_isSite_16 (by decide) ?_
    exact ja_zret K (u) rfl (by first | exact ja_nz1 | exact ja_nz0 | exact jbI_narrow _) (Nat.zero_le _) (Nat.zero_le _) dX0_isSite_17 hQ9 rfl ⟨by first | exact jin_t ‹_› ‹_› | exact jin_f1 ‹_› | exact jin_f2 ‹_›, rfl⟩
  · refine ja_iload_n K 1 dX0_isSite_4 rfl ?_
    refine ja_aload_n K 0 dX0_isSite_5 rfl ?_
    refine ja_get K hu9 0 rfl rfl 4 (by decide) (List.mem_cons_of_mem _ kfX0_24) rfl (congrArg (fun z9 => some (Value.int z9)) rK) dX0_isSite_6 ?_
    refine ja_icmp_ge K (tgt := 16) (nI ((jK S)) ≤ z) dX0_isSite_9 (by decide) Iff.rfl (fun h9 => ?_) (fun h9 => ?_)
    · refine ja_iconst K (nI 0) dX0_isSite_16 (by decide) ?_
      exact ja_zret K (u) rfl (by first | exact ja_nz1 | exact ja_nz0 | exact jbI_narrow _) (Nat.zero_le _) (Nat.zero_le _) dX0_isSite_17 hQ9 rfl ⟨by first | exact jin_t ‹_› ‹_› | exact jin_f1 ‹_› | exact jin_f2 ‹_›, rfl⟩
    · refine ja_iconst K (nI 1) dX0_isSite_12 (by decide) ?_
      refine ja_goto K (tgt := 17) dX0_isSite_13 (by decide) ?_
      exact ja_zret K (u) rfl (by first | exact ja_nz1 | exact ja_nz0 | exact jbI_narrow _) (Nat.zero_le _) (Nat.zero_le _) dX0_isSite_17 hQ9 rfl ⟨by first | exact jin_t ‹_› ‹_› | exact jin_f1 ‹_› | exact jin_f2 ‹_›, rfl⟩
set_option maxRecDepth 100000 in
set_option maxHeartbeats 4000000 in
theorem jc_isPlace (l : Launch) (D : va_G) (q : Nat → Nat) (cI cZ : ClassId) (u : JX) (z : Int32) : jkI l yX0_isPlace wsX0_isPlace ({ frames := 0, cells := 0, slots := 0, locals := 0 }) D vwCl (jxt cI cZ) (jxc q cI cZ) [.int z] (jxc q cI cZ u) (fun r u1 => jbI (jin z 60) = r ∧ u = u1) := by
  refine jkI_of (cc := cX0_isPlace) (maxL := 1) (ret := (some .boolean)) (by decide) rfl (Nat.le_of_ble_eq_true rfl) ?_
  intro p e R s m args below meth c Q A K hn9 hR9 hQ9
  show jaW p l e R s m args below meth c 0 0 Q D vwCl A 1 (jxc q cI cZ u) [(0, .int (z))] 0 []
  refine ja_iload_n K 0 dX0_isPlace_0 rfl ?_
  refine ja_if_lt K (tgt := 14) (z < 0) dX0_isPlace_1 (by decide) Iff.rfl (fun h1 => ?_) (fun h1 => ?_)
  · refine ja_iconst K (nI 0) dX0_isPlace_14 (by decide) ?_
    exact ja_zret K (u) rfl (by first | exact ja_nz1 | exact ja_nz0 | exact jbI_narrow _) (Nat.zero_le _) (Nat.zero_le _) dX0_isPlace_15 hQ9 rfl ⟨by first | exact jin_t ‹_› ‹_› | exact jin_f1 ‹_› | exact jin_f2 ‹_›, rfl⟩
  · refine ja_iload_n K 0 dX0_isPlace_4 rfl ?_
    refine ja_bipush K (nI 60) dX0_isPlace_5 (by decide) ?_
    refine ja_icmp_ge K (tgt := 14) (nI 60 ≤ z) dX0_isPlace_7 (by decide) Iff.rfl (fun h7 => ?_) (fun h7 => ?_)
    · refine ja_iconst K (nI 0) dX0_isPlace_14 (by decide) ?_
      exact ja_zret K (u) rfl (by first | exact ja_nz1 | exact ja_nz0 | exact jbI_narrow _) (Nat.zero_le _) (Nat.zero_le _) dX0_isPlace_15 hQ9 rfl ⟨by first | exact jin_t ‹_› ‹_› | exact jin_f1 ‹_› | exact jin_f2 ‹_›, rfl⟩
    · refine ja_iconst K (nI 1) dX0_isPlace_10 (by decide) ?_
      refine ja_goto K (tgt := 15) dX0_isPlace_11 (by decide) ?_
      exact ja_zret K (u) rfl (by first | exact ja_nz1 | exact ja_nz0 | exact jbI_narrow _) (Nat.zero_le _) (Nat.zero_le _) dX0_isPlace_15 hQ9 rfl ⟨by first | exact jin_t ‹_› ‹_› | exact jin_f1 ‹_› | exact jin_f2 ‹_›, rfl⟩
set_option maxRecDepth 100000 in
set_option maxHeartbeats 4000000 in
theorem jc_isRun (l : Launch) (D : va_G) (q : Nat → Nat) (cI cZ : ClassId) (u : JX) (a b : Int32) : jkI l yX0_isRun wsX0_isRun ({ frames := 0, cells := 0, slots := 0, locals := 0 }) D vwCl (jxt cI cZ) (jxc q cI cZ) [.int a, .int b] (jxc q cI cZ u) (fun r u1 => jbI (jrun a b) = r ∧ u = u1) := by
  refine jkI_of (cc := cX0_isRun) (maxL := 2) (ret := (some .boolean)) (by decide) rfl (Nat.le_of_ble_eq_true rfl) ?_
  intro p e R s m args below meth c Q A K hn9 hR9 hQ9
  show jaW p l e R s m args below meth c 0 0 Q D vwCl A 2 (jxc q cI cZ u) [(0, .int (a)), (1, .int (b))] 0 []
  refine ja_iload_n K 0 dX0_isRun_0 rfl ?_
  refine ja_if_lt K (tgt := 19) (a < 0) dX0_isRun_1 (by decide) Iff.rfl (fun h1 => ?_) (fun h1 => ?_)
  · refine ja_iconst K (nI 0) dX0_isRun_19 (by decide) ?_
    exact ja_zret K (u) rfl (by first | exact ja_nz1 | exact ja_nz0 | exact jbI_narrow _) (Nat.zero_le _) (Nat.zero_le _) dX0_isRun_20 hQ9 rfl ⟨by first | exact jrun_t ‹_› ‹_› ‹_› | exact jrun_f1 ‹_› | exact jrun_f2 ‹_› | exact jrun_f3 ‹_›, rfl⟩
  · refine ja_iload_n K 0 dX0_isRun_4 rfl ?_
    refine ja_iload_n K 1 dX0_isRun_5 rfl ?_
    refine ja_icmp_ge K (tgt := 19) (b ≤ a) dX0_isRun_6 (by decide) Iff.rfl (fun h6 => ?_) (fun h6 => ?_)
    · refine ja_iconst K (nI 0) dX0_isRun_19 (by decide) ?_
      exact ja_zret K (u) rfl (by first | exact ja_nz1 | exact ja_nz0 | exact jbI_narrow _) (Nat.zero_le _) (Nat.zero_le _) dX0_isRun_20 hQ9 rfl ⟨by first | exact jrun_t ‹_› ‹_› ‹_› | exact jrun_f1 ‹_› | exact jrun_f2 ‹_› | exact jrun_f3 ‹_›, rfl⟩
    · refine ja_iload_n K 1 dX0_isRun_9 rfl ?_
      refine ja_bipush K (nI 60) dX0_isRun_10 (by decide) ?_
      refine ja_icmp_gt K (tgt := 19) (nI 60 < b) dX0_isRun_12 (by decide) Iff.rfl (fun h12 => ?_) (fun h12 => ?_)
      · refine ja_iconst K (nI 0) dX0_isRun_19 (by decide) ?_
        exact ja_zret K (u) rfl (by first | exact ja_nz1 | exact ja_nz0 | exact jbI_narrow _) (Nat.zero_le _) (Nat.zero_le _) dX0_isRun_20 hQ9 rfl ⟨by first | exact jrun_t ‹_› ‹_› ‹_› | exact jrun_f1 ‹_› | exact jrun_f2 ‹_› | exact jrun_f3 ‹_›, rfl⟩
      · refine ja_iconst K (nI 1) dX0_isRun_15 (by decide) ?_
        refine ja_goto K (tgt := 20) dX0_isRun_16 (by decide) ?_
        exact ja_zret K (u) rfl (by first | exact ja_nz1 | exact ja_nz0 | exact jbI_narrow _) (Nat.zero_le _) (Nat.zero_le _) dX0_isRun_20 hQ9 rfl ⟨by first | exact jrun_t ‹_› ‹_› ‹_› | exact jrun_f1 ‹_› | exact jrun_f2 ‹_› | exact jrun_f3 ‹_›, rfl⟩
set_option maxRecDepth 100000 in
set_option maxHeartbeats 4000000 in
theorem jc_parentAt (l : Launch) (D : va_G) (q : Nat → Nat) (cI cZ : ClassId) (u : JX) (x c0 : Nat) (hx : x < 60) (hc : c0 < 14) (o : Option Nat) (ho : jxU u (x * 14 + c0) = jeI o) : jkI l yX0_parentAt wsX0_parentAt ({ frames := 0, cells := 0, slots := 0, locals := 0 }) D vwCl (jxt cI cZ) (jxc q cI cZ) [.ref (q 0), .int (nI x), .int (nI c0)] (jxc q cI cZ u) (fun r u1 => jeI o = r ∧ u = u1) := by
  refine jkI_of (cc := cX0_parentAt) (maxL := 3) (ret := (some .int)) (by decide) rfl (Nat.le_of_ble_eq_true rfl) ?_
  intro p e R s m args below meth c Q A K hn9 hR9 hQ9
  have hu9 : ∀ w ∈ u_ws RX0 TX0 13, w ∈ wsX0_parentAt := fun w h => List.mem_cons_of_mem _ (ku_X0 w h)
  show jaW p l e R s m args below meth c 0 0 Q D vwCl A 3 (jxc q cI cZ u) [(0, .ref (q 0)), (1, .int (nI (x))), (2, .int (nI (c0)))] 0 []
  refine ja_aload_n K 0 dX0_parentAt_0 rfl ?_
  refine ja_get K hu9 0 rfl rfl 3 (by decide) (List.mem_cons_of_mem _ kfX0_21) rfl rfl dX0_parentAt_1 ?_
  refine ja_iload_n K 1 dX0_parentAt_4 rfl ?_
  refine ja_bipush K (nI 14) dX0_parentAt_5 (by decide) ?_
  refine ja_imul K (nI ((x * 14))) dX0_parentAt_7 (pk_mul _ _) ?_
  refine ja_iload_n K 2 dX0_parentAt_8 rfl ?_
  refine ja_iadd K (nI (((x * 14) + c0))) dX0_parentAt_9 (nI_add _ _) ?_
  refine ja_iald K (v := jeI (o)) 3 0 rfl rfl (((x * 14) + c0)) rfl (by omega) (by decide) ho dX0_parentAt_10 ?_
  exact ja_iret K (u) rfl (Nat.zero_le _) (Nat.zero_le _) dX0_parentAt_11 hQ9 rfl ⟨rfl, rfl⟩
set_option maxRecDepth 100000 in
set_option maxHeartbeats 4000000 in
theorem jc_isEarlier (l : Launch) (D : va_G) (q : Nat → Nat) (cI cZ : ClassId) (S : JS) (u : JX) (hW9 : jWf S) (hS9 : jxR1 S u) (a b : Nat) (ha : a < jN S) (hb : b < jN S) : jkI l yX0_isEarlier wsX0_isEarlier ({ frames := 0, cells := 0, slots := 0, locals := 0 }) D vwCl (jxt cI cZ) (jxc q cI cZ) [.ref (q 0), .int (nI a), .int (nI b)] (jxc q cI cZ u) (fun r u1 => jbI (jlt (jT S) a b) = r ∧ u = u1) := by
  refine jkI_of (cc := cX0_isEarlier) (maxL := 3) (ret := (some .boolean)) (by decide) rfl (Nat.le_of_ble_eq_true rfl) ?_
  intro p e R s m args below meth c Q A K hn9 hR9 hQ9
  obtain ⟨rN, rT, rM, rU, rK, rP, rA, rL, rB⟩ := id hS9
  obtain ⟨wn, wt, wu, wk, wp, wl, wb⟩ := id hW9
  have hu9 : ∀ w ∈ u_ws RX0 TX0 13, w ∈ wsX0_isEarlier := fun w h => List.mem_cons_of_mem _ (ku_X0 w h)
  have ta := wt a ha
  have tb := wt b hb
  show jaW p l e R s m args below meth c 0 0 Q D vwCl A 3 (jxc q cI cZ u) [(0, .ref (q 0)), (1, .int (nI (a))), (2, .int (nI (b)))] 0 []
  refine ja_aload_n K 0 dX0_isEarlier_0 rfl ?_
  refine ja_get K hu9 0 rfl rfl 1 (by decide) (List.mem_cons_of_mem _ kfX0_13) rfl rfl dX0_isEarlier_1 ?_
  refine ja_iload_n K 1 dX0_isEarlier_4 rfl ?_
  refine ja_iald K (v := nI ((jT S (a)))) 1 0 rfl rfl (a) rfl (by omega) (by decide) (rT _ (by omega)) dX0_isEarlier_5 ?_
  refine ja_aload_n K 0 dX0_isEarlier_6 rfl ?_
  refine ja_get K hu9 0 rfl rfl 1 (by decide) (List.mem_cons_of_mem _ kfX0_13) rfl rfl dX0_isEarlier_7 ?_
  refine ja_iload_n K 2 dX0_isEarlier_10 rfl ?_
  refine ja_iald K (v := nI ((jT S (b)))) 1 0 rfl rfl (b) rfl (by omega) (by decide) (rT _ (by omega)) dX0_isEarlier_11 ?_
  refine ja_icmp_lt K (tgt := 35) ((jT S (a)) < (jT S (b))) dX0_isEarlier_12 (by decide) (nI_ltI (by omega) (by omega)) (fun h12 => ?_) (fun h12 => ?_)
  · refine ja_iconst K (nI 1) dX0_isEarlier_35 (by decide) ?_
    refine ja_goto K (tgt := 40) dX0_isEarlier_36 (by decide) ?_
    exact ja_zret K (u) rfl (by first | exact ja_nz1 | exact ja_nz0 | exact jbI_narrow _) (Nat.zero_le _) (Nat.zero_le _) dX0_isEarlier_40 hQ9 rfl ⟨by first | (refine jb1 ?_; simp only [jlt, Bool.or_eq_true, Bool.and_eq_true, decide_eq_true_eq, beq_iff_eq]; omega) | (refine jb0 ?_; simp only [jlt, Bool.or_eq_false_iff, Bool.and_eq_false_iff, decide_eq_false_iff_not, beq_eq_false_iff_ne]; omega), rfl⟩
  · refine ja_aload_n K 0 dX0_isEarlier_15 rfl ?_
    refine ja_get K hu9 0 rfl rfl 1 (by decide) (List.mem_cons_of_mem _ kfX0_13) rfl rfl dX0_isEarlier_16 ?_
    refine ja_iload_n K 1 dX0_isEarlier_19 rfl ?_
    refine ja_iald K (v := nI ((jT S (a)))) 1 0 rfl rfl (a) rfl (by omega) (by decide) (rT _ (by omega)) dX0_isEarlier_20 ?_
    refine ja_aload_n K 0 dX0_isEarlier_21 rfl ?_
    refine ja_get K hu9 0 rfl rfl 1 (by decide) (List.mem_cons_of_mem _ kfX0_13) rfl rfl dX0_isEarlier_22 ?_
    refine ja_iload_n K 2 dX0_isEarlier_25 rfl ?_
    refine ja_iald K (v := nI ((jT S (b)))) 1 0 rfl rfl (b) rfl (by omega) (by decide) (rT _ (by omega)) dX0_isEarlier_26 ?_
    refine ja_icmp_ne K (tgt := 39) (¬ (jT S (a)) = (jT S (b))) dX0_isEarlier_27 (by decide) (not_congr (nI_eq (by omega) (by omega))) (fun h27 => ?_) (fun h27 => ?_)
    · refine ja_iconst K (nI 0) dX0_isEarlier_39 (by decide) ?_
      exact ja_zret K (u) rfl (by first | exact ja_nz1 | exact ja_nz0 | exact jbI_narrow _) (Nat.zero_le _) (Nat.zero_le _) dX0_isEarlier_40 hQ9 rfl ⟨by first | (refine jb1 ?_; simp only [jlt, Bool.or_eq_true, Bool.and_eq_true, decide_eq_true_eq, beq_iff_eq]; omega) | (refine jb0 ?_; simp only [jlt, Bool.or_eq_false_iff, Bool.and_eq_false_iff, decide_eq_false_iff_not, beq_eq_false_iff_ne]; omega), rfl⟩
    · refine ja_iload_n K 1 dX0_isEarlier_30 rfl ?_
      refine ja_iload_n K 2 dX0_isEarlier_31 rfl ?_
      refine ja_icmp_ge K (tgt := 39) (b ≤ a) dX0_isEarlier_32 (by decide) (nI_leI (by omega) (by omega)) (fun h32 => ?_) (fun h32 => ?_)
      · refine ja_iconst K (nI 0) dX0_isEarlier_39 (by decide) ?_
        exact ja_zret K (u) rfl (by first | exact ja_nz1 | exact ja_nz0 | exact jbI_narrow _) (Nat.zero_le _) (Nat.zero_le _) dX0_isEarlier_40 hQ9 rfl ⟨by first | (refine jb1 ?_; simp only [jlt, Bool.or_eq_true, Bool.and_eq_true, decide_eq_true_eq, beq_iff_eq]; omega) | (refine jb0 ?_; simp only [jlt, Bool.or_eq_false_iff, Bool.and_eq_false_iff, decide_eq_false_iff_not, beq_eq_false_iff_ne]; omega), rfl⟩
      · refine ja_iconst K (nI 1) dX0_isEarlier_35 (by decide) ?_
        refine ja_goto K (tgt := 40) dX0_isEarlier_36 (by decide) ?_
        exact ja_zret K (u) rfl (by first | exact ja_nz1 | exact ja_nz0 | exact jbI_narrow _) (Nat.zero_le _) (Nat.zero_le _) dX0_isEarlier_40 hQ9 rfl ⟨by first | (refine jb1 ?_; simp only [jlt, Bool.or_eq_true, Bool.and_eq_true, decide_eq_true_eq, beq_iff_eq]; omega) | (refine jb0 ?_; simp only [jlt, Bool.or_eq_false_iff, Bool.and_eq_false_iff, decide_eq_false_iff_not, beq_eq_false_iff_ne]; omega), rfl⟩
set_option maxRecDepth 100000 in
set_option maxHeartbeats 4000000 in
theorem jc_became (l : Launch) (D : va_G) (q : Nat → Nat) (cI cZ : ClassId) (S : JS) (u : JX) (hW9 : jWf S) (hS9 : jxR1 S u) (z : Int32) : jkI l yX0_became wsX0_became ({ frames := 0, cells := 0, slots := 0, locals := 0 }) D vwCl (jxt cI cZ) (jxc q cI cZ) [.ref (q 0), .int z] (jxc q cI cZ u) (fun r u1 => jeI (jbec S z) = r ∧ u = u1) := by
  refine jkI_of (cc := cX0_became) (maxL := 2) (ret := (some .int)) (by decide) rfl (Nat.le_of_ble_eq_true rfl) ?_
  intro p e R s m args below meth c Q A K hn9 hR9 hQ9
  obtain ⟨rN, rT, rM, rU, rK, rP, rA, rL, rB⟩ := id hS9
  obtain ⟨wn, wt, wu, wk, wp, wl, wb⟩ := id hW9
  have hu9 : ∀ w ∈ u_ws RX0 TX0 13, w ∈ wsX0_became := fun w h => List.mem_cons_of_mem _ (ku_X0 w h)
  show jaW p l e R s m args below meth c 0 0 Q D vwCl A 2 (jxc q cI cZ u) [(0, .ref (q 0)), (1, .int (z))] 0 []
  refine ja_iload_n K 1 dX0_became_0 rfl ?_
  refine ja_if_lt K (tgt := 10) (z < 0) dX0_became_1 (by decide) Iff.rfl (fun h1 => ?_) (fun h1 => ?_)
  · refine ja_iconst K (-1) dX0_became_10 (by decide) ?_
    exact ja_iret K (u) rfl (Nat.zero_le _) (Nat.zero_le _) dX0_became_11 hQ9 rfl ⟨by first | rw [jbec_f1 h1] | rw [jbec_f2 h7], rfl⟩
  · refine ja_iload_n K 1 dX0_became_4 rfl ?_
    refine ja_bipush K (nI 14) dX0_became_5 (by decide) ?_
    refine ja_icmp_lt K (tgt := 12) (z < nI 14) dX0_became_7 (by decide) Iff.rfl (fun h7 => ?_) (fun h7 => ?_)
    · obtain ⟨j, hj, rfl⟩ := jin_of (n := 14) (jin_tt h1 h7) (by omega)
      refine ja_aload_n K 0 dX0_became_12 rfl ?_
      refine ja_get K hu9 0 rfl rfl 8 (by decide) (List.mem_cons_of_mem _ kfX0_36) rfl rfl dX0_became_13 ?_
      refine ja_iload_n K 1 dX0_became_16 rfl ?_
      refine ja_iald K (v := jeI (jB S (j))) 7 0 rfl rfl (j) rfl (by omega) (by decide) (rB _ (by omega)) dX0_became_17 ?_
      exact ja_iret K (u) rfl (Nat.zero_le _) (Nat.zero_le _) dX0_became_18 hQ9 rfl ⟨by rw [jbec_t hj], rfl⟩
    · refine ja_iconst K (-1) dX0_became_10 (by decide) ?_
      exact ja_iret K (u) rfl (Nat.zero_le _) (Nat.zero_le _) dX0_became_11 hQ9 rfl ⟨by first | rw [jbec_f1 h1] | rw [jbec_f2 h7], rfl⟩
set_option maxRecDepth 100000 in
set_option maxHeartbeats 4000000 in
theorem jc_countSamples (l : Launch) (D : va_G) (q : Nat → Nat) (cI cZ : ClassId) (S : JS) (u : JX) (hW9 : jWf S) (hS9 : jxR1 S u)  : jkI l yX0_countSamples wsX0_countSamples ({ frames := 0, cells := 0, slots := 0, locals := 0 }) D vwCl (jxt cI cZ) (jxc q cI cZ) [.ref (q 0)] (jxc q cI cZ u) (fun r u1 => nI (jct (jM S) (jN S)) = r ∧ u = u1) := by
  refine jkI_of (cc := cX0_countSamples) (maxL := 3) (ret := (some .int)) (by decide) rfl (Nat.le_of_ble_eq_true rfl) ?_
  intro p e R s m args below meth c Q A K hn9 hR9 hQ9
  obtain ⟨rN, rT, rM, rU, rK, rP, rA, rL, rB⟩ := id hS9
  obtain ⟨wn, wt, wu, wk, wp, wl, wb⟩ := id hW9
  have hu9 : ∀ w ∈ u_ws RX0 TX0 13, w ∈ wsX0_countSamples := fun w h => List.mem_cons_of_mem _ (ku_X0 w h)
  show jaW p l e R s m args below meth c 0 0 Q D vwCl A 3 (jxc q cI cZ u) [(0, .ref (q 0))] 0 []
  refine ja_iconst K (nI 0) dX0_countSamples_0 (by decide) ?_
  refine ja_istore_n K (lv1 := [(0, .ref (q 0)), (1, .int (nI 0))]) dX0_countSamples_1 (by decide) rfl rfl ?_
  refine ja_iconst K (nI 0) dX0_countSamples_2 (by decide) ?_
  refine ja_istore_n K (lv1 := [(0, .ref (q 0)), (1, .int (nI 0)), (2, .int (nI 0))]) dX0_countSamples_3 (by decide) rfl rfl ?_
  have L4 : ∀ (i : Nat), (i ≤ jN S) → jaW p l e R s m args below meth c 0 0 Q D vwCl A 3 (jxc q cI cZ u) [(0, .ref (q 0)), (1, .int (nI ((jct (jM S) i)))), (2, .int (nI (i)))] 4 [] := by
    refine jl_1 (fun (i : Nat) => jN S - i) (fun (i : Nat) => i ≤ jN S) _ ?_
    intro i hI4 IH4
    refine ja_iload_n K 2 dX0_countSamples_4 rfl ?_
    refine ja_aload_n K 0 dX0_countSamples_5 rfl ?_
    refine ja_get K hu9 0 rfl rfl 0 (by decide) (List.mem_cons_of_mem _ kfX0_7) rfl (congrArg (fun z9 => some (Value.int z9)) rN) dX0_countSamples_6 ?_
    refine ja_icmp_ge K (tgt := 30) ((jN S) ≤ i) dX0_countSamples_9 (by decide) (nI_leI (by omega) (by omega)) (fun h9 => ?_) (fun h9 => ?_)
    · refine ja_iload_n K 1 dX0_countSamples_30 rfl ?_
      exact ja_iret K (u) rfl (Nat.zero_le _) (Nat.zero_le _) dX0_countSamples_31 hQ9 rfl ⟨by rw [show i = jN S by omega], rfl⟩
    · have b9 := jct_le (jM S) i
      refine ja_aload_n K 0 dX0_countSamples_12 rfl ?_
      refine ja_get K hu9 0 rfl rfl 2 (by decide) (List.mem_cons_of_mem _ kfX0_17) rfl rfl dX0_countSamples_13 ?_
      refine ja_iload_n K 2 dX0_countSamples_16 rfl ?_
      refine ja_zald K (v := jbI (jM S (i))) 2 1 rfl rfl (i) rfl (by omega) (by decide) (rM _ (by omega)) dX0_countSamples_17 ?_
      refine ja_if_eq K (tgt := 24) (jM S (i) = false) dX0_countSamples_18 (by decide) (jbI_ne _) (fun h18 => ?_) (fun h18 => ?_)
      · refine ja_iinc K (lv1 := [(0, .ref (q 0)), (1, .int (nI ((jct (jM S) i)))), (2, .int (nI ((i + 1))))]) 2 (nI ((i + 1))) dX0_countSamples_24 rfl (ja_inc _) (by decide) rfl rfl ?_
        refine ja_goto K (tgt := 4) dX0_countSamples_27 (by decide) ?_
        have e90 : jct (jM S) (i + 1) = (jct (jM S) i) := by simp [jct, h9, h18]
        have k9 := IH4 (i + 1) (by omega) (by omega)
        rw [e90] at k9
        exact k9
      · refine ja_iinc K (lv1 := [(0, .ref (q 0)), (1, .int (nI (((jct (jM S) i) + 1)))), (2, .int (nI (i)))]) 1 (nI (((jct (jM S) i) + 1))) dX0_countSamples_21 rfl (ja_inc _) (by decide) rfl rfl ?_
        refine ja_iinc K (lv1 := [(0, .ref (q 0)), (1, .int (nI (((jct (jM S) i) + 1)))), (2, .int (nI ((i + 1))))]) 2 (nI ((i + 1))) dX0_countSamples_24 rfl (ja_inc _) (by decide) rfl rfl ?_
        refine ja_goto K (tgt := 4) dX0_countSamples_27 (by decide) ?_
        have e90 : jct (jM S) (i + 1) = ((jct (jM S) i) + 1) := by simp [jct, h9, h18]
        have k9 := IH4 (i + 1) (by omega) (by omega)
        rw [e90] at k9
        exact k9
  exact L4 0 (Nat.zero_le _)
set_option maxRecDepth 100000 in
set_option maxHeartbeats 4000000 in
theorem jc_hasSite (l : Launch) (D : va_G) (q : Nat → Nat) (cI cZ : ClassId) (S : JS) (u : JX) (hW9 : jWf S) (hS9 : jxR1 S u) (x : Nat) (hx : x < 60) : jkI l yX0_hasSite wsX0_hasSite ({ frames := 0, cells := 0, slots := 0, locals := 0 }) D vwCl (jxt cI cZ) (jxc q cI cZ) [.ref (q 0), .int (nI x)] (jxc q cI cZ u) (fun r u1 => jbI (jany (fun j => jP S j == x) (jK S)) = r ∧ u = u1) := by
  refine jkI_of (cc := cX0_hasSite) (maxL := 3) (ret := (some .boolean)) (by decide) rfl (Nat.le_of_ble_eq_true rfl) ?_
  intro p e R s m args below meth c Q A K hn9 hR9 hQ9
  obtain ⟨rN, rT, rM, rU, rK, rP, rA, rL, rB⟩ := id hS9
  obtain ⟨wn, wt, wu, wk, wp, wl, wb⟩ := id hW9
  have hu9 : ∀ w ∈ u_ws RX0 TX0 13, w ∈ wsX0_hasSite := fun w h => List.mem_cons_of_mem _ (ku_X0 w h)
  show jaW p l e R s m args below meth c 0 0 Q D vwCl A 3 (jxc q cI cZ u) [(0, .ref (q 0)), (1, .int (nI (x)))] 0 []
  refine ja_iconst K (nI 0) dX0_hasSite_0 (by decide) ?_
  refine ja_istore_n K (lv1 := [(0, .ref (q 0)), (1, .int (nI (x))), (2, .int (nI 0))]) dX0_hasSite_1 (by decide) rfl rfl ?_
  have L2 : ∀ (i : Nat), (i ≤ jK S ∧ jany (fun j => jP S j == x) i = false) → jaW p l e R s m args below meth c 0 0 Q D vwCl A 3 (jxc q cI cZ u) [(0, .ref (q 0)), (1, .int (nI (x))), (2, .int (nI (i)))] 2 [] := by
    refine jl_1 (fun (i : Nat) => jK S - i) (fun (i : Nat) => i ≤ jK S ∧ jany (fun j => jP S j == x) i = false) _ ?_
    intro i hI2 IH2
    refine ja_iload_n K 2 dX0_hasSite_2 rfl ?_
    refine ja_aload_n K 0 dX0_hasSite_3 rfl ?_
    refine ja_get K hu9 0 rfl rfl 4 (by decide) (List.mem_cons_of_mem _ kfX0_24) rfl (congrArg (fun z9 => some (Value.int z9)) rK) dX0_hasSite_4 ?_
    refine ja_icmp_ge K (tgt := 28) ((jK S) ≤ i) dX0_hasSite_7 (by decide) (nI_leI (by omega) (by omega)) (fun h7 => ?_) (fun h7 => ?_)
    · refine ja_iconst K (nI 0) dX0_hasSite_28 (by decide) ?_
      exact ja_zret K (u) rfl (by first | exact ja_nz1 | exact ja_nz0 | exact jbI_narrow _) (Nat.zero_le _) (Nat.zero_le _) dX0_hasSite_29 hQ9 rfl ⟨jb0 (by rw [show jK S = i by omega]; exact hI2.2), rfl⟩
    · have b9 := (wp i (by omega)).1
      refine ja_aload_n K 0 dX0_hasSite_10 rfl ?_
      refine ja_get K hu9 0 rfl rfl 5 (by decide) (List.mem_cons_of_mem _ kfX0_27) rfl rfl dX0_hasSite_11 ?_
      refine ja_iload_n K 2 dX0_hasSite_14 rfl ?_
      refine ja_iald K (v := nI ((jP S (i)))) 4 0 rfl rfl (i) rfl (by omega) (by decide) (rP _ (by omega)) dX0_hasSite_15 ?_
      refine ja_iload_n K 1 dX0_hasSite_16 rfl ?_
      refine ja_icmp_ne K (tgt := 22) (¬ (jP S (i)) = x) dX0_hasSite_17 (by decide) (not_congr (nI_eq (by omega) (by omega))) (fun h17 => ?_) (fun h17 => ?_)
      · refine ja_iinc K (lv1 := [(0, .ref (q 0)), (1, .int (nI (x))), (2, .int (nI ((i + 1))))]) 2 (nI ((i + 1))) dX0_hasSite_22 rfl (ja_inc _) (by decide) rfl rfl ?_
        refine ja_goto K (tgt := 2) dX0_hasSite_25 (by decide) ?_
        have k9 := IH2 (i + 1) ⟨by omega, by simp [jany, hI2.2, h17]⟩ (by omega)
        exact k9
      · refine ja_iconst K (nI 1) dX0_hasSite_20 (by decide) ?_
        exact ja_zret K (u) rfl (by first | exact ja_nz1 | exact ja_nz0 | exact jbI_narrow _) (Nat.zero_le _) (Nat.zero_le _) dX0_hasSite_21 hQ9 rfl ⟨jb1 (jany_iff.mpr ⟨i, by omega, by simpa using h17⟩), rfl⟩
  exact L2 0 ⟨Nat.zero_le _, rfl⟩
set_option maxRecDepth 100000 in
set_option maxHeartbeats 4000000 in
theorem jc_startsEdge (l : Launch) (D : va_G) (q : Nat → Nat) (cI cZ : ClassId) (S : JS) (u : JX) (hW9 : jWf S) (hS9 : jxR1 S u) (x c0 : Nat) (hx : x < 60) (hc : c0 < 14) : jkI l yX0_startsEdge wsX0_startsEdge ({ frames := 1, cells := 0, slots := 0, locals := 22 }) D vwCl (jxt cI cZ) (jxc q cI cZ) [.ref (q 0), .int (nI x), .int (nI c0)] (jxc q cI cZ u) (fun r u1 => jbI (jst (jU S) x c0) = r ∧ u = u1) := by
  refine jkI_of (cc := cX0_startsEdge) (maxL := 4) (ret := (some .boolean)) (by decide) rfl (Nat.le_of_ble_eq_true rfl) ?_
  intro p e R s m args below meth c Q A K hn9 hR9 hQ9
  obtain ⟨rN, rT, rM, rU, rK, rP, rA, rL, rB⟩ := id hS9
  obtain ⟨wn, wt, wu, wk, wp, wl, wb⟩ := id hW9
  have hu9 : ∀ w ∈ u_ws RX0 TX0 13, w ∈ wsX0_startsEdge := fun w h => List.mem_cons_of_mem _ (ku_X0 w h)
  show jaW p l e R s m args below meth c 0 0 Q D vwCl A 4 (jxc q cI cZ u) [(0, .ref (q 0)), (1, .int (nI (x))), (2, .int (nI (c0)))] 0 []
  refine ja_aload_n K 0 dX0_startsEdge_0 rfl ?_
  refine ja_iload_n K 1 dX0_startsEdge_1 rfl ?_
  refine ja_iload_n K 2 dX0_startsEdge_2 rfl ?_
  refine ja_callVI K (q0 := 0) (qc := (RX0, TX0, 13)) (st := []) [.int (nI (x)), .int (nI (c0))] (jc_parentAt l D q cI cZ (u) (x) (c0) (by omega) (by omega) (jU S (x) (c0)) (rU _ _ (by omega) (by omega))) (cwV 2 K.1.2.2.2.2 (gX0_X0_parentAt _) rfl rfl rfl (by decide +kernel) (by rw [hR9]; exact ⟨Nat.le_of_ble_eq_true rfl, Nat.le_of_ble_eq_true rfl⟩)) rfl rfl rfl rfl rfl (Nat.le_of_ble_eq_true rfl) dX0_startsEdge_3 (by rw [hR9]; exact ⟨Nat.le_of_ble_eq_true rfl, Nat.le_of_ble_eq_true rfl⟩) (fun r9 u9 h9 => ?_)
  obtain ⟨rfl, rfl⟩ := h9
  refine ja_istore_n K (lv1 := [(0, .ref (q 0)), (1, .int (nI (x))), (2, .int (nI (c0))), (3, .int (jeI (jU S (x) (c0))))]) dX0_startsEdge_6 (by decide) rfl rfl ?_
  refine ja_iload_n K 3 dX0_startsEdge_7 rfl ?_
  refine ja_iconst K (-1) dX0_startsEdge_8 (by decide) ?_
  refine ja_icmp_eq K (tgt := 32) (jU S (x) (c0) = none) dX0_startsEdge_9 (by decide) (jeI_m1 (o := jU S (x) (c0)) (fun p9 h9 => by have := (wu _ _ _ h9).2.1; omega)) (fun h9 => ?_) (fun h9 => ?_)
  · refine ja_iconst K (nI 0) dX0_startsEdge_32 (by decide) ?_
    exact ja_zret K (u) rfl (by first | exact ja_nz1 | exact ja_nz0 | exact jbI_narrow _) (Nat.zero_le _) (Nat.zero_le _) dX0_startsEdge_33 hQ9 rfl ⟨by first | exact jb1 (by simp only [jst]; rw [ey9]; simp [h9]; done) | exact jb0 (by simp only [jst]; rw [ey9]; simp [h9]; done) | exact jb0 (by simp [jst, h9]), rfl⟩
  · obtain ⟨y9, ey9⟩ := Option.ne_none_iff_exists'.mp h9
    try rw [ey9]
    have by9 := wu _ _ _ ey9
    refine ja_iload_n K 1 dX0_startsEdge_12 rfl ?_
    refine ja_if_eq K (tgt := 28) (x = 0) dX0_startsEdge_13 (by decide) (jz_eq (by omega)) (fun h13 => ?_) (fun h13 => ?_)
    · refine ja_iconst K (nI 1) dX0_startsEdge_28 (by decide) ?_
      refine ja_goto K (tgt := 33) dX0_startsEdge_29 (by decide) ?_
      exact ja_zret K (u) rfl (by first | exact ja_nz1 | exact ja_nz0 | exact jbI_narrow _) (Nat.zero_le _) (Nat.zero_le _) dX0_startsEdge_33 hQ9 rfl ⟨by first | exact jb1 (by simp only [jst]; rw [ey9]; simp [h9, h13]; done) | exact jb0 (by simp only [jst]; rw [ey9]; simp [h9, h13]; done) | exact jb0 (by simp [jst, h9]), rfl⟩
    · refine ja_aload_n K 0 dX0_startsEdge_16 rfl ?_
      refine ja_iload_n K 1 dX0_startsEdge_17 rfl ?_
      refine ja_iconst K (nI 1) dX0_startsEdge_18 (by decide) ?_
      refine ja_isub K (nI ((x - 1))) dX0_startsEdge_19 (pk_sub (by omega)) ?_
      refine ja_iload_n K 2 dX0_startsEdge_20 rfl ?_
      refine ja_callVI K (q0 := 0) (qc := (RX0, TX0, 13)) (st := []) [.int (nI ((x - 1))), .int (nI (c0))] (jc_parentAt l D q cI cZ (u) ((x - 1)) (c0) (by omega) (by omega) (jU S ((x - 1)) (c0)) (rU _ _ (by omega) (by omega))) (cwV 2 K.1.2.2.2.2 (gX0_X0_parentAt _) rfl rfl rfl (by decide +kernel) (by rw [hR9]; exact ⟨Nat.le_of_ble_eq_true rfl, Nat.le_of_ble_eq_true rfl⟩)) rfl rfl rfl rfl rfl (Nat.le_of_ble_eq_true rfl) dX0_startsEdge_21 (by rw [hR9]; exact ⟨Nat.le_of_ble_eq_true rfl, Nat.le_of_ble_eq_true rfl⟩) (fun r9 u9 h9 => ?_)
      obtain ⟨rfl, rfl⟩ := h9
      refine ja_iload_n K 3 dX0_startsEdge_24 rfl ?_
      refine ja_icmp_eq K (tgt := 32) (jU S ((x - 1)) (c0) = some (y9)) dX0_startsEdge_25 (by decide) (jeI_inj (o := jU S ((x - 1)) (c0)) (o' := some (y9)) (fun p9 h9 => by have := (wu _ _ _ h9).2.1; omega) (fun p9 h9 => by cases h9; omega)) (fun h25 => ?_) (fun h25 => ?_)
      · refine ja_iconst K (nI 0) dX0_startsEdge_32 (by decide) ?_
        exact ja_zret K (u) rfl (by first | exact ja_nz1 | exact ja_nz0 | exact jbI_narrow _) (Nat.zero_le _) (Nat.zero_le _) dX0_startsEdge_33 hQ9 rfl ⟨by first | exact jb1 (by simp only [jst]; rw [ey9]; simp [h9, h13, h25]; done) | exact jb0 (by simp only [jst]; rw [ey9]; simp [h9, h13, h25]; done) | exact jb0 (by simp [jst, h9]), rfl⟩
      · refine ja_iconst K (nI 1) dX0_startsEdge_28 (by decide) ?_
        refine ja_goto K (tgt := 33) dX0_startsEdge_29 (by decide) ?_
        exact ja_zret K (u) rfl (by first | exact ja_nz1 | exact ja_nz0 | exact jbI_narrow _) (Nat.zero_le _) (Nat.zero_le _) dX0_startsEdge_33 hQ9 rfl ⟨by first | exact jb1 (by simp only [jst]; rw [ey9]; simp [h9, h13, h25]; done) | exact jb0 (by simp only [jst]; rw [ey9]; simp [h9, h13, h25]; done) | exact jb0 (by simp [jst, h9]), rfl⟩
set_option maxRecDepth 100000 in
set_option maxHeartbeats 4000000 in
theorem jc_startsRun (l : Launch) (D : va_G) (q : Nat → Nat) (cI cZ : ClassId) (S : JS) (u : JX) (hW9 : jWf S) (hS9 : jxR1 S u) (x : Nat) (hx : x < 60) : jkI l yX0_startsRun wsX0_startsRun ({ frames := 1, cells := 0, slots := 0, locals := 22 }) D vwCl (jxt cI cZ) (jxc q cI cZ) [.ref (q 0), .int (nI x)] (jxc q cI cZ u) (fun r u1 => jbI (jsr S x) = r ∧ u = u1) := by
  refine jkI_of (cc := cX0_startsRun) (maxL := 3) (ret := (some .boolean)) (by decide) rfl (Nat.le_of_ble_eq_true rfl) ?_
  intro p e R s m args below meth c Q A K hn9 hR9 hQ9
  obtain ⟨rN, rT, rM, rU, rK, rP, rA, rL, rB⟩ := id hS9
  obtain ⟨wn, wt, wu, wk, wp, wl, wb⟩ := id hW9
  have hu9 : ∀ w ∈ u_ws RX0 TX0 13, w ∈ wsX0_startsRun := fun w h => List.mem_cons_of_mem _ (ku_X0 w h)
  show jaW p l e R s m args below meth c 0 0 Q D vwCl A 3 (jxc q cI cZ u) [(0, .ref (q 0)), (1, .int (nI (x)))] 0 []
  refine ja_iload_n K 1 dX0_startsRun_0 rfl ?_
  refine ja_if_ne K (tgt := 6) (¬ x = 0) dX0_startsRun_1 (by decide) (not_congr (jz_eq (by omega))) (fun h1 => ?_) (fun h1 => ?_)
  · refine ja_iconst K (nI 0) dX0_startsRun_6 (by decide) ?_
    refine ja_istore_n K (lv1 := [(0, .ref (q 0)), (1, .int (nI (x))), (2, .int (nI 0))]) dX0_startsRun_7 (by decide) rfl rfl ?_
    have L8 : ∀ (i : Nat), (i ≤ jN S ∧ jany (fun c => jU S x c != jU S (x - 1) c) i = false) → jaW p l e R s m args below meth c 0 0 Q D vwCl A 3 (jxc q cI cZ u) [(0, .ref (q 0)), (1, .int (nI (x))), (2, .int (nI (i)))] 8 [] := by
      refine jl_1 (fun (i : Nat) => jN S - i) (fun (i : Nat) => i ≤ jN S ∧ jany (fun c => jU S x c != jU S (x - 1) c) i = false) _ ?_
      intro i hI8 IH8
      refine ja_iload_n K 2 dX0_startsRun_8 rfl ?_
      refine ja_aload_n K 0 dX0_startsRun_9 rfl ?_
      refine ja_get K hu9 0 rfl rfl 0 (by decide) (List.mem_cons_of_mem _ kfX0_7) rfl (congrArg (fun z9 => some (Value.int z9)) rN) dX0_startsRun_10 ?_
      refine ja_icmp_ge K (tgt := 41) ((jN S) ≤ i) dX0_startsRun_13 (by decide) (nI_leI (by omega) (by omega)) (fun h13 => ?_) (fun h13 => ?_)
      · refine ja_iconst K (nI 0) dX0_startsRun_41 (by decide) ?_
        exact ja_zret K (u) rfl (by first | exact ja_nz1 | exact ja_nz0 | exact jbI_narrow _) (Nat.zero_le _) (Nat.zero_le _) dX0_startsRun_42 hQ9 rfl ⟨jb0 (by simp only [jsr, Bool.or_eq_false_iff]; exact ⟨by simp [h1], by rw [show jN S = i by omega]; exact hI8.2⟩), rfl⟩
      · refine ja_aload_n K 0 dX0_startsRun_16 rfl ?_
        refine ja_iload_n K 1 dX0_startsRun_17 rfl ?_
        refine ja_iload_n K 2 dX0_startsRun_18 rfl ?_
        refine ja_callVI K (q0 := 0) (qc := (RX0, TX0, 13)) (st := []) [.int (nI (x)), .int (nI (i))] (jc_parentAt l D q cI cZ (u) (x) (i) (by omega) (by omega) (jU S (x) (i)) (rU _ _ (by omega) (by omega))) (cwV 2 K.1.2.2.2.2 (gX0_X0_parentAt _) rfl rfl rfl (by decide +kernel) (by rw [hR9]; exact ⟨Nat.le_of_ble_eq_true rfl, Nat.le_of_ble_eq_true rfl⟩)) rfl rfl rfl rfl rfl (Nat.le_of_ble_eq_true rfl) dX0_startsRun_19 (by rw [hR9]; exact ⟨Nat.le_of_ble_eq_true rfl, Nat.le_of_ble_eq_true rfl⟩) (fun r9 u9 h9 => ?_)
        obtain ⟨rfl, rfl⟩ := h9
        refine ja_aload_n K 0 dX0_startsRun_22 rfl ?_
        refine ja_iload_n K 1 dX0_startsRun_23 rfl ?_
        refine ja_iconst K (nI 1) dX0_startsRun_24 (by decide) ?_
        refine ja_isub K (nI ((x - 1))) dX0_startsRun_25 (pk_sub (by omega)) ?_
        refine ja_iload_n K 2 dX0_startsRun_26 rfl ?_
        refine ja_callVI K (q0 := 0) (qc := (RX0, TX0, 13)) (st := [.int (jeI (jU S (x) (i)))]) [.int (nI ((x - 1))), .int (nI (i))] (jc_parentAt l D q cI cZ (u) ((x - 1)) (i) (by omega) (by omega) (jU S ((x - 1)) (i)) (rU _ _ (by omega) (by omega))) (cwV 2 K.1.2.2.2.2 (gX0_X0_parentAt _) rfl rfl rfl (by decide +kernel) (by rw [hR9]; exact ⟨Nat.le_of_ble_eq_true rfl, Nat.le_of_ble_eq_true rfl⟩)) rfl rfl rfl rfl rfl (Nat.le_of_ble_eq_true rfl) dX0_startsRun_27 (by rw [hR9]; exact ⟨Nat.le_of_ble_eq_true rfl, Nat.le_of_ble_eq_true rfl⟩) (fun r9 u9 h9 => ?_)
        obtain ⟨rfl, rfl⟩ := h9
        refine ja_icmp_eq K (tgt := 35) (jU S (x) (i) = jU S ((x - 1)) (i)) dX0_startsRun_30 (by decide) (jeI_inj (o := jU S (x) (i)) (o' := jU S ((x - 1)) (i)) (fun p9 h9 => by have := (wu _ _ _ h9).2.1; omega) (fun p9 h9 => by have := (wu _ _ _ h9).2.1; omega)) (fun h30 => ?_) (fun h30 => ?_)
        · refine ja_iinc K (lv1 := [(0, .ref (q 0)), (1, .int (nI (x))), (2, .int (nI ((i + 1))))]) 2 (nI ((i + 1))) dX0_startsRun_35 rfl (ja_inc _) (by decide) rfl rfl ?_
          refine ja_goto K (tgt := 8) dX0_startsRun_38 (by decide) ?_
          have k9 := IH8 (i + 1) ⟨by omega, by simp [jany, hI8.2, h30]⟩ (by omega)
          exact k9
        · refine ja_iconst K (nI 1) dX0_startsRun_33 (by decide) ?_
          exact ja_zret K (u) rfl (by first | exact ja_nz1 | exact ja_nz0 | exact jbI_narrow _) (Nat.zero_le _) (Nat.zero_le _) dX0_startsRun_34 hQ9 rfl ⟨jb1 (by simp only [jsr, Bool.or_eq_true]; exact Or.inr (jany_iff.mpr ⟨i, by omega, by simp [h30]⟩)), rfl⟩
    exact L8 0 ⟨Nat.zero_le _, rfl⟩
  · refine ja_iconst K (nI 1) dX0_startsRun_4 (by decide) ?_
    exact ja_zret K (u) rfl (by first | exact ja_nz1 | exact ja_nz0 | exact jbI_narrow _) (Nat.zero_le _) (Nat.zero_le _) dX0_startsRun_5 hQ9 rfl ⟨jb1 (by have h8 : x = 0 := (by omega); simp [jsr, h8]), rfl⟩
set_option maxRecDepth 100000 in
set_option maxHeartbeats 4000000 in
theorem jc_isAtOrAbove (l : Launch) (D : va_G) (q : Nat → Nat) (cI cZ : ClassId) (S : JS) (u : JX) (hW9 : jWf S) (hS9 : jxR1 S u) (x a b : Nat) (hx : x < 60) (ha : a < jN S) (hb : b < jN S) : jkI l yX0_isAtOrAbove wsX0_isAtOrAbove ({ frames := 1, cells := 0, slots := 0, locals := 22 }) D vwCl (jxt cI cZ) (jxc q cI cZ) [.ref (q 0), .int (nI x), .int (nI a), .int (nI b)] (jxc q cI cZ u) (fun r u1 => jbI (jhold (jU S x) a b) = r ∧ u = u1) := by
  refine jkI_of (cc := cX0_isAtOrAbove) (maxL := 6) (ret := (some .boolean)) (by decide) rfl (Nat.le_of_ble_eq_true rfl) ?_
  intro p e R s m args below meth c Q A K hn9 hR9 hQ9
  obtain ⟨rN, rT, rM, rU, rK, rP, rA, rL, rB⟩ := id hS9
  obtain ⟨wn, wt, wu, wk, wp, wl, wb⟩ := id hW9
  have hu9 : ∀ w ∈ u_ws RX0 TX0 13, w ∈ wsX0_isAtOrAbove := fun w h => List.mem_cons_of_mem _ (ku_X0 w h)
  show jaW p l e R s m args below meth c 0 0 Q D vwCl A 6 (jxc q cI cZ u) [(0, .ref (q 0)), (1, .int (nI (x))), (2, .int (nI (a))), (3, .int (nI (b)))] 0 []
  refine ja_iload_n K 3 dX0_isAtOrAbove_0 rfl ?_
  refine ja_istore K (lv1 := [(0, .ref (q 0)), (1, .int (nI (x))), (2, .int (nI (a))), (3, .int (nI (b))), (4, .int (nI (b)))]) dX0_isAtOrAbove_1 (by decide) rfl rfl ?_
  refine ja_iconst K (nI 0) dX0_isAtOrAbove_3 (by decide) ?_
  refine ja_istore K (lv1 := [(0, .ref (q 0)), (1, .int (nI (x))), (2, .int (nI (a))), (3, .int (nI (b))), (4, .int (nI (b))), (5, .int (nI 0))]) dX0_isAtOrAbove_4 (by decide) rfl rfl ?_
  have L6 : ∀ (k : Nat) (d0 : Nat) (o : Option Nat), (k + d0 = 14 ∧ (∀ y, o = some y → y < jN S) ∧ (jpF (jU S x) (fun y => y == a) d0 o).isSome = jhold (jU S x) a b) → jaW p l e R s m args below meth c 0 0 Q D vwCl A 6 (jxc q cI cZ u) [(0, .ref (q 0)), (1, .int (nI (x))), (2, .int (nI (a))), (3, .int (nI (b))), (4, .int (jeI (o))), (5, .int (nI (k)))] 6 [] := by
    refine jl_3 (fun (k : Nat) (d0 : Nat) (o : Option Nat) => d0) (fun (k : Nat) (d0 : Nat) (o : Option Nat) => k + d0 = 14 ∧ (∀ y, o = some y → y < jN S) ∧ (jpF (jU S x) (fun y => y == a) d0 o).isSome = jhold (jU S x) a b) _ ?_
    intro k d0 o hI6 IH6
    refine ja_iload K 5 dX0_isAtOrAbove_6 rfl ?_
    refine ja_bipush K (nI 14) dX0_isAtOrAbove_8 (by decide) ?_
    refine ja_icmp_ge K (tgt := 42) (14 ≤ k) dX0_isAtOrAbove_10 (by decide) (nI_leI (by omega) (by omega)) (fun h10 => ?_) (fun h10 => ?_)
    · obtain rfl : d0 = 0 := by omega
      refine ja_iconst K (nI 0) dX0_isAtOrAbove_42 (by decide) ?_
      exact ja_zret K (u) rfl (by first | exact ja_nz1 | exact ja_nz0 | exact jbI_narrow _) (Nat.zero_le _) (Nat.zero_le _) dX0_isAtOrAbove_43 hQ9 rfl ⟨jb0 (by rw [← hI6.2.2]; simp [jpF]), rfl⟩
    · obtain ⟨d, rfl⟩ : ∃ d1, d0 = d1 + 1 := ⟨d0 - 1, by omega⟩
      refine ja_iload K 4 dX0_isAtOrAbove_13 rfl ?_
      refine ja_iconst K (-1) dX0_isAtOrAbove_15 (by decide) ?_
      refine ja_icmp_eq K (tgt := 42) (o = none) dX0_isAtOrAbove_16 (by decide) (jeI_m1 (o := o) (fun p9 h9 => by have := hI6.2.1 p9 h9; omega)) (fun h16 => ?_) (fun h16 => ?_)
      · subst h16
        refine ja_iconst K (nI 0) dX0_isAtOrAbove_42 (by decide) ?_
        exact ja_zret K (u) rfl (by first | exact ja_nz1 | exact ja_nz0 | exact jbI_narrow _) (Nat.zero_le _) (Nat.zero_le _) dX0_isAtOrAbove_43 hQ9 rfl ⟨jb0 (by rw [← hI6.2.2]; simp [jpF]), rfl⟩
      · obtain ⟨y16, rfl⟩ := Option.ne_none_iff_exists'.mp h16
        have by16 := hI6.2.1 y16 rfl
        refine ja_iload K 4 dX0_isAtOrAbove_19 rfl ?_
        refine ja_iload_n K 2 dX0_isAtOrAbove_21 rfl ?_
        refine ja_icmp_ne K (tgt := 27) (¬ y16 = a) dX0_isAtOrAbove_22 (by decide) (not_congr (nI_eq (by omega) (by omega))) (fun h22 => ?_) (fun h22 => ?_)
        · refine ja_aload_n K 0 dX0_isAtOrAbove_27 rfl ?_
          refine ja_iload_n K 1 dX0_isAtOrAbove_28 rfl ?_
          refine ja_iload K 4 dX0_isAtOrAbove_29 rfl ?_
          refine ja_callVI K (q0 := 0) (qc := (RX0, TX0, 13)) (st := []) [.int (nI (x)), .int (nI (y16))] (jc_parentAt l D q cI cZ (u) (x) (y16) (by omega) (by omega) (jU S (x) (y16)) (rU _ _ (by omega) (by omega))) (cwV 2 K.1.2.2.2.2 (gX0_X0_parentAt _) rfl rfl rfl (by decide +kernel) (by rw [hR9]; exact ⟨Nat.le_of_ble_eq_true rfl, Nat.le_of_ble_eq_true rfl⟩)) rfl rfl rfl rfl rfl (Nat.le_of_ble_eq_true rfl) dX0_isAtOrAbove_31 (by rw [hR9]; exact ⟨Nat.le_of_ble_eq_true rfl, Nat.le_of_ble_eq_true rfl⟩) (fun r9 u9 h9 => ?_)
          obtain ⟨rfl, rfl⟩ := h9
          refine ja_istore K (lv1 := [(0, .ref (q 0)), (1, .int (nI (x))), (2, .int (nI (a))), (3, .int (nI (b))), (4, .int (jeI (jU S (x) (y16)))), (5, .int (nI (k)))]) dX0_isAtOrAbove_34 (by decide) rfl rfl ?_
          refine ja_iinc K (lv1 := [(0, .ref (q 0)), (1, .int (nI (x))), (2, .int (nI (a))), (3, .int (nI (b))), (4, .int (jeI (jU S (x) (y16)))), (5, .int (nI ((k + 1))))]) 5 (nI ((k + 1))) dX0_isAtOrAbove_36 rfl (ja_inc _) (by decide) rfl rfl ?_
          refine ja_goto K (tgt := 6) dX0_isAtOrAbove_39 (by decide) ?_
          have k9 := IH6 (k + 1) d (jU S x y16) ⟨by omega, fun z hz => (wu x _ z hz).2.1, by rw [← hI6.2.2]; simp [jpF, h22]⟩ (by omega)
          exact k9
        · refine ja_iconst K (nI 1) dX0_isAtOrAbove_25 (by decide) ?_
          exact ja_zret K (u) rfl (by first | exact ja_nz1 | exact ja_nz0 | exact jbI_narrow _) (Nat.zero_le _) (Nat.zero_le _) dX0_isAtOrAbove_26 hQ9 rfl ⟨jb1 (by rw [← hI6.2.2]; simp at h22; simp [jpF, h22]), rfl⟩
  exact L6 0 14 (some b) ⟨rfl, fun y h => by cases h; exact hb, rfl⟩
set_option maxRecDepth 100000 in
set_option maxHeartbeats 4000000 in
theorem jc_letterAt (l : Launch) (D : va_G) (q : Nat → Nat) (cI cZ : ClassId) (S : JS) (u : JX) (hW9 : jWf S) (hS9 : jxR1 S u) (i b : Nat) (hi : i < jK S) (hb : b < jN S) : jkI l yX0_letterAt wsX0_letterAt ({ frames := 1, cells := 0, slots := 0, locals := 22 }) D vwCl (jxt cI cZ) (jxc q cI cZ) [.ref (q 0), .int (nI i), .int (nI b)] (jxc q cI cZ u) (fun r u1 => nI (jlet (jU S (jP S i)) (jL S i) (jA S i) b) = r ∧ u = u1) := by
  refine jkI_of (cc := cX0_letterAt) (maxL := 6) (ret := (some .int)) (by decide) rfl (Nat.le_of_ble_eq_true rfl) ?_
  intro p e R s m args below meth c Q A K hn9 hR9 hQ9
  obtain ⟨rN, rT, rM, rU, rK, rP, rA, rL, rB⟩ := id hS9
  obtain ⟨wn, wt, wu, wk, wp, wl, wb⟩ := id hW9
  have hu9 : ∀ w ∈ u_ws RX0 TX0 13, w ∈ wsX0_letterAt := fun w h => List.mem_cons_of_mem _ (ku_X0 w h)
  have bp := (wp i hi).1
  show jaW p l e R s m args below meth c 0 0 Q D vwCl A 6 (jxc q cI cZ u) [(0, .ref (q 0)), (1, .int (nI (i))), (2, .int (nI (b)))] 0 []
  refine ja_iload_n K 2 dX0_letterAt_0 rfl ?_
  refine ja_istore_n K (lv1 := [(0, .ref (q 0)), (1, .int (nI (i))), (2, .int (nI (b))), (3, .int (nI (b)))]) dX0_letterAt_1 (by decide) rfl rfl ?_
  refine ja_iconst K (nI 0) dX0_letterAt_2 (by decide) ?_
  refine ja_istore K (lv1 := [(0, .ref (q 0)), (1, .int (nI (i))), (2, .int (nI (b))), (3, .int (nI (b))), (4, .int (nI 0))]) dX0_letterAt_3 (by decide) rfl rfl ?_
  have L5 : ∀ (k : Nat) (d0 : Nat) (o : Option Nat), (k + d0 = 14 ∧ (∀ y, o = some y → y < jN S) ∧ jpF (jU S (jP S i)) (fun y => (jL S i y).isSome) d0 o = jpF (jU S (jP S i)) (fun y => (jL S i y).isSome) 14 (some b)) → jaW p l e R s m args below meth c 0 0 Q D vwCl A 6 (jxc q cI cZ u) [(0, .ref (q 0)), (1, .int (nI (i))), (2, .int (nI (b))), (3, .int (jeI (o))), (4, .int (nI (k)))] 5 [] := by
    refine jl_3 (fun (k : Nat) (d0 : Nat) (o : Option Nat) => d0) (fun (k : Nat) (d0 : Nat) (o : Option Nat) => k + d0 = 14 ∧ (∀ y, o = some y → y < jN S) ∧ jpF (jU S (jP S i)) (fun y => (jL S i y).isSome) d0 o = jpF (jU S (jP S i)) (fun y => (jL S i y).isSome) 14 (some b)) _ ?_
    intro k d0 o hI5 IH5
    refine ja_iload K 4 dX0_letterAt_5 rfl ?_
    refine ja_bipush K (nI 14) dX0_letterAt_7 (by decide) ?_
    refine ja_icmp_ge K (tgt := 57) (14 ≤ k) dX0_letterAt_9 (by decide) (nI_leI (by omega) (by omega)) (fun h9 => ?_) (fun h9 => ?_)
    · obtain rfl : d0 = 0 := by omega
      refine ja_aload_n K 0 dX0_letterAt_57 rfl ?_
      refine ja_get K hu9 0 rfl rfl 6 (by decide) (List.mem_cons_of_mem _ kfX0_30) rfl rfl dX0_letterAt_58 ?_
      refine ja_iload_n K 1 dX0_letterAt_61 rfl ?_
      refine ja_iald K (v := nI ((jA S (i)))) 5 0 rfl rfl (i) rfl (by omega) (by decide) (rA _ (by omega)) dX0_letterAt_62 ?_
      exact ja_iret K (u) rfl (Nat.zero_le _) (Nat.zero_le _) dX0_letterAt_63 hQ9 rfl ⟨by rw [jlet, ← hI5.2.2]; simp [jpF], rfl⟩
    · obtain ⟨d, rfl⟩ : ∃ d1, d0 = d1 + 1 := ⟨d0 - 1, by omega⟩
      refine ja_iload_n K 3 dX0_letterAt_12 rfl ?_
      refine ja_iconst K (-1) dX0_letterAt_13 (by decide) ?_
      refine ja_icmp_eq K (tgt := 57) (o = none) dX0_letterAt_14 (by decide) (jeI_m1 (o := o) (fun p9 h9 => by have := hI5.2.1 p9 h9; omega)) (fun h14 => ?_) (fun h14 => ?_)
      · subst h14
        refine ja_aload_n K 0 dX0_letterAt_57 rfl ?_
        refine ja_get K hu9 0 rfl rfl 6 (by decide) (List.mem_cons_of_mem _ kfX0_30) rfl rfl dX0_letterAt_58 ?_
        refine ja_iload_n K 1 dX0_letterAt_61 rfl ?_
        refine ja_iald K (v := nI ((jA S (i)))) 5 0 rfl rfl (i) rfl (by omega) (by decide) (rA _ (by omega)) dX0_letterAt_62 ?_
        exact ja_iret K (u) rfl (Nat.zero_le _) (Nat.zero_le _) dX0_letterAt_63 hQ9 rfl ⟨by rw [jlet, ← hI5.2.2]; simp [jpF], rfl⟩
      · obtain ⟨y14, rfl⟩ := Option.ne_none_iff_exists'.mp h14
        have by14 := hI5.2.1 y14 rfl
        refine ja_aload_n K 0 dX0_letterAt_17 rfl ?_
        refine ja_get K hu9 0 rfl rfl 7 (by decide) (List.mem_cons_of_mem _ kfX0_33) rfl rfl dX0_letterAt_18 ?_
        refine ja_iload_n K 1 dX0_letterAt_21 rfl ?_
        refine ja_bipush K (nI 14) dX0_letterAt_22 (by decide) ?_
        refine ja_imul K (nI ((i * 14))) dX0_letterAt_24 (pk_mul _ _) ?_
        refine ja_iload_n K 3 dX0_letterAt_25 rfl ?_
        refine ja_iadd K (nI (((i * 14) + y14))) dX0_letterAt_26 (nI_add _ _) ?_
        refine ja_iald K (v := jeI (jL S (i) (y14))) 6 0 rfl rfl (((i * 14) + y14)) rfl (by omega) (by decide) (rL _ _ (by omega) (by omega)) dX0_letterAt_27 ?_
        refine ja_istore K (lv1 := [(0, .ref (q 0)), (1, .int (nI (i))), (2, .int (nI (b))), (3, .int (nI (y14))), (4, .int (nI (k))), (5, .int (jeI (jL S (i) (y14))))]) dX0_letterAt_28 (by decide) rfl rfl ?_
        refine ja_iload K 5 dX0_letterAt_30 rfl ?_
        refine ja_iconst K (-1) dX0_letterAt_32 (by decide) ?_
        refine ja_icmp_eq K (tgt := 39) (jL S (i) (y14) = none) dX0_letterAt_33 (by decide) (jeI_m1 (o := jL S (i) (y14)) (fun p9 h9 => by have := (wl _ _ _ h9).2.2; omega)) (fun h33 => ?_) (fun h33 => ?_)
        · refine ja_aload_n K 0 dX0_letterAt_39 rfl ?_
          refine ja_aload_n K 0 dX0_letterAt_40 rfl ?_
          refine ja_get K hu9 0 rfl rfl 5 (by decide) (List.mem_cons_of_mem _ kfX0_27) rfl rfl dX0_letterAt_41 ?_
          refine ja_iload_n K 1 dX0_letterAt_44 rfl ?_
          refine ja_iald K (v := nI ((jP S (i)))) 4 0 rfl rfl (i) rfl (by omega) (by decide) (rP _ (by omega)) dX0_letterAt_45 ?_
          refine ja_iload_n K 3 dX0_letterAt_46 rfl ?_
          refine ja_callVI K (q0 := 0) (qc := (RX0, TX0, 13)) (st := []) [.int (nI ((jP S (i)))), .int (nI (y14))] (jc_parentAt l D q cI cZ (u) ((jP S (i))) (y14) (by omega) (by omega) (jU S ((jP S (i))) (y14)) (rU _ _ (by omega) (by omega))) (cwV 2 K.1.2.2.2.2 (gX0_X0_parentAt _) rfl rfl rfl (by decide +kernel) (by rw [hR9]; exact ⟨Nat.le_of_ble_eq_true rfl, Nat.le_of_ble_eq_true rfl⟩)) rfl rfl rfl rfl rfl (Nat.le_of_ble_eq_true rfl) dX0_letterAt_47 (by rw [hR9]; exact ⟨Nat.le_of_ble_eq_true rfl, Nat.le_of_ble_eq_true rfl⟩) (fun r9 u9 h9 => ?_)
          obtain ⟨rfl, rfl⟩ := h9
          refine ja_istore_n K (lv1 := [(0, .ref (q 0)), (1, .int (nI (i))), (2, .int (nI (b))), (3, .int (jeI (jU S ((jP S (i))) (y14)))), (4, .int (nI (k))), (5, .int (jeI (jL S (i) (y14))))]) dX0_letterAt_50 (by decide) rfl rfl ?_
          refine ja_iinc K (lv1 := [(0, .ref (q 0)), (1, .int (nI (i))), (2, .int (nI (b))), (3, .int (jeI (jU S ((jP S (i))) (y14)))), (4, .int (nI ((k + 1)))), (5, .int (jeI (jL S (i) (y14))))]) 4 (nI ((k + 1))) dX0_letterAt_51 rfl (ja_inc _) (by decide) rfl rfl ?_
          refine ja_goto K (tgt := 5) dX0_letterAt_54 (by decide) ?_
          refine ja_locals (lv1 := [(0, .ref (q 0)), (1, .int (nI (i))), (2, .int (nI (b))), (3, .int (jeI (jU S ((jP S (i))) (y14)))), (4, .int (nI ((k + 1))))]) [0, 1, 2, 3, 4] rfl ?_
          have k9 := IH5 (k + 1) d (jU S (jP S i) y14) ⟨by omega, fun z hz => (wu _ _ z hz).2.1, by rw [← hI5.2.2]; simp [jpF, h33]⟩ (by omega)
          exact k9
        · obtain ⟨y33, ey33⟩ := Option.ne_none_iff_exists'.mp h33
          try rw [ey33]
          have by33 := wl _ _ _ ey33
          refine ja_iload K 5 dX0_letterAt_36 rfl ?_
          exact ja_iret K (u) rfl (Nat.zero_le _) (Nat.zero_le _) dX0_letterAt_38 hQ9 rfl ⟨by rw [jlet, ← hI5.2.2]; simp [jpF, ey33, jeI], rfl⟩
  exact L5 0 14 (some b) ⟨rfl, fun y h => by cases h; exact hb, rfl⟩
set_option maxRecDepth 100000 in
set_option maxHeartbeats 4000000 in
theorem jc_countMutations (l : Launch) (D : va_G) (q : Nat → Nat) (cI cZ : ClassId) (S : JS) (u : JX) (hW9 : jWf S) (hS9 : jxR1 S u)  : jkI l yX0_countMutations wsX0_countMutations ({ frames := 0, cells := 0, slots := 0, locals := 0 }) D vwCl (jxt cI cZ) (jxc q cI cZ) [.ref (q 0)] (jxc q cI cZ u) (fun r u1 => nI (jcm S) = r ∧ u = u1) := by
  refine jkI_of (cc := cX0_countMutations) (maxL := 3) (ret := (some .int)) (by decide) rfl (Nat.le_of_ble_eq_true rfl) ?_
  intro p e R s m args below meth c Q A K hn9 hR9 hQ9
  obtain ⟨rN, rT, rM, rU, rK, rP, rA, rL, rB⟩ := id hS9
  obtain ⟨wn, wt, wu, wk, wp, wl, wb⟩ := id hW9
  have hu9 : ∀ w ∈ u_ws RX0 TX0 13, w ∈ wsX0_countMutations := fun w h => List.mem_cons_of_mem _ (ku_X0 w h)
  show jaW p l e R s m args below meth c 0 0 Q D vwCl A 3 (jxc q cI cZ u) [(0, .ref (q 0))] 0 []
  refine ja_iconst K (nI 0) dX0_countMutations_0 (by decide) ?_
  refine ja_istore_n K (lv1 := [(0, .ref (q 0)), (1, .int (nI 0))]) dX0_countMutations_1 (by decide) rfl rfl ?_
  refine ja_iconst K (nI 0) dX0_countMutations_2 (by decide) ?_
  refine ja_istore_n K (lv1 := [(0, .ref (q 0)), (1, .int (nI 0)), (2, .int (nI 0))]) dX0_countMutations_3 (by decide) rfl rfl ?_
  have L4 : ∀ (i : Nat), (i ≤ 112) → jaW p l e R s m args below meth c 0 0 Q D vwCl A 3 (jxc q cI cZ u) [(0, .ref (q 0)), (1, .int (nI ((jct (fun j => (jL S (j / 14) (j % 14)).isSome) i)))), (2, .int (nI (i)))] 4 [] := by
    refine jl_1 (fun (i : Nat) => 112 - i) (fun (i : Nat) => i ≤ 112) _ ?_
    intro i hI4 IH4
    refine ja_iload_n K 2 dX0_countMutations_4 rfl ?_
    refine ja_aload_n K 0 dX0_countMutations_5 rfl ?_
    refine ja_get K hu9 0 rfl rfl 7 (by decide) (List.mem_cons_of_mem _ kfX0_33) rfl rfl dX0_countMutations_6 ?_
    refine ja_alen K 6 0 rfl rfl dX0_countMutations_9 ?_
    refine ja_icmp_ge K (tgt := 32) (112 ≤ i) dX0_countMutations_10 (by decide) (nI_leI (by omega) (by omega)) (fun h10 => ?_) (fun h10 => ?_)
    · refine ja_iload_n K 1 dX0_countMutations_32 rfl ?_
      exact ja_iret K (u) rfl (Nat.zero_le _) (Nat.zero_le _) dX0_countMutations_33 hQ9 rfl ⟨by rw [← jcm_eq hW9, show i = 112 by omega], rfl⟩
    · refine ja_aload_n K 0 dX0_countMutations_13 rfl ?_
      refine ja_get K hu9 0 rfl rfl 7 (by decide) (List.mem_cons_of_mem _ kfX0_33) rfl rfl dX0_countMutations_14 ?_
      refine ja_iload_n K 2 dX0_countMutations_17 rfl ?_
      refine ja_iald K (v := jeI (jL S (i / 14) (i % 14))) 6 0 rfl rfl (i) rfl (by omega) (by decide) (by have h9 := rL (i / 14) (i % 14) (by omega) (by omega); rwa [show i / 14 * 14 + i % 14 = i by omega] at h9) dX0_countMutations_18 ?_
      refine ja_iconst K (-1) dX0_countMutations_19 (by decide) ?_
      refine ja_icmp_eq K (tgt := 26) (jL S (i / 14) (i % 14) = none) dX0_countMutations_20 (by decide) (jeI_m1 (o := jL S (i / 14) (i % 14)) (fun p9 h9 => by have := (wl _ _ _ h9).2.2; omega)) (fun h20 => ?_) (fun h20 => ?_)
      · refine ja_iinc K (lv1 := [(0, .ref (q 0)), (1, .int (nI ((jct (fun j => (jL S (j / 14) (j % 14)).isSome) i)))), (2, .int (nI ((i + 1))))]) 2 (nI ((i + 1))) dX0_countMutations_26 rfl (ja_inc _) (by decide) rfl rfl ?_
        refine ja_goto K (tgt := 4) dX0_countMutations_29 (by decide) ?_
        have e90 : jct (fun j => (jL S (j / 14) (j % 14)).isSome) (i + 1) = (jct (fun j => (jL S (j / 14) (j % 14)).isSome) i) := by simp [jct, h10, h20]
        have k9 := IH4 (i + 1) (by omega) (by omega)
        rw [e90] at k9
        exact k9
      · obtain ⟨y20, ey20⟩ := Option.ne_none_iff_exists'.mp h20
        try rw [ey20]
        have by20 := wl _ _ _ ey20
        refine ja_iinc K (lv1 := [(0, .ref (q 0)), (1, .int (nI (((jct (fun j => (jL S (j / 14) (j % 14)).isSome) i) + 1)))), (2, .int (nI (i)))]) 1 (nI (((jct (fun j => (jL S (j / 14) (j % 14)).isSome) i) + 1))) dX0_countMutations_23 rfl (ja_inc _) (by decide) rfl rfl ?_
        refine ja_iinc K (lv1 := [(0, .ref (q 0)), (1, .int (nI (((jct (fun j => (jL S (j / 14) (j % 14)).isSome) i) + 1)))), (2, .int (nI ((i + 1))))]) 2 (nI ((i + 1))) dX0_countMutations_26 rfl (ja_inc _) (by decide) rfl rfl ?_
        refine ja_goto K (tgt := 4) dX0_countMutations_29 (by decide) ?_
        have e90 : jct (fun j => (jL S (j / 14) (j % 14)).isSome) (i + 1) = ((jct (fun j => (jL S (j / 14) (j % 14)).isSome) i) + 1) := by simp [jct, h10, h20, ey20]
        have k9 := IH4 (i + 1) (by omega) (by omega)
        rw [e90] at k9
        exact k9
  exact L4 0 (Nat.zero_le _)
set_option maxRecDepth 100000 in
set_option maxHeartbeats 4000000 in
theorem jc_countEdges (l : Launch) (D : va_G) (q : Nat → Nat) (cI cZ : ClassId) (S : JS) (u : JX) (hW9 : jWf S) (hS9 : jxR1 S u)  : jkI l yX0_countEdges wsX0_countEdges ({ frames := 2, cells := 0, slots := 0, locals := 45 }) D vwCl (jxt cI cZ) (jxc q cI cZ) [.ref (q 0)] (jxc q cI cZ u) (fun r u1 => nI (jsm (fun x => jct (fun c => jst (jU S) x c) (jN S)) 60) = r ∧ u = u1) := by
  refine jkI_of (cc := cX0_countEdges) (maxL := 4) (ret := (some .int)) (by decide) rfl (Nat.le_of_ble_eq_true rfl) ?_
  intro p e R s m args below meth c Q A K hn9 hR9 hQ9
  obtain ⟨rN, rT, rM, rU, rK, rP, rA, rL, rB⟩ := id hS9
  obtain ⟨wn, wt, wu, wk, wp, wl, wb⟩ := id hW9
  have hu9 : ∀ w ∈ u_ws RX0 TX0 13, w ∈ wsX0_countEdges := fun w h => List.mem_cons_of_mem _ (ku_X0 w h)
  show jaW p l e R s m args below meth c 0 0 Q D vwCl A 4 (jxc q cI cZ u) [(0, .ref (q 0))] 0 []
  refine ja_iconst K (nI 0) dX0_countEdges_0 (by decide) ?_
  refine ja_istore_n K (lv1 := [(0, .ref (q 0)), (1, .int (nI 0))]) dX0_countEdges_1 (by decide) rfl rfl ?_
  refine ja_iconst K (nI 0) dX0_countEdges_2 (by decide) ?_
  refine ja_istore_n K (lv1 := [(0, .ref (q 0)), (1, .int (nI 0)), (2, .int (nI 0))]) dX0_countEdges_3 (by decide) rfl rfl ?_
  have L4 : ∀ (x : Nat), (x ≤ 60) → jaW p l e R s m args below meth c 0 0 Q D vwCl A 4 (jxc q cI cZ u) [(0, .ref (q 0)), (1, .int (nI ((jsm (fun x => jct (fun c => jst (jU S) x c) (jN S)) x)))), (2, .int (nI (x)))] 4 [] := by
    refine jl_1 (fun (x : Nat) => 60 - x) (fun (x : Nat) => x ≤ 60) _ ?_
    intro x hI4 IH4
    refine ja_iload_n K 2 dX0_countEdges_4 rfl ?_
    refine ja_bipush K (nI 60) dX0_countEdges_5 (by decide) ?_
    refine ja_icmp_ge K (tgt := 44) (60 ≤ x) dX0_countEdges_7 (by decide) (nI_leI (by omega) (by omega)) (fun h7 => ?_) (fun h7 => ?_)
    · refine ja_iload_n K 1 dX0_countEdges_44 rfl ?_
      exact ja_iret K (u) rfl (Nat.zero_le _) (Nat.zero_le _) dX0_countEdges_45 hQ9 rfl ⟨by rw [show x = 60 by omega], rfl⟩
    · refine ja_iconst K (nI 0) dX0_countEdges_10 (by decide) ?_
      refine ja_istore_n K (lv1 := [(0, .ref (q 0)), (1, .int (nI ((jsm (fun x => jct (fun c => jst (jU S) x c) (jN S)) x)))), (2, .int (nI (x))), (3, .int (nI 0))]) dX0_countEdges_11 (by decide) rfl rfl ?_
      have L12 : ∀ (i : Nat), (i ≤ jN S) → jaW p l e R s m args below meth c 0 0 Q D vwCl A 4 (jxc q cI cZ u) [(0, .ref (q 0)), (1, .int (nI (((jsm (fun x => jct (fun c => jst (jU S) x c) (jN S)) x) + jct (fun c => jst (jU S) x c) i)))), (2, .int (nI (x))), (3, .int (nI (i)))] 12 [] := by
        refine jl_1 (fun (i : Nat) => jN S - i) (fun (i : Nat) => i ≤ jN S) _ ?_
        intro i hI12 IH12
        refine ja_iload_n K 3 dX0_countEdges_12 rfl ?_
        refine ja_aload_n K 0 dX0_countEdges_13 rfl ?_
        refine ja_get K hu9 0 rfl rfl 0 (by decide) (List.mem_cons_of_mem _ kfX0_7) rfl (congrArg (fun z9 => some (Value.int z9)) rN) dX0_countEdges_14 ?_
        refine ja_icmp_ge K (tgt := 38) ((jN S) ≤ i) dX0_countEdges_17 (by decide) (nI_leI (by omega) (by omega)) (fun h17 => ?_) (fun h17 => ?_)
        · refine ja_iinc K (lv1 := [(0, .ref (q 0)), (1, .int (nI (((jsm (fun x => jct (fun c => jst (jU S) x c) (jN S)) x) + jct (fun c => jst (jU S) x c) i)))), (2, .int (nI ((x + 1)))), (3, .int (nI (i)))]) 2 (nI ((x + 1))) dX0_countEdges_38 rfl (ja_inc _) (by decide) rfl rfl ?_
          refine ja_goto K (tgt := 4) dX0_countEdges_41 (by decide) ?_
          refine ja_locals (lv1 := [(0, .ref (q 0)), (1, .int (nI (((jsm (fun x => jct (fun c => jst (jU S) x c) (jN S)) x) + jct (fun c => jst (jU S) x c) i)))), (2, .int (nI ((x + 1))))]) [0, 1, 2] rfl ?_
          have e90 : (jsm (fun x => jct (fun c => jst (jU S) x c) (jN S)) (x + 1)) = ((jsm (fun x => jct (fun c => jst (jU S) x c) (jN S)) x) + jct (fun c => jst (jU S) x c) i) := by rw [show i = jN S by omega]; rfl
          have k9 := IH4 (x + 1) (by omega) (by omega)
          rw [e90] at k9
          exact k9
        · refine ja_aload_n K 0 dX0_countEdges_20 rfl ?_
          refine ja_iload_n K 2 dX0_countEdges_21 rfl ?_
          refine ja_iload_n K 3 dX0_countEdges_22 rfl ?_
          refine ja_callVI K (q0 := 0) (qc := (RX0, TX0, 13)) (st := []) [.int (nI (x)), .int (nI (i))] (jc_startsEdge l D q cI cZ S (u) hW9 hS9 (x) (i) (by omega) (by omega)) (cwV 2 K.1.2.2.2.2 (gX0_X0_startsEdge _) rfl rfl rfl (by decide +kernel) (by rw [hR9]; exact ⟨Nat.le_of_ble_eq_true rfl, Nat.le_of_ble_eq_true rfl⟩)) rfl rfl rfl rfl rfl (Nat.le_of_ble_eq_true rfl) dX0_countEdges_23 (by rw [hR9]; exact ⟨Nat.le_of_ble_eq_true rfl, Nat.le_of_ble_eq_true rfl⟩) (fun r9 u9 h9 => ?_)
          obtain ⟨rfl, rfl⟩ := h9
          refine ja_if_eq K (tgt := 32) (jst (jU S) (x) (i) = false) dX0_countEdges_26 (by decide) (jbI_ne _) (fun h26 => ?_) (fun h26 => ?_)
          · refine ja_iinc K (lv1 := [(0, .ref (q 0)), (1, .int (nI (((jsm (fun x => jct (fun c => jst (jU S) x c) (jN S)) x) + jct (fun c => jst (jU S) x c) i)))), (2, .int (nI (x))), (3, .int (nI ((i + 1))))]) 3 (nI ((i + 1))) dX0_countEdges_32 rfl (ja_inc _) (by decide) rfl rfl ?_
            refine ja_goto K (tgt := 12) dX0_countEdges_35 (by decide) ?_
            have e90 : (jsm (fun x => jct (fun c => jst (jU S) x c) (jN S)) x) + jct (fun c => jst (jU S) x c) (i + 1) = ((jsm (fun x => jct (fun c => jst (jU S) x c) (jN S)) x) + jct (fun c => jst (jU S) x c) i) := by simp [jct, h7, h17, h26]; try omega
            have k9 := IH12 (i + 1) (by omega) (by omega)
            rw [e90] at k9
            exact k9
          · refine ja_iinc K (lv1 := [(0, .ref (q 0)), (1, .int (nI ((((jsm (fun x => jct (fun c => jst (jU S) x c) (jN S)) x) + jct (fun c => jst (jU S) x c) i) + 1)))), (2, .int (nI (x))), (3, .int (nI (i)))]) 1 (nI ((((jsm (fun x => jct (fun c => jst (jU S) x c) (jN S)) x) + jct (fun c => jst (jU S) x c) i) + 1))) dX0_countEdges_29 rfl (ja_inc _) (by decide) rfl rfl ?_
            refine ja_iinc K (lv1 := [(0, .ref (q 0)), (1, .int (nI ((((jsm (fun x => jct (fun c => jst (jU S) x c) (jN S)) x) + jct (fun c => jst (jU S) x c) i) + 1)))), (2, .int (nI (x))), (3, .int (nI ((i + 1))))]) 3 (nI ((i + 1))) dX0_countEdges_32 rfl (ja_inc _) (by decide) rfl rfl ?_
            refine ja_goto K (tgt := 12) dX0_countEdges_35 (by decide) ?_
            have e90 : (jsm (fun x => jct (fun c => jst (jU S) x c) (jN S)) x) + jct (fun c => jst (jU S) x c) (i + 1) = (((jsm (fun x => jct (fun c => jst (jU S) x c) (jN S)) x) + jct (fun c => jst (jU S) x c) i) + 1) := by simp [jct, h7, h17, h26]; try omega
            have k9 := IH12 (i + 1) (by omega) (by omega)
            rw [e90] at k9
            exact k9
      exact L12 0 (Nat.zero_le _)
  exact L4 0 (Nat.zero_le _)
set_option maxRecDepth 100000 in
set_option maxHeartbeats 4000000 in
theorem jc_edgeEnd (l : Launch) (D : va_G) (q : Nat → Nat) (cI cZ : ClassId) (S : JS) (u : JX) (hW9 : jWf S) (hS9 : jxR1 S u) (x c0 : Nat) (hx : x < 60) (hc : c0 < 14) : jkI l yX0_edgeEnd wsX0_edgeEnd ({ frames := 1, cells := 0, slots := 0, locals := 22 }) D vwCl (jxt cI cZ) (jxc q cI cZ) [.ref (q 0), .int (nI x), .int (nI c0)] (jxc q cI cZ u) (fun r u1 => nI (jend S x c0) = r ∧ u = u1) := by
  refine jkI_of (cc := cX0_edgeEnd) (maxL := 4) (ret := (some .int)) (by decide) rfl (Nat.le_of_ble_eq_true rfl) ?_
  intro p e R s m args below meth c Q A K hn9 hR9 hQ9
  obtain ⟨rN, rT, rM, rU, rK, rP, rA, rL, rB⟩ := id hS9
  obtain ⟨wn, wt, wu, wk, wp, wl, wb⟩ := id hW9
  have hu9 : ∀ w ∈ u_ws RX0 TX0 13, w ∈ wsX0_edgeEnd := fun w h => List.mem_cons_of_mem _ (ku_X0 w h)
  show jaW p l e R s m args below meth c 0 0 Q D vwCl A 4 (jxc q cI cZ u) [(0, .ref (q 0)), (1, .int (nI (x))), (2, .int (nI (c0)))] 0 []
  refine ja_iload_n K 1 dX0_edgeEnd_0 rfl ?_
  refine ja_iconst K (nI 1) dX0_edgeEnd_1 (by decide) ?_
  refine ja_iadd K (nI ((x + 1))) dX0_edgeEnd_2 (nI_add _ _) ?_
  refine ja_istore_n K (lv1 := [(0, .ref (q 0)), (1, .int (nI (x))), (2, .int (nI (c0))), (3, .int (nI ((x + 1))))]) dX0_edgeEnd_3 (by decide) rfl rfl ?_
  have L4 : ∀ (e0 : Nat), ((x < e0 ∧ e0 ≤ 60) ∧ jene (fun e => jU S e c0 == jU S x c0) (60 - e0) e0 = jend S x c0) → jaW p l e R s m args below meth c 0 0 Q D vwCl A 4 (jxc q cI cZ u) [(0, .ref (q 0)), (1, .int (nI (x))), (2, .int (nI (c0))), (3, .int (nI (e0)))] 4 [] := by
    refine jl_1 (fun (e0 : Nat) => 60 - e0) (fun (e0 : Nat) => (x < e0 ∧ e0 ≤ 60) ∧ jene (fun e => jU S e c0 == jU S x c0) (60 - e0) e0 = jend S x c0) _ ?_
    intro e0 hI4 IH4
    refine ja_iload_n K 3 dX0_edgeEnd_4 rfl ?_
    refine ja_bipush K (nI 60) dX0_edgeEnd_5 (by decide) ?_
    refine ja_icmp_ge K (tgt := 31) (60 ≤ e0) dX0_edgeEnd_7 (by decide) (nI_leI (by omega) (by omega)) (fun h7 => ?_) (fun h7 => ?_)
    · refine ja_iload_n K 3 dX0_edgeEnd_31 rfl ?_
      exact ja_iret K (u) rfl (Nat.zero_le _) (Nat.zero_le _) dX0_edgeEnd_32 hQ9 rfl ⟨by rw [← hI4.2]; first | rw [show 60 - e0 = 0 by omega]; rfl | rw [show 60 - e0 = (59 - e0) + 1 by omega]; simp [jene, h22], rfl⟩
    · refine ja_aload_n K 0 dX0_edgeEnd_10 rfl ?_
      refine ja_iload_n K 3 dX0_edgeEnd_11 rfl ?_
      refine ja_iload_n K 2 dX0_edgeEnd_12 rfl ?_
      refine ja_callVI K (q0 := 0) (qc := (RX0, TX0, 13)) (st := []) [.int (nI (e0)), .int (nI (c0))] (jc_parentAt l D q cI cZ (u) (e0) (c0) (by omega) (by omega) (jU S (e0) (c0)) (rU _ _ (by omega) (by omega))) (cwV 2 K.1.2.2.2.2 (gX0_X0_parentAt _) rfl rfl rfl (by decide +kernel) (by rw [hR9]; exact ⟨Nat.le_of_ble_eq_true rfl, Nat.le_of_ble_eq_true rfl⟩)) rfl rfl rfl rfl rfl (Nat.le_of_ble_eq_true rfl) dX0_edgeEnd_13 (by rw [hR9]; exact ⟨Nat.le_of_ble_eq_true rfl, Nat.le_of_ble_eq_true rfl⟩) (fun r9 u9 h9 => ?_)
      obtain ⟨rfl, rfl⟩ := h9
      refine ja_aload_n K 0 dX0_edgeEnd_16 rfl ?_
      refine ja_iload_n K 1 dX0_edgeEnd_17 rfl ?_
      refine ja_iload_n K 2 dX0_edgeEnd_18 rfl ?_
      refine ja_callVI K (q0 := 0) (qc := (RX0, TX0, 13)) (st := [.int (jeI (jU S (e0) (c0)))]) [.int (nI (x)), .int (nI (c0))] (jc_parentAt l D q cI cZ (u) (x) (c0) (by omega) (by omega) (jU S (x) (c0)) (rU _ _ (by omega) (by omega))) (cwV 2 K.1.2.2.2.2 (gX0_X0_parentAt _) rfl rfl rfl (by decide +kernel) (by rw [hR9]; exact ⟨Nat.le_of_ble_eq_true rfl, Nat.le_of_ble_eq_true rfl⟩)) rfl rfl rfl rfl rfl (Nat.le_of_ble_eq_true rfl) dX0_edgeEnd_19 (by rw [hR9]; exact ⟨Nat.le_of_ble_eq_true rfl, Nat.le_of_ble_eq_true rfl⟩) (fun r9 u9 h9 => ?_)
      obtain ⟨rfl, rfl⟩ := h9
      refine ja_icmp_ne K (tgt := 31) (¬ jU S (e0) (c0) = jU S (x) (c0)) dX0_edgeEnd_22 (by decide) (not_congr (jeI_inj (o := jU S (e0) (c0)) (o' := jU S (x) (c0)) (fun p9 h9 => by have := (wu _ _ _ h9).2.1; omega) (fun p9 h9 => by have := (wu _ _ _ h9).2.1; omega))) (fun h22 => ?_) (fun h22 => ?_)
      · refine ja_iload_n K 3 dX0_edgeEnd_31 rfl ?_
        exact ja_iret K (u) rfl (Nat.zero_le _) (Nat.zero_le _) dX0_edgeEnd_32 hQ9 rfl ⟨by rw [← hI4.2]; first | rw [show 60 - e0 = 0 by omega]; rfl | rw [show 60 - e0 = (59 - e0) + 1 by omega]; simp [jene, h22], rfl⟩
      · refine ja_iinc K (lv1 := [(0, .ref (q 0)), (1, .int (nI (x))), (2, .int (nI (c0))), (3, .int (nI ((e0 + 1))))]) 3 (nI ((e0 + 1))) dX0_edgeEnd_25 rfl (ja_inc _) (by decide) rfl rfl ?_
        refine ja_goto K (tgt := 4) dX0_edgeEnd_28 (by decide) ?_
        have k9 := IH4 (e0 + 1) ⟨by omega, by rw [← hI4.2, show 60 - e0 = (60 - (e0 + 1)) + 1 by omega]; simp at h22; simp [jene, h22]⟩ (by omega)
        exact k9
  exact L4 (x + 1) ⟨by omega, rfl⟩
set_option maxRecDepth 100000 in
set_option maxHeartbeats 4000000 in
theorem jc_nextByTime (l : Launch) (D : va_G) (q : Nat → Nat) (cI cZ : ClassId) (S : JS) (u : JX) (hW9 : jWf S) (hS9 : jxR1 S u) (o : Option Nat) (ho : ∀ y, o = some y → y < jN S) : jkI l yX0_nextByTime wsX0_nextByTime ({ frames := 1, cells := 0, slots := 0, locals := 22 }) D vwCl (jxt cI cZ) (jxc q cI cZ) [.ref (q 0), .int (jeI o)] (jxc q cI cZ u) (fun r u1 => jeI (jnx (jT S) o (jN S)) = r ∧ u = u1) := by
  refine jkI_of (cc := cX0_nextByTime) (maxL := 4) (ret := (some .int)) (by decide) rfl (Nat.le_of_ble_eq_true rfl) ?_
  intro p e R s m args below meth c Q A K hn9 hR9 hQ9
  obtain ⟨rN, rT, rM, rU, rK, rP, rA, rL, rB⟩ := id hS9
  obtain ⟨wn, wt, wu, wk, wp, wl, wb⟩ := id hW9
  have hu9 : ∀ w ∈ u_ws RX0 TX0 13, w ∈ wsX0_nextByTime := fun w h => List.mem_cons_of_mem _ (ku_X0 w h)
  show jaW p l e R s m args below meth c 0 0 Q D vwCl A 4 (jxc q cI cZ u) [(0, .ref (q 0)), (1, .int (jeI (o)))] 0 []
  refine ja_iconst K (-1) dX0_nextByTime_0 (by decide) ?_
  refine ja_istore_n K (lv1 := [(0, .ref (q 0)), (1, .int (jeI (o))), (2, .int (-1))]) dX0_nextByTime_1 (by decide) rfl rfl ?_
  refine ja_iconst K (nI 0) dX0_nextByTime_2 (by decide) ?_
  refine ja_istore_n K (lv1 := [(0, .ref (q 0)), (1, .int (jeI (o))), (2, .int (-1)), (3, .int (nI 0))]) dX0_nextByTime_3 (by decide) rfl rfl ?_
  have L4 : ∀ (m0 : Nat), (m0 ≤ jN S) → jaW p l e R s m args below meth c 0 0 Q D vwCl A 4 (jxc q cI cZ u) [(0, .ref (q 0)), (1, .int (jeI (o))), (2, .int (jeI (jnx (jT S) o m0))), (3, .int (nI (m0)))] 4 [] := by
    refine jl_1 (fun (m0 : Nat) => jN S - m0) (fun (m0 : Nat) => m0 ≤ jN S) _ ?_
    intro m0 hI4 IH4
    refine ja_iload_n K 3 dX0_nextByTime_4 rfl ?_
    refine ja_aload_n K 0 dX0_nextByTime_5 rfl ?_
    refine ja_get K hu9 0 rfl rfl 0 (by decide) (List.mem_cons_of_mem _ kfX0_7) rfl (congrArg (fun z9 => some (Value.int z9)) rN) dX0_nextByTime_6 ?_
    refine ja_icmp_ge K (tgt := 48) ((jN S) ≤ m0) dX0_nextByTime_9 (by decide) (nI_leI (by omega) (by omega)) (fun h9 => ?_) (fun h9 => ?_)
    · refine ja_iload_n K 2 dX0_nextByTime_48 rfl ?_
      exact ja_iret K (u) rfl (Nat.zero_le _) (Nat.zero_le _) dX0_nextByTime_49 hQ9 rfl ⟨by rw [show m0 = jN S by omega], rfl⟩
    · refine ja_iload_n K 1 dX0_nextByTime_12 rfl ?_
      refine ja_iconst K (-1) dX0_nextByTime_13 (by decide) ?_
      refine ja_icmp_eq K (tgt := 26) (o = none) dX0_nextByTime_14 (by decide) (jeI_m1 (o := o) (fun p9 h9 => by have := ho p9 h9; omega)) (fun h14 => ?_) (fun h14 => ?_)
      · subst h14
        refine ja_iload_n K 2 dX0_nextByTime_26 rfl ?_
        refine ja_iconst K (-1) dX0_nextByTime_27 (by decide) ?_
        refine ja_icmp_eq K (tgt := 40) (jnx (jT S) none m0 = none) dX0_nextByTime_28 (by decide) (jeI_m1 (o := jnx (jT S) none m0) (fun p9 h9 => by have := ((jnx_spec (jT S) _ m0).1 _ h9).1; omega)) (fun h28 => ?_) (fun h28 => ?_)
        · refine ja_iload_n K 3 dX0_nextByTime_40 rfl ?_
          refine ja_istore_n K (lv1 := [(0, .ref (q 0)), (1, .int (-1)), (2, .int (nI (m0))), (3, .int (nI (m0)))]) dX0_nextByTime_41 (by decide) rfl rfl ?_
          refine ja_iinc K (lv1 := [(0, .ref (q 0)), (1, .int (-1)), (2, .int (nI (m0))), (3, .int (nI ((m0 + 1))))]) 3 (nI ((m0 + 1))) dX0_nextByTime_42 rfl (ja_inc _) (by decide) rfl rfl ?_
          refine ja_goto K (tgt := 4) dX0_nextByTime_45 (by decide) ?_
          have e90 : jnx (jT S) none (m0 + 1) = some (m0) := by simp [jnx, h9, h28]
          have k9 := IH4 (m0 + 1) (by omega) (by omega)
          rw [e90] at k9
          exact k9
        · obtain ⟨y28, ey28⟩ := Option.ne_none_iff_exists'.mp h28
          try rw [ey28]
          have by28 := ((jnx_spec (jT S) _ m0).1 _ ey28).1
          refine ja_aload_n K 0 dX0_nextByTime_31 rfl ?_
          refine ja_iload_n K 3 dX0_nextByTime_32 rfl ?_
          refine ja_iload_n K 2 dX0_nextByTime_33 rfl ?_
          refine ja_callVI K (q0 := 0) (qc := (RX0, TX0, 13)) (st := []) [.int (nI (m0)), .int (nI (y28))] (jc_isEarlier l D q cI cZ S (u) hW9 hS9 (m0) (y28) (by omega) (by omega)) (cwV 2 K.1.2.2.2.2 (gX0_X0_isEarlier _) rfl rfl rfl (by decide +kernel) (by rw [hR9]; exact ⟨Nat.le_of_ble_eq_true rfl, Nat.le_of_ble_eq_true rfl⟩)) rfl rfl rfl rfl rfl (Nat.le_of_ble_eq_true rfl) dX0_nextByTime_34 (by rw [hR9]; exact ⟨Nat.le_of_ble_eq_true rfl, Nat.le_of_ble_eq_true rfl⟩) (fun r9 u9 h9 => ?_)
          obtain ⟨rfl, rfl⟩ := h9
          refine ja_if_eq K (tgt := 42) (jlt (jT S) (m0) (y28) = false) dX0_nextByTime_37 (by decide) (jbI_ne _) (fun h37 => ?_) (fun h37 => ?_)
          · refine ja_iinc K (lv1 := [(0, .ref (q 0)), (1, .int (-1)), (2, .int (nI (y28))), (3, .int (nI ((m0 + 1))))]) 3 (nI ((m0 + 1))) dX0_nextByTime_42 rfl (ja_inc _) (by decide) rfl rfl ?_
            refine ja_goto K (tgt := 4) dX0_nextByTime_45 (by decide) ?_
            have e90 : jnx (jT S) none (m0 + 1) = some (y28) := by simp [jnx, h9, h28, ey28, h37]
            have k9 := IH4 (m0 + 1) (by omega) (by omega)
            rw [e90] at k9
            exact k9
          · refine ja_iload_n K 3 dX0_nextByTime_40 rfl ?_
            refine ja_istore_n K (lv1 := [(0, .ref (q 0)), (1, .int (-1)), (2, .int (nI (m0))), (3, .int (nI (m0)))]) dX0_nextByTime_41 (by decide) rfl rfl ?_
            refine ja_iinc K (lv1 := [(0, .ref (q 0)), (1, .int (-1)), (2, .int (nI (m0))), (3, .int (nI ((m0 + 1))))]) 3 (nI ((m0 + 1))) dX0_nextByTime_42 rfl (ja_inc _) (by decide) rfl rfl ?_
            refine ja_goto K (tgt := 4) dX0_nextByTime_45 (by decide) ?_
            have e90 : jnx (jT S) none (m0 + 1) = some (m0) := by simp [jnx, h9, h28, ey28, h37]
            have k9 := IH4 (m0 + 1) (by omega) (by omega)
            rw [e90] at k9
            exact k9
      · obtain ⟨y14, rfl⟩ := Option.ne_none_iff_exists'.mp h14
        have by14 := ho y14 rfl
        refine ja_aload_n K 0 dX0_nextByTime_17 rfl ?_
        refine ja_iload_n K 1 dX0_nextByTime_18 rfl ?_
        refine ja_iload_n K 3 dX0_nextByTime_19 rfl ?_
        refine ja_callVI K (q0 := 0) (qc := (RX0, TX0, 13)) (st := []) [.int (nI (y14)), .int (nI (m0))] (jc_isEarlier l D q cI cZ S (u) hW9 hS9 (y14) (m0) (by omega) (by omega)) (cwV 2 K.1.2.2.2.2 (gX0_X0_isEarlier _) rfl rfl rfl (by decide +kernel) (by rw [hR9]; exact ⟨Nat.le_of_ble_eq_true rfl, Nat.le_of_ble_eq_true rfl⟩)) rfl rfl rfl rfl rfl (Nat.le_of_ble_eq_true rfl) dX0_nextByTime_20 (by rw [hR9]; exact ⟨Nat.le_of_ble_eq_true rfl, Nat.le_of_ble_eq_true rfl⟩) (fun r9 u9 h9 => ?_)
        obtain ⟨rfl, rfl⟩ := h9
        refine ja_if_eq K (tgt := 42) (jlt (jT S) (y14) (m0) = false) dX0_nextByTime_23 (by decide) (jbI_ne _) (fun h23 => ?_) (fun h23 => ?_)
        · refine ja_iinc K (lv1 := [(0, .ref (q 0)), (1, .int (nI (y14))), (2, .int (jeI (jnx (jT S) (some y14) m0))), (3, .int (nI ((m0 + 1))))]) 3 (nI ((m0 + 1))) dX0_nextByTime_42 rfl (ja_inc _) (by decide) rfl rfl ?_
          refine ja_goto K (tgt := 4) dX0_nextByTime_45 (by decide) ?_
          have e90 : jnx (jT S) (some y14) (m0 + 1) = jnx (jT S) (some y14) m0 := by simp [jnx, h9, h23]
          have k9 := IH4 (m0 + 1) (by omega) (by omega)
          rw [e90] at k9
          exact k9
        · refine ja_iload_n K 2 dX0_nextByTime_26 rfl ?_
          refine ja_iconst K (-1) dX0_nextByTime_27 (by decide) ?_
          refine ja_icmp_eq K (tgt := 40) (jnx (jT S) (some y14) m0 = none) dX0_nextByTime_28 (by decide) (jeI_m1 (o := jnx (jT S) (some y14) m0) (fun p9 h9 => by have := ((jnx_spec (jT S) _ m0).1 _ h9).1; omega)) (fun h28 => ?_) (fun h28 => ?_)
          · refine ja_iload_n K 3 dX0_nextByTime_40 rfl ?_
            refine ja_istore_n K (lv1 := [(0, .ref (q 0)), (1, .int (nI (y14))), (2, .int (nI (m0))), (3, .int (nI (m0)))]) dX0_nextByTime_41 (by decide) rfl rfl ?_
            refine ja_iinc K (lv1 := [(0, .ref (q 0)), (1, .int (nI (y14))), (2, .int (nI (m0))), (3, .int (nI ((m0 + 1))))]) 3 (nI ((m0 + 1))) dX0_nextByTime_42 rfl (ja_inc _) (by decide) rfl rfl ?_
            refine ja_goto K (tgt := 4) dX0_nextByTime_45 (by decide) ?_
            have e90 : jnx (jT S) (some y14) (m0 + 1) = some (m0) := by simp [jnx, h9, h23, h28]
            have k9 := IH4 (m0 + 1) (by omega) (by omega)
            rw [e90] at k9
            exact k9
          · obtain ⟨y28, ey28⟩ := Option.ne_none_iff_exists'.mp h28
            try rw [ey28]
            have by28 := ((jnx_spec (jT S) _ m0).1 _ ey28).1
            refine ja_aload_n K 0 dX0_nextByTime_31 rfl ?_
            refine ja_iload_n K 3 dX0_nextByTime_32 rfl ?_
            refine ja_iload_n K 2 dX0_nextByTime_33 rfl ?_
            refine ja_callVI K (q0 := 0) (qc := (RX0, TX0, 13)) (st := []) [.int (nI (m0)), .int (nI (y28))] (jc_isEarlier l D q cI cZ S (u) hW9 hS9 (m0) (y28) (by omega) (by omega)) (cwV 2 K.1.2.2.2.2 (gX0_X0_isEarlier _) rfl rfl rfl (by decide +kernel) (by rw [hR9]; exact ⟨Nat.le_of_ble_eq_true rfl, Nat.le_of_ble_eq_true rfl⟩)) rfl rfl rfl rfl rfl (Nat.le_of_ble_eq_true rfl) dX0_nextByTime_34 (by rw [hR9]; exact ⟨Nat.le_of_ble_eq_true rfl, Nat.le_of_ble_eq_true rfl⟩) (fun r9 u9 h9 => ?_)
            obtain ⟨rfl, rfl⟩ := h9
            refine ja_if_eq K (tgt := 42) (jlt (jT S) (m0) (y28) = false) dX0_nextByTime_37 (by decide) (jbI_ne _) (fun h37 => ?_) (fun h37 => ?_)
            · refine ja_iinc K (lv1 := [(0, .ref (q 0)), (1, .int (nI (y14))), (2, .int (nI (y28))), (3, .int (nI ((m0 + 1))))]) 3 (nI ((m0 + 1))) dX0_nextByTime_42 rfl (ja_inc _) (by decide) rfl rfl ?_
              refine ja_goto K (tgt := 4) dX0_nextByTime_45 (by decide) ?_
              have e90 : jnx (jT S) (some y14) (m0 + 1) = some (y28) := by simp [jnx, h9, h23, h28, ey28, h37]
              have k9 := IH4 (m0 + 1) (by omega) (by omega)
              rw [e90] at k9
              exact k9
            · refine ja_iload_n K 3 dX0_nextByTime_40 rfl ?_
              refine ja_istore_n K (lv1 := [(0, .ref (q 0)), (1, .int (nI (y14))), (2, .int (nI (m0))), (3, .int (nI (m0)))]) dX0_nextByTime_41 (by decide) rfl rfl ?_
              refine ja_iinc K (lv1 := [(0, .ref (q 0)), (1, .int (nI (y14))), (2, .int (nI (m0))), (3, .int (nI ((m0 + 1))))]) 3 (nI ((m0 + 1))) dX0_nextByTime_42 rfl (ja_inc _) (by decide) rfl rfl ?_
              refine ja_goto K (tgt := 4) dX0_nextByTime_45 (by decide) ?_
              have e90 : jnx (jT S) (some y14) (m0 + 1) = some (m0) := by simp [jnx, h9, h23, h28, ey28, h37]
              have k9 := IH4 (m0 + 1) (by omega) (by omega)
              rw [e90] at k9
              exact k9
  exact L4 0 (Nat.zero_le _)
end
section
set_option maxRecDepth 100000 in
set_option maxHeartbeats 4000000 in
theorem jc_hasParentBeside (l : Launch) (D : va_G) (q : Nat → Nat) (cI cZ : ClassId) (S : JS) (u : JX) (hW9 : jWf S) (hS9 : jxR1 S u) (i j p0 c0 : Nat) (hij : i < j) (hj : j ≤ 60) (hp : p0 < 14) (hc : c0 < 14) : jkI l yX0_hasParentBeside wsX0_hasParentBeside ({ frames := 1, cells := 0, slots := 0, locals := 22 }) D vwCl (jxt cI cZ) (jxc q cI cZ) [.ref (q 0), .int (nI i), .int (nI j), .int (nI p0), .int (nI c0)] (jxc q cI cZ u) (fun r u1 => jbI (jany (fun d => jU S (i + d) c0 != none && jU S (i + d) c0 != some p0) (j - i)) = r ∧ u = u1) := by
  refine jkI_of (cc := cX0_hasParentBeside) (maxL := 7) (ret := (some .boolean)) (by decide) rfl (Nat.le_of_ble_eq_true rfl) ?_
  intro p e R s m args below meth c Q A K hn9 hR9 hQ9
  obtain ⟨rN, rT, rM, rU, rK, rP, rA, rL, rB⟩ := id hS9
  obtain ⟨wn, wt, wu, wk, wp, wl, wb⟩ := id hW9
  have hu9 : ∀ w ∈ u_ws RX0 TX0 13, w ∈ wsX0_hasParentBeside := fun w h => List.mem_cons_of_mem _ (ku_X0 w h)
  show jaW p l e R s m args below meth c 0 0 Q D vwCl A 7 (jxc q cI cZ u) [(0, .ref (q 0)), (1, .int (nI (i))), (2, .int (nI (j))), (3, .int (nI (p0))), (4, .int (nI (c0)))] 0 []
  refine ja_iload_n K 1 dX0_hasParentBeside_0 rfl ?_
  refine ja_istore K (lv1 := [(0, .ref (q 0)), (1, .int (nI (i))), (2, .int (nI (j))), (3, .int (nI (p0))), (4, .int (nI (c0))), (5, .int (nI (i)))]) dX0_hasParentBeside_1 (by decide) rfl rfl ?_
  have L3 : ∀ (x : Nat), ((i ≤ x ∧ x ≤ j) ∧ jany (fun d => jU S (i + d) c0 != none && jU S (i + d) c0 != some p0) (x - i) = false) → jaW p l e R s m args below meth c 0 0 Q D vwCl A 7 (jxc q cI cZ u) [(0, .ref (q 0)), (1, .int (nI (i))), (2, .int (nI (j))), (3, .int (nI (p0))), (4, .int (nI (c0))), (5, .int (nI (x)))] 3 [] := by
    refine jl_1 (fun (x : Nat) => j - x) (fun (x : Nat) => (i ≤ x ∧ x ≤ j) ∧ jany (fun d => jU S (i + d) c0 != none && jU S (i + d) c0 != some p0) (x - i) = false) _ ?_
    intro x hI3 IH3
    refine ja_iload K 5 dX0_hasParentBeside_3 rfl ?_
    refine ja_iload_n K 2 dX0_hasParentBeside_5 rfl ?_
    refine ja_icmp_ge K (tgt := 39) (j ≤ x) dX0_hasParentBeside_6 (by decide) (nI_leI (by omega) (by omega)) (fun h6 => ?_) (fun h6 => ?_)
    · refine ja_iconst K (nI 0) dX0_hasParentBeside_39 (by decide) ?_
      exact ja_zret K (u) rfl (by first | exact ja_nz1 | exact ja_nz0 | exact jbI_narrow _) (Nat.zero_le _) (Nat.zero_le _) dX0_hasParentBeside_40 hQ9 rfl ⟨jb0 (by rw [show j - i = x - i by omega]; exact hI3.2), rfl⟩
    · refine ja_aload_n K 0 dX0_hasParentBeside_9 rfl ?_
      refine ja_iload K 5 dX0_hasParentBeside_10 rfl ?_
      refine ja_iload K 4 dX0_hasParentBeside_12 rfl ?_
      refine ja_callVI K (q0 := 0) (qc := (RX0, TX0, 13)) (st := []) [.int (nI (x)), .int (nI (c0))] (jc_parentAt l D q cI cZ (u) (x) (c0) (by omega) (by omega) (jU S (x) (c0)) (rU _ _ (by omega) (by omega))) (cwV 2 K.1.2.2.2.2 (gX0_X0_parentAt _) rfl rfl rfl (by decide +kernel) (by rw [hR9]; exact ⟨Nat.le_of_ble_eq_true rfl, Nat.le_of_ble_eq_true rfl⟩)) rfl rfl rfl rfl rfl (Nat.le_of_ble_eq_true rfl) dX0_hasParentBeside_14 (by rw [hR9]; exact ⟨Nat.le_of_ble_eq_true rfl, Nat.le_of_ble_eq_true rfl⟩) (fun r9 u9 h9 => ?_)
      obtain ⟨rfl, rfl⟩ := h9
      refine ja_istore K (lv1 := [(0, .ref (q 0)), (1, .int (nI (i))), (2, .int (nI (j))), (3, .int (nI (p0))), (4, .int (nI (c0))), (5, .int (nI (x))), (6, .int (jeI (jU S (x) (c0))))]) dX0_hasParentBeside_17 (by decide) rfl rfl ?_
      refine ja_iload K 6 dX0_hasParentBeside_19 rfl ?_
      refine ja_iconst K (-1) dX0_hasParentBeside_21 (by decide) ?_
      refine ja_icmp_eq K (tgt := 33) (jU S (x) (c0) = none) dX0_hasParentBeside_22 (by decide) (jeI_m1 (fun p9 h9 => by have := (wu _ _ _ h9).2.1; omega)) (fun h22 => ?_) (fun h22 => ?_)
      · refine ja_iinc K (lv1 := [(0, .ref (q 0)), (1, .int (nI (i))), (2, .int (nI (j))), (3, .int (nI (p0))), (4, .int (nI (c0))), (5, .int (nI ((x + 1)))), (6, .int (jeI (jU S (x) (c0))))]) 5 (nI ((x + 1))) dX0_hasParentBeside_33 rfl (ja_inc _) (by decide) rfl rfl ?_
        refine ja_goto K (tgt := 3) dX0_hasParentBeside_36 (by decide) ?_
        refine ja_locals (lv1 := [(0, .ref (q 0)), (1, .int (nI (i))), (2, .int (nI (j))), (3, .int (nI (p0))), (4, .int (nI (c0))), (5, .int (nI ((x + 1))))]) [0, 1, 2, 3, 4, 5] rfl ?_
        have k9 := IH3 (x + 1) ⟨by omega, by rw [show x + 1 - i = (x - i) + 1 by omega]; simp only [jany, hI3.2, show i + (x - i) = x by omega]; simp [h22]⟩ (by omega)
        exact k9
      · obtain ⟨y22, ey22⟩ := Option.ne_none_iff_exists'.mp h22
        try rw [ey22]
        have by22 := wu _ _ _ ey22
        refine ja_iload K 6 dX0_hasParentBeside_25 rfl ?_
        refine ja_iload_n K 3 dX0_hasParentBeside_27 rfl ?_
        refine ja_icmp_eq K (tgt := 33) (y22 = p0) dX0_hasParentBeside_28 (by decide) (nI_eq (by omega) (by omega)) (fun h28 => ?_) (fun h28 => ?_)
        · refine ja_iinc K (lv1 := [(0, .ref (q 0)), (1, .int (nI (i))), (2, .int (nI (j))), (3, .int (nI (p0))), (4, .int (nI (c0))), (5, .int (nI ((x + 1)))), (6, .int (nI (y22)))]) 5 (nI ((x + 1))) dX0_hasParentBeside_33 rfl (ja_inc _) (by decide) rfl rfl ?_
          refine ja_goto K (tgt := 3) dX0_hasParentBeside_36 (by decide) ?_
          refine ja_locals (lv1 := [(0, .ref (q 0)), (1, .int (nI (i))), (2, .int (nI (j))), (3, .int (nI (p0))), (4, .int (nI (c0))), (5, .int (nI ((x + 1))))]) [0, 1, 2, 3, 4, 5] rfl ?_
          have k9 := IH3 (x + 1) ⟨by omega, by rw [show x + 1 - i = (x - i) + 1 by omega]; simp only [jany, hI3.2, show i + (x - i) = x by omega]; rw [ey22]; simp [h28]⟩ (by omega)
          exact k9
        · refine ja_iconst K (nI 1) dX0_hasParentBeside_31 (by decide) ?_
          exact ja_zret K (u) rfl (by first | exact ja_nz1 | exact ja_nz0 | exact jbI_narrow _) (Nat.zero_le _) (Nat.zero_le _) dX0_hasParentBeside_32 hQ9 rfl ⟨jb1 (jany_iff.mpr ⟨x - i, by omega, by simp only [show i + (x - i) = x by omega, ey22]; simp [h28]⟩), rfl⟩
  exact L3 i ⟨by omega, by rw [Nat.sub_self]; rfl⟩
end
section
set_option maxRecDepth 100000 in
set_option maxHeartbeats 4000000 in
theorem jc_setParents (l : Launch) (D : va_G) (q : Nat → Nat) (cI cZ : ClassId) (S : JS) (u : JX) (hW9 : jWf S) (hS9 : jxR1 S u) (i j c0 : Nat) (o : Option Nat) (hij : i < j) (hj : j ≤ 60) (hc : c0 < 14) (ho : ∀ p, o = some p → p < 14) : jkI l yX0_setParents wsX0_setParents ({ frames := 1, cells := 0, slots := 0, locals := 22 }) D vwCl (jxt cI cZ) (jxc q cI cZ) [.ref (q 0), .int (nI i), .int (nI j), .int (nI c0), .int (jeI o)] (jxc q cI cZ u) (fun r u1 => nI (jct (fun d => jU S (i + d) c0 != o) (j - i)) = r ∧ ∃ pa, u1 = jxsU u pa ∧ ∀ x1 c1, x1 < 60 → c1 < 14 → pa (x1 * 14 + c1) = jeI (if c1 = c0 ∧ i ≤ x1 ∧ x1 < j then o else jU S x1 c1)) := by
  refine jkI_of (cc := cX0_setParents) (maxL := 7) (ret := (some .int)) (by decide) rfl (Nat.le_of_ble_eq_true rfl) ?_
  intro p e R s m args below meth c Q A K hn9 hR9 hQ9
  obtain ⟨rN, rT, rM, rU, rK, rP, rA, rL, rB⟩ := id hS9
  obtain ⟨wn, wt, wu, wk, wp, wl, wb⟩ := id hW9
  have hu9 : ∀ w ∈ u_ws RX0 TX0 13, w ∈ wsX0_setParents := fun w h => List.mem_cons_of_mem _ (ku_X0 w h)
  show jaW p l e R s m args below meth c 0 0 Q D vwCl A 7 (jxc q cI cZ u) [(0, .ref (q 0)), (1, .int (nI (i))), (2, .int (nI (j))), (3, .int (nI (c0))), (4, .int (jeI (o)))] 0 []
  refine ja_iconst K (nI 0) dX0_setParents_0 (by decide) ?_
  refine ja_istore K (lv1 := [(0, .ref (q 0)), (1, .int (nI (i))), (2, .int (nI (j))), (3, .int (nI (c0))), (4, .int (jeI (o))), (5, .int (nI 0))]) dX0_setParents_1 (by decide) rfl rfl ?_
  refine ja_iload_n K 1 dX0_setParents_3 rfl ?_
  refine ja_istore K (lv1 := [(0, .ref (q 0)), (1, .int (nI (i))), (2, .int (nI (j))), (3, .int (nI (c0))), (4, .int (jeI (o))), (5, .int (nI 0)), (6, .int (nI (i)))]) dX0_setParents_4 (by decide) rfl rfl ?_
  have L6 : ∀ (x : Nat) (pa : Nat → Int32), ((i ≤ x ∧ x ≤ j) ∧ (∀ x1 c1, x1 < 60 → c1 < 14 → pa (x1 * 14 + c1) = jeI (if c1 = c0 ∧ i ≤ x1 ∧ x1 < x then o else jU S x1 c1))) → jaW p l e R s m args below meth c 0 0 Q D vwCl A 7 (jxc q cI cZ (jxsU u pa)) [(0, .ref (q 0)), (1, .int (nI (i))), (2, .int (nI (j))), (3, .int (nI (c0))), (4, .int (jeI (o))), (5, .int (nI ((jct (fun d => jU S (i + d) c0 != o) (x - i))))), (6, .int (nI (x)))] 6 [] := by
    refine jl_2 (fun (x : Nat) (pa : Nat → Int32) => j - x) (fun (x : Nat) (pa : Nat → Int32) => (i ≤ x ∧ x ≤ j) ∧ (∀ x1 c1, x1 < 60 → c1 < 14 → pa (x1 * 14 + c1) = jeI (if c1 = c0 ∧ i ≤ x1 ∧ x1 < x then o else jU S x1 c1))) _ ?_
    intro x pa hI6 IH6
    refine ja_iload K 6 dX0_setParents_6 rfl ?_
    refine ja_iload_n K 2 dX0_setParents_8 rfl ?_
    refine ja_icmp_ge K (tgt := 47) (j ≤ x) dX0_setParents_9 (by decide) (nI_leI (by omega) (by omega)) (fun h9 => ?_) (fun h9 => ?_)
    · refine ja_iload K 5 dX0_setParents_47 rfl ?_
      exact ja_iret K (jxsU u pa) rfl (Nat.zero_le _) (Nat.zero_le _) dX0_setParents_49 hQ9 rfl ⟨by rw [show j - i = x - i by omega], pa, rfl, by rw [show j = x by omega]; exact hI6.2⟩
    · refine ja_aload_n K 0 dX0_setParents_12 rfl ?_
      refine ja_iload K 6 dX0_setParents_13 rfl ?_
      refine ja_iload_n K 3 dX0_setParents_15 rfl ?_
      refine ja_callVI K (q0 := 0) (qc := (RX0, TX0, 13)) (st := []) [.int (nI (x)), .int (nI (c0))] (jc_parentAt l D q cI cZ (jxsU u pa) (x) (c0) (by omega) (by omega) (jU S (x) (c0)) (by have h9 := hI6.2 x c0 (by omega) hc; rw [if_neg (by omega)] at h9; exact h9)) (cwV 2 K.1.2.2.2.2 (gX0_X0_parentAt _) rfl rfl rfl (by decide +kernel) (by rw [hR9]; exact ⟨Nat.le_of_ble_eq_true rfl, Nat.le_of_ble_eq_true rfl⟩)) rfl rfl rfl rfl rfl (Nat.le_of_ble_eq_true rfl) dX0_setParents_16 (by rw [hR9]; exact ⟨Nat.le_of_ble_eq_true rfl, Nat.le_of_ble_eq_true rfl⟩) (fun r9 u9 h9 => ?_)
      obtain ⟨rfl, rfl⟩ := h9
      refine ja_iload K 4 dX0_setParents_19 rfl ?_
      refine ja_icmp_eq K (tgt := 41) (jU S (x) (c0) = o) dX0_setParents_21 (by decide) (jeI_inj (fun p9 h9 => by have := (wu _ _ _ h9).2.1; omega) (fun p9 h9 => by have := ho p9 h9; omega)) (fun h21 => ?_) (fun h21 => ?_)
      · refine ja_iinc K (lv1 := [(0, .ref (q 0)), (1, .int (nI (i))), (2, .int (nI (j))), (3, .int (nI (c0))), (4, .int (jeI (o))), (5, .int (nI ((jct (fun d => jU S (i + d) c0 != o) (x - i))))), (6, .int (nI ((x + 1))))]) 6 (nI ((x + 1))) dX0_setParents_41 rfl (ja_inc _) (by decide) rfl rfl ?_
        refine ja_goto K (tgt := 6) dX0_setParents_44 (by decide) ?_
        have e90 : jct (fun d => jU S (i + d) c0 != o) (x + 1 - i) = (jct (fun d => jU S (i + d) c0 != o) (x - i)) := by rw [show x + 1 - i = (x - i) + 1 by omega]; simp [jct, show i + (x - i) = x by omega, h21]
        have k9 := IH6 (x + 1) pa ⟨by omega, fun x1 c1 g1 g2 => by
          rw [hI6.2 x1 c1 g1 g2]
          congr 1
          by_cases q1 : c1 = c0 ∧ x1 = x
          · obtain ⟨rfl, rfl⟩ := q1
            rw [if_neg (by omega), if_pos (by omega)]; exact h21
          · by_cases q2 : c1 = c0 ∧ i ≤ x1 ∧ x1 < x
            · rw [if_pos q2, if_pos (by omega)]
            · rw [if_neg q2, if_neg (by omega)]⟩ (by omega)
        rw [e90] at k9
        exact k9
      · refine ja_aload_n K 0 dX0_setParents_24 rfl ?_
        refine ja_get K hu9 0 rfl rfl 3 (by decide) (List.mem_cons_of_mem _ kfX0_21) rfl rfl dX0_setParents_25 ?_
        refine ja_iload K 6 dX0_setParents_28 rfl ?_
        refine ja_bipush K (nI 14) dX0_setParents_30 (by decide) ?_
        refine ja_imul K (nI ((x * 14))) dX0_setParents_32 (pk_mul _ _) ?_
        refine ja_iload_n K 3 dX0_setParents_33 rfl ?_
        refine ja_iadd K (nI (((x * 14) + c0))) dX0_setParents_34 (nI_add _ _) ?_
        refine ja_iload K 4 dX0_setParents_35 rfl ?_
        refine ja_iast K (ws1 := jxc q cI cZ (jxsU u (upd pa (x * 14 + c0) (jeI o)))) 3 0 rfl rfl (((x * 14) + c0)) rfl (by omega) (by decide) dX0_setParents_37 rfl ?_
        refine ja_iinc K (lv1 := [(0, .ref (q 0)), (1, .int (nI (i))), (2, .int (nI (j))), (3, .int (nI (c0))), (4, .int (jeI (o))), (5, .int (nI (((jct (fun d => jU S (i + d) c0 != o) (x - i)) + 1)))), (6, .int (nI (x)))]) 5 (nI (((jct (fun d => jU S (i + d) c0 != o) (x - i)) + 1))) dX0_setParents_38 rfl (ja_inc _) (by decide) rfl rfl ?_
        refine ja_iinc K (lv1 := [(0, .ref (q 0)), (1, .int (nI (i))), (2, .int (nI (j))), (3, .int (nI (c0))), (4, .int (jeI (o))), (5, .int (nI (((jct (fun d => jU S (i + d) c0 != o) (x - i)) + 1)))), (6, .int (nI ((x + 1))))]) 6 (nI ((x + 1))) dX0_setParents_41 rfl (ja_inc _) (by decide) rfl rfl ?_
        refine ja_goto K (tgt := 6) dX0_setParents_44 (by decide) ?_
        have e90 : jct (fun d => jU S (i + d) c0 != o) (x + 1 - i) = ((jct (fun d => jU S (i + d) c0 != o) (x - i)) + 1) := by rw [show x + 1 - i = (x - i) + 1 by omega]; simp [jct, show i + (x - i) = x by omega, h21]
        have k9 := IH6 (x + 1) (upd pa (x * 14 + c0) (jeI o)) ⟨by omega, fun x1 c1 g1 g2 => by
          by_cases q1 : c1 = c0 ∧ x1 = x
          · obtain ⟨rfl, rfl⟩ := q1
            rw [if_pos (by omega)]; exact pk_us
          · rw [pk_un (by omega), hI6.2 x1 c1 g1 g2]
            congr 1
            by_cases q2 : c1 = c0 ∧ i ≤ x1 ∧ x1 < x
            · rw [if_pos q2, if_pos (by omega)]
            · rw [if_neg q2, if_neg (by omega)]⟩ (by omega)
        rw [e90] at k9
        exact k9
  have k9 := L6 i (jxU u) ⟨by omega, fun x1 c1 h1 h2 => by rw [if_neg (by omega)]; exact rU x1 c1 h1 h2⟩
  rw [Nat.sub_self] at k9
  exact k9
end
section
set_option maxRecDepth 100000 in
set_option maxHeartbeats 4000000 in
theorem jc_tallyLetters (l : Launch) (D : va_G) (q : Nat → Nat) (cI cZ : ClassId) (S : JS) (u : JX) (hW9 : jWf S) (hS9 : jxR1 S u) (i : Nat) (hi : i < jK S) : jkV l yX0_tallyLetters wsX0_tallyLetters ({ frames := 2, cells := 0, slots := 0, locals := 47 }) D vwCl (jxt cI cZ) (jxc q cI cZ) [.ref (q 0), .int (nI i)] (jxc q cI cZ u) (fun u1 => ∃ g, u1 = jxsY u g ∧ ∀ a, a < 4 → g a = nI (jtal (jM S) (jlf S i) (jN S) a)) := by
  refine jkV_of (cc := cX0_tallyLetters) (maxL := 3) (ret := none) (by decide) rfl (Nat.le_of_ble_eq_true rfl) ?_
  intro p e R s m args below meth c Q A K hn9 hR9 hQ9
  obtain ⟨rN, rT, rM, rU, rK, rP, rA, rL, rB⟩ := id hS9
  obtain ⟨wn, wt, wu, wk, wp, wl, wb⟩ := id hW9
  have hu9 : ∀ w ∈ u_ws RX0 TX0 13, w ∈ wsX0_tallyLetters := fun w h => List.mem_cons_of_mem _ (ku_X0 w h)
  show jaW p l e R s m args below meth c 0 0 Q D vwCl A 3 (jxc q cI cZ u) [(0, .ref (q 0)), (1, .int (nI (i)))] 0 []
  refine ja_aload_n K 0 dX0_tallyLetters_0 rfl ?_
  refine ja_get K hu9 0 rfl rfl 11 (by decide) (List.mem_cons_of_mem _ kfX0_45) rfl rfl dX0_tallyLetters_1 ?_
  refine ja_iconst K (nI 0) dX0_tallyLetters_4 (by decide) ?_
  refine jx_fillY K (by rw [hR9]; exact ⟨Nat.le_of_ble_eq_true rfl, Nat.le_of_ble_eq_true rfl⟩) (Nat.le_of_ble_eq_true rfl) dX0_tallyLetters_5 (by rw [hR9]; exact ⟨Nat.le_of_ble_eq_true rfl, Nat.le_of_ble_eq_true rfl⟩) (fun g5 hg5 => ?_)
  refine ja_iconst K (nI 0) dX0_tallyLetters_8 (by decide) ?_
  refine ja_istore_n K (lv1 := [(0, .ref (q 0)), (1, .int (nI (i))), (2, .int (nI 0))]) dX0_tallyLetters_9 (by decide) rfl rfl ?_
  have L10 : ∀ (n0 : Nat) (g : Nat → Int32), (n0 ≤ jN S ∧ ∀ a, a < 4 → g a = nI (jtal (jM S) (jlf S i) n0 a)) → jaW p l e R s m args below meth c 0 0 Q D vwCl A 3 (jxc q cI cZ (jxsY u g)) [(0, .ref (q 0)), (1, .int (nI (i))), (2, .int (nI (n0)))] 10 [] := by
    refine jl_2 (fun (n0 : Nat) (g : Nat → Int32) => jN S - n0) (fun (n0 : Nat) (g : Nat → Int32) => n0 ≤ jN S ∧ ∀ a, a < 4 → g a = nI (jtal (jM S) (jlf S i) n0 a)) _ ?_
    intro n0 g hI10 IH10
    refine ja_iload_n K 2 dX0_tallyLetters_10 rfl ?_
    refine ja_aload_n K 0 dX0_tallyLetters_11 rfl ?_
    refine ja_get K hu9 0 rfl rfl 0 (by decide) (List.mem_cons_of_mem _ kfX0_7) rfl (congrArg (fun z9 => some (Value.int z9)) rN) dX0_tallyLetters_12 ?_
    refine ja_icmp_ge K (tgt := 48) ((jN S) ≤ n0) dX0_tallyLetters_15 (by decide) (nI_leI (by omega) (by omega)) (fun h15 => ?_) (fun h15 => ?_)
    · exact ja_vret K (jxsY u g) rfl (Nat.zero_le _) (Nat.zero_le _) dX0_tallyLetters_48 hQ9 rfl ⟨g, rfl, fun a ha => by rw [hI10.2 a ha, show n0 = jN S by omega]⟩
    · refine ja_aload_n K 0 dX0_tallyLetters_18 rfl ?_
      refine ja_get K hu9 0 rfl rfl 2 (by decide) (List.mem_cons_of_mem _ kfX0_17) rfl rfl dX0_tallyLetters_19 ?_
      refine ja_iload_n K 2 dX0_tallyLetters_22 rfl ?_
      refine ja_zald K (v := jbI (jM S (n0))) 2 1 rfl rfl (n0) rfl (by omega) (by decide) (rM _ (by omega)) dX0_tallyLetters_23 ?_
      refine ja_if_eq K (tgt := 42) (jM S (n0) = false) dX0_tallyLetters_24 (by decide) (jbI_ne _) (fun h24 => ?_) (fun h24 => ?_)
      · refine ja_iinc K (lv1 := [(0, .ref (q 0)), (1, .int (nI (i))), (2, .int (nI ((n0 + 1))))]) 2 (nI ((n0 + 1))) dX0_tallyLetters_42 rfl (ja_inc _) (by decide) rfl rfl ?_
        refine ja_goto K (tgt := 10) dX0_tallyLetters_45 (by decide) ?_
        exact IH10 (n0 + 1) g ⟨by omega, fun a ha => by rw [jtal_f h24]; exact hI10.2 a ha⟩ (by omega)
      · refine ja_aload_n K 0 dX0_tallyLetters_27 rfl ?_
        refine ja_get K hu9 0 rfl rfl 11 (by decide) (List.mem_cons_of_mem _ kfX0_45) rfl rfl dX0_tallyLetters_28 ?_
        refine ja_aload_n K 0 dX0_tallyLetters_31 rfl ?_
        refine ja_iload_n K 1 dX0_tallyLetters_32 rfl ?_
        refine ja_iload_n K 2 dX0_tallyLetters_33 rfl ?_
        have bl := jlf_lt hW9 hi n0
        refine ja_callVI K (q0 := 0) (qc := (RX0, TX0, 13)) (st := [.ref (q 10)]) [.int (nI (i)), .int (nI (n0))] (jc_letterAt l D q cI cZ S (jxsY u g) hW9 hS9 (i) (n0) (by omega) (by omega)) (cwV 2 K.1.2.2.2.2 (gX0_X0_letterAt _) rfl rfl rfl (by decide +kernel) (by rw [hR9]; exact ⟨Nat.le_of_ble_eq_true rfl, Nat.le_of_ble_eq_true rfl⟩)) rfl rfl rfl rfl rfl (Nat.le_of_ble_eq_true rfl) dX0_tallyLetters_34 (by rw [hR9]; exact ⟨Nat.le_of_ble_eq_true rfl, Nat.le_of_ble_eq_true rfl⟩) (fun r9 u9 h9 => ?_)
        obtain ⟨rfl, rfl⟩ := h9
        refine ja_dup2 K dX0_tallyLetters_37 rfl rfl ?_
        refine ja_iald K (v := nI ((jtal (jM S) (jlf S i) n0 (jlf S i n0)))) 10 0 rfl rfl (jlf S i n0) rfl bl (by decide) (hI10.2 _ bl) dX0_tallyLetters_38 ?_
        refine ja_iconst K (nI 1) dX0_tallyLetters_39 (by decide) ?_
        refine ja_iadd K (nI (((jtal (jM S) (jlf S i) n0 (jlf S i n0)) + 1))) dX0_tallyLetters_40 (nI_add _ _) ?_
        refine ja_iast K (ws1 := jxc q cI cZ (jxsY u (upd g (jlf S i n0) (nI (((jtal (jM S) (jlf S i) n0 (jlf S i n0)) + 1)))))) 10 0 rfl rfl (jlf S i n0) rfl bl (by decide) dX0_tallyLetters_41 rfl ?_
        refine ja_iinc K (lv1 := [(0, .ref (q 0)), (1, .int (nI (i))), (2, .int (nI ((n0 + 1))))]) 2 (nI ((n0 + 1))) dX0_tallyLetters_42 rfl (ja_inc _) (by decide) rfl rfl ?_
        refine ja_goto K (tgt := 10) dX0_tallyLetters_45 (by decide) ?_
        exact IH10 (n0 + 1) (upd g (jlf S i n0) (nI (jtal (jM S) (jlf S i) n0 (jlf S i n0) + 1))) ⟨by omega, fun a ha => by
          have h8 : jM S n0 = true := by simpa using h24
          by_cases q1 : a = jlf S i n0
          · subst q1; rw [jtal_t h8]; exact pk_us
          · rw [pk_un q1, jtal_n h8 q1]; exact hI10.2 a ha⟩ (by omega)
  exact L10 0 g5 ⟨Nat.zero_le _, fun a ha => hg5 a ha⟩
end
section
set_option maxRecDepth 100000 in
set_option maxHeartbeats 4000000 in
theorem jc_countCarried (l : Launch) (D : va_G) (q : Nat → Nat) (cI cZ : ClassId) (S : JS) (u : JX) (hW9 : jWf S) (hS9 : jxR1 S u) (x : Nat) (hx : x < 60) : jkV l yX0_countCarried wsX0_countCarried ({ frames := 1, cells := 0, slots := 0, locals := 23 }) D vwCl (jxt cI cZ) (jxc q cI cZ) [.ref (q 0), .int (nI x)] (jxc q cI cZ u) (fun u1 => ∃ g, u1 = jxsC u g ∧ ∀ c, c < 14 → g c = nI (jundS S x c)) := by
  refine jkV_of (cc := cX0_countCarried) (maxL := 5) (ret := none) (by decide) rfl (Nat.le_of_ble_eq_true rfl) ?_
  intro p e R s m args below meth c Q A K hn9 hR9 hQ9
  obtain ⟨rN, rT, rM, rU, rK, rP, rA, rL, rB⟩ := id hS9
  obtain ⟨wn, wt, wu, wk, wp, wl, wb⟩ := id hW9
  have hu9 : ∀ w ∈ u_ws RX0 TX0 13, w ∈ wsX0_countCarried := fun w h => List.mem_cons_of_mem _ (ku_X0 w h)
  show jaW p l e R s m args below meth c 0 0 Q D vwCl A 5 (jxc q cI cZ u) [(0, .ref (q 0)), (1, .int (nI (x)))] 0 []
  refine ja_aload_n K 0 dX0_countCarried_0 rfl ?_
  refine ja_get K hu9 0 rfl rfl 9 (by decide) (List.mem_cons_of_mem _ kfX0_39) rfl rfl dX0_countCarried_1 ?_
  refine ja_iconst K (nI 0) dX0_countCarried_4 (by decide) ?_
  refine jx_fillC K (by rw [hR9]; exact ⟨Nat.le_of_ble_eq_true rfl, Nat.le_of_ble_eq_true rfl⟩) (Nat.le_of_ble_eq_true rfl) dX0_countCarried_5 (by rw [hR9]; exact ⟨Nat.le_of_ble_eq_true rfl, Nat.le_of_ble_eq_true rfl⟩) (fun g5 hg5 => ?_)
  refine ja_iconst K (nI 0) dX0_countCarried_8 (by decide) ?_
  refine ja_istore_n K (lv1 := [(0, .ref (q 0)), (1, .int (nI (x))), (2, .int (nI 0))]) dX0_countCarried_9 (by decide) rfl rfl ?_
  have L10 : ∀ (i : Nat) (g : Nat → Int32), (i ≤ jN S ∧ ∀ c, c < 14 → g c = nI (jct (fun c1 => jM S c1 && jhold (jU S x) c c1) i)) → jaW p l e R s m args below meth c 0 0 Q D vwCl A 5 (jxc q cI cZ (jxsC u g)) [(0, .ref (q 0)), (1, .int (nI (x))), (2, .int (nI (i)))] 10 [] := by
    refine jl_2 (fun (i : Nat) (g : Nat → Int32) => jN S - i) (fun (i : Nat) (g : Nat → Int32) => i ≤ jN S ∧ ∀ c, c < 14 → g c = nI (jct (fun c1 => jM S c1 && jhold (jU S x) c c1) i)) _ ?_
    intro i g hI10 IH10
    refine ja_iload_n K 2 dX0_countCarried_10 rfl ?_
    refine ja_aload_n K 0 dX0_countCarried_11 rfl ?_
    refine ja_get K hu9 0 rfl rfl 0 (by decide) (List.mem_cons_of_mem _ kfX0_7) rfl (congrArg (fun z9 => some (Value.int z9)) rN) dX0_countCarried_12 ?_
    refine ja_icmp_ge K (tgt := 77) ((jN S) ≤ i) dX0_countCarried_15 (by decide) (nI_leI (by omega) (by omega)) (fun h15 => ?_) (fun h15 => ?_)
    · exact ja_vret K (jxsC u g) rfl (Nat.zero_le _) (Nat.zero_le _) dX0_countCarried_77 hQ9 rfl ⟨g, rfl, fun c hc => by rw [hI10.2 c hc, show i = jN S by omega]; rfl⟩
    · refine ja_aload_n K 0 dX0_countCarried_18 rfl ?_
      refine ja_get K hu9 0 rfl rfl 2 (by decide) (List.mem_cons_of_mem _ kfX0_17) rfl rfl dX0_countCarried_19 ?_
      refine ja_iload_n K 2 dX0_countCarried_22 rfl ?_
      refine ja_zald K (v := jbI (jM S (i))) 2 1 rfl rfl (i) rfl (by omega) (by decide) (rM _ (by omega)) dX0_countCarried_23 ?_
      refine ja_if_eq K (tgt := 31) (jM S (i) = false) dX0_countCarried_24 (by decide) (jbI_ne _) (fun h24 => ?_) (fun h24 => ?_)
      · refine ja_iconst K (-1) dX0_countCarried_31 (by decide) ?_
        refine ja_istore_n K (lv1 := [(0, .ref (q 0)), (1, .int (nI (x))), (2, .int (nI (i))), (3, .int (-1))]) dX0_countCarried_32 (by decide) rfl rfl ?_
        refine ja_iconst K (nI 0) dX0_countCarried_33 (by decide) ?_
        refine ja_istore K (lv1 := [(0, .ref (q 0)), (1, .int (nI (x))), (2, .int (nI (i))), (3, .int (-1)), (4, .int (nI 0))]) dX0_countCarried_34 (by decide) rfl rfl ?_
        have L36 : ∀ (k : Nat) (d0 : Nat) (o : Option Nat) (g1 : Nat → Int32), (k + d0 = 14 ∧ (∀ y, o = some y → y < jN S) ∧ ∃ e1 : Nat → Nat, (∀ c, c < 14 → g1 c = nI (e1 c)) ∧ ∀ c, e1 c + (if (jpF (jU S x) (fun z => z == c) d0 o).isSome then 1 else 0) = jct (fun c1 => jM S c1 && jhold (jU S x) c c1) (i + 1)) → jaW p l e R s m args below meth c 0 0 Q D vwCl A 5 (jxc q cI cZ (jxsC u g1)) [(0, .ref (q 0)), (1, .int (nI (x))), (2, .int (nI (i))), (3, .int (jeI (o))), (4, .int (nI (k)))] 36 [] := by
          refine jl_4 (fun (k : Nat) (d0 : Nat) (o : Option Nat) (g1 : Nat → Int32) => d0) (fun (k : Nat) (d0 : Nat) (o : Option Nat) (g1 : Nat → Int32) => k + d0 = 14 ∧ (∀ y, o = some y → y < jN S) ∧ ∃ e1 : Nat → Nat, (∀ c, c < 14 → g1 c = nI (e1 c)) ∧ ∀ c, e1 c + (if (jpF (jU S x) (fun z => z == c) d0 o).isSome then 1 else 0) = jct (fun c1 => jM S c1 && jhold (jU S x) c c1) (i + 1)) _ ?_
          intro k d0 o g1 hI36 IH36
          refine ja_iload K 4 dX0_countCarried_36 rfl ?_
          refine ja_bipush K (nI 14) dX0_countCarried_38 (by decide) ?_
          refine ja_icmp_ge K (tgt := 71) (14 ≤ k) dX0_countCarried_40 (by decide) (nI_leI (by omega) (by omega)) (fun h40 => ?_) (fun h40 => ?_)
          · obtain rfl : d0 = 0 := by omega
            refine ja_iinc K (lv1 := [(0, .ref (q 0)), (1, .int (nI (x))), (2, .int (nI ((i + 1)))), (3, .int (jeI (o))), (4, .int (nI (k)))]) 2 (nI ((i + 1))) dX0_countCarried_71 rfl (ja_inc _) (by decide) rfl rfl ?_
            refine ja_goto K (tgt := 10) dX0_countCarried_74 (by decide) ?_
            refine ja_locals (lv1 := [(0, .ref (q 0)), (1, .int (nI (x))), (2, .int (nI ((i + 1))))]) [0, 1, 2] rfl ?_
            refine IH10 (i + 1) g1 ⟨by omega, fun c hc => ?_⟩ (by omega)
            obtain ⟨e1, q1, q2⟩ := hI36.2.2
            rw [q1 c hc, ← q2 c]
            simp [jpF]
          · obtain ⟨d, rfl⟩ : ∃ d1, d0 = d1 + 1 := ⟨d0 - 1, by omega⟩
            refine ja_iload_n K 3 dX0_countCarried_43 rfl ?_
            refine ja_iconst K (-1) dX0_countCarried_44 (by decide) ?_
            refine ja_icmp_eq K (tgt := 71) (o = none) dX0_countCarried_45 (by decide) (jeI_m1 (fun p9 h9 => by have := hI36.2.1 p9 h9; omega)) (fun h45 => ?_) (fun h45 => ?_)
            · subst h45
              refine ja_iinc K (lv1 := [(0, .ref (q 0)), (1, .int (nI (x))), (2, .int (nI ((i + 1)))), (3, .int (-1)), (4, .int (nI (k)))]) 2 (nI ((i + 1))) dX0_countCarried_71 rfl (ja_inc _) (by decide) rfl rfl ?_
              refine ja_goto K (tgt := 10) dX0_countCarried_74 (by decide) ?_
              refine ja_locals (lv1 := [(0, .ref (q 0)), (1, .int (nI (x))), (2, .int (nI ((i + 1))))]) [0, 1, 2] rfl ?_
              refine IH10 (i + 1) g1 ⟨by omega, fun c hc => ?_⟩ (by omega)
              obtain ⟨e1, q1, q2⟩ := hI36.2.2
              rw [q1 c hc, ← q2 c]
              simp [jpF]
            · obtain ⟨y45, rfl⟩ := Option.ne_none_iff_exists'.mp h45
              have by45 := hI36.2.1 y45 rfl
              obtain ⟨e1, q1, q2⟩ := hI36.2.2
              refine ja_aload_n K 0 dX0_countCarried_48 rfl ?_
              refine ja_get K hu9 0 rfl rfl 9 (by decide) (List.mem_cons_of_mem _ kfX0_39) rfl rfl dX0_countCarried_49 ?_
              refine ja_iload_n K 3 dX0_countCarried_52 rfl ?_
              refine ja_dup2 K dX0_countCarried_53 rfl rfl ?_
              refine ja_iald K (v := nI ((e1 y45))) 8 0 rfl rfl (y45) rfl (by omega) (by decide) (q1 _ (by omega)) dX0_countCarried_54 ?_
              refine ja_iconst K (nI 1) dX0_countCarried_55 (by decide) ?_
              refine ja_iadd K (nI (((e1 y45) + 1))) dX0_countCarried_56 (nI_add _ _) ?_
              refine ja_iast K (ws1 := jxc q cI cZ (jxsC u (upd g1 y45 (nI (((e1 y45) + 1)))))) 8 0 rfl rfl (y45) rfl (by omega) (by decide) dX0_countCarried_57 rfl ?_
              refine ja_aload_n K 0 dX0_countCarried_58 rfl ?_
              refine ja_iload_n K 1 dX0_countCarried_59 rfl ?_
              refine ja_iload_n K 3 dX0_countCarried_60 rfl ?_
              refine ja_callVI K (q0 := 0) (qc := (RX0, TX0, 13)) (st := []) [.int (nI (x)), .int (nI (y45))] (jc_parentAt l D q cI cZ (jxsC u (upd g1 y45 (nI (((e1 y45) + 1))))) (x) (y45) (by omega) (by omega) (jU S (x) (y45)) (rU _ _ (by omega) (by omega))) (cwV 2 K.1.2.2.2.2 (gX0_X0_parentAt _) rfl rfl rfl (by decide +kernel) (by rw [hR9]; exact ⟨Nat.le_of_ble_eq_true rfl, Nat.le_of_ble_eq_true rfl⟩)) rfl rfl rfl rfl rfl (Nat.le_of_ble_eq_true rfl) dX0_countCarried_61 (by rw [hR9]; exact ⟨Nat.le_of_ble_eq_true rfl, Nat.le_of_ble_eq_true rfl⟩) (fun r9 u9 h9 => ?_)
              obtain ⟨rfl, rfl⟩ := h9
              refine ja_istore_n K (lv1 := [(0, .ref (q 0)), (1, .int (nI (x))), (2, .int (nI (i))), (3, .int (jeI (jU S (x) (y45)))), (4, .int (nI (k)))]) dX0_countCarried_64 (by decide) rfl rfl ?_
              refine ja_iinc K (lv1 := [(0, .ref (q 0)), (1, .int (nI (x))), (2, .int (nI (i))), (3, .int (jeI (jU S (x) (y45)))), (4, .int (nI ((k + 1))))]) 4 (nI ((k + 1))) dX0_countCarried_65 rfl (ja_inc _) (by decide) rfl rfl ?_
              refine ja_goto K (tgt := 36) dX0_countCarried_68 (by decide) ?_
              refine IH36 (k + 1) d (jU S x y45) (upd g1 y45 (nI (e1 y45 + 1))) ⟨by omega, fun z hz => (wu _ _ z hz).2.1, fun c => if c = y45 then e1 y45 + 1 else e1 c, fun c hc => ?_, jcar_step (jup_S hW9 x) q2⟩ (by omega)
              by_cases q3 : c = y45
              · subst q3; show _ = nI (if c = c then _ else _); rw [if_pos rfl]; exact pk_us
              · show _ = nI (if c = y45 then _ else _); rw [if_neg q3, pk_un q3]; exact q1 c hc
        exact L36 0 14 none g ⟨rfl, fun y h => (by cases h), fun c => jct (fun c1 => jM S c1 && jhold (jU S x) c c1) i, hI10.2, fun c => by simp [jct, h24, jpF]⟩
      · refine ja_iload_n K 2 dX0_countCarried_27 rfl ?_
        refine ja_goto K (tgt := 32) dX0_countCarried_28 (by decide) ?_
        refine ja_istore_n K (lv1 := [(0, .ref (q 0)), (1, .int (nI (x))), (2, .int (nI (i))), (3, .int (nI (i)))]) dX0_countCarried_32 (by decide) rfl rfl ?_
        refine ja_iconst K (nI 0) dX0_countCarried_33 (by decide) ?_
        refine ja_istore K (lv1 := [(0, .ref (q 0)), (1, .int (nI (x))), (2, .int (nI (i))), (3, .int (nI (i))), (4, .int (nI 0))]) dX0_countCarried_34 (by decide) rfl rfl ?_
        have L36 : ∀ (k : Nat) (d0 : Nat) (o : Option Nat) (g1 : Nat → Int32), (k + d0 = 14 ∧ (∀ y, o = some y → y < jN S) ∧ ∃ e1 : Nat → Nat, (∀ c, c < 14 → g1 c = nI (e1 c)) ∧ ∀ c, e1 c + (if (jpF (jU S x) (fun z => z == c) d0 o).isSome then 1 else 0) = jct (fun c1 => jM S c1 && jhold (jU S x) c c1) (i + 1)) → jaW p l e R s m args below meth c 0 0 Q D vwCl A 5 (jxc q cI cZ (jxsC u g1)) [(0, .ref (q 0)), (1, .int (nI (x))), (2, .int (nI (i))), (3, .int (jeI (o))), (4, .int (nI (k)))] 36 [] := by
          refine jl_4 (fun (k : Nat) (d0 : Nat) (o : Option Nat) (g1 : Nat → Int32) => d0) (fun (k : Nat) (d0 : Nat) (o : Option Nat) (g1 : Nat → Int32) => k + d0 = 14 ∧ (∀ y, o = some y → y < jN S) ∧ ∃ e1 : Nat → Nat, (∀ c, c < 14 → g1 c = nI (e1 c)) ∧ ∀ c, e1 c + (if (jpF (jU S x) (fun z => z == c) d0 o).isSome then 1 else 0) = jct (fun c1 => jM S c1 && jhold (jU S x) c c1) (i + 1)) _ ?_
          intro k d0 o g1 hI36 IH36
          refine ja_iload K 4 dX0_countCarried_36 rfl ?_
          refine ja_bipush K (nI 14) dX0_countCarried_38 (by decide) ?_
          refine ja_icmp_ge K (tgt := 71) (14 ≤ k) dX0_countCarried_40 (by decide) (nI_leI (by omega) (by omega)) (fun h40 => ?_) (fun h40 => ?_)
          · obtain rfl : d0 = 0 := by omega
            refine ja_iinc K (lv1 := [(0, .ref (q 0)), (1, .int (nI (x))), (2, .int (nI ((i + 1)))), (3, .int (jeI (o))), (4, .int (nI (k)))]) 2 (nI ((i + 1))) dX0_countCarried_71 rfl (ja_inc _) (by decide) rfl rfl ?_
            refine ja_goto K (tgt := 10) dX0_countCarried_74 (by decide) ?_
            refine ja_locals (lv1 := [(0, .ref (q 0)), (1, .int (nI (x))), (2, .int (nI ((i + 1))))]) [0, 1, 2] rfl ?_
            refine IH10 (i + 1) g1 ⟨by omega, fun c hc => ?_⟩ (by omega)
            obtain ⟨e1, q1, q2⟩ := hI36.2.2
            rw [q1 c hc, ← q2 c]
            simp [jpF]
          · obtain ⟨d, rfl⟩ : ∃ d1, d0 = d1 + 1 := ⟨d0 - 1, by omega⟩
            refine ja_iload_n K 3 dX0_countCarried_43 rfl ?_
            refine ja_iconst K (-1) dX0_countCarried_44 (by decide) ?_
            refine ja_icmp_eq K (tgt := 71) (o = none) dX0_countCarried_45 (by decide) (jeI_m1 (fun p9 h9 => by have := hI36.2.1 p9 h9; omega)) (fun h45 => ?_) (fun h45 => ?_)
            · subst h45
              refine ja_iinc K (lv1 := [(0, .ref (q 0)), (1, .int (nI (x))), (2, .int (nI ((i + 1)))), (3, .int (-1)), (4, .int (nI (k)))]) 2 (nI ((i + 1))) dX0_countCarried_71 rfl (ja_inc _) (by decide) rfl rfl ?_
              refine ja_goto K (tgt := 10) dX0_countCarried_74 (by decide) ?_
              refine ja_locals (lv1 := [(0, .ref (q 0)), (1, .int (nI (x))), (2, .int (nI ((i + 1))))]) [0, 1, 2] rfl ?_
              refine IH10 (i + 1) g1 ⟨by omega, fun c hc => ?_⟩ (by omega)
              obtain ⟨e1, q1, q2⟩ := hI36.2.2
              rw [q1 c hc, ← q2 c]
              simp [jpF]
            · obtain ⟨y45, rfl⟩ := Option.ne_none_iff_exists'.mp h45
              have by45 := hI36.2.1 y45 rfl
              obtain ⟨e1, q1, q2⟩ := hI36.2.2
              refine ja_aload_n K 0 dX0_countCarried_48 rfl ?_
              refine ja_get K hu9 0 rfl rfl 9 (by decide) (List.mem_cons_of_mem _ kfX0_39) rfl rfl dX0_countCarried_49 ?_
              refine ja_iload_n K 3 dX0_countCarried_52 rfl ?_
              refine ja_dup2 K dX0_countCarried_53 rfl rfl ?_
              refine ja_iald K (v := nI ((e1 y45))) 8 0 rfl rfl (y45) rfl (by omega) (by decide) (q1 _ (by omega)) dX0_countCarried_54 ?_
              refine ja_iconst K (nI 1) dX0_countCarried_55 (by decide) ?_
              refine ja_iadd K (nI (((e1 y45) + 1))) dX0_countCarried_56 (nI_add _ _) ?_
              refine ja_iast K (ws1 := jxc q cI cZ (jxsC u (upd g1 y45 (nI (((e1 y45) + 1)))))) 8 0 rfl rfl (y45) rfl (by omega) (by decide) dX0_countCarried_57 rfl ?_
              refine ja_aload_n K 0 dX0_countCarried_58 rfl ?_
              refine ja_iload_n K 1 dX0_countCarried_59 rfl ?_
              refine ja_iload_n K 3 dX0_countCarried_60 rfl ?_
              refine ja_callVI K (q0 := 0) (qc := (RX0, TX0, 13)) (st := []) [.int (nI (x)), .int (nI (y45))] (jc_parentAt l D q cI cZ (jxsC u (upd g1 y45 (nI (((e1 y45) + 1))))) (x) (y45) (by omega) (by omega) (jU S (x) (y45)) (rU _ _ (by omega) (by omega))) (cwV 2 K.1.2.2.2.2 (gX0_X0_parentAt _) rfl rfl rfl (by decide +kernel) (by rw [hR9]; exact ⟨Nat.le_of_ble_eq_true rfl, Nat.le_of_ble_eq_true rfl⟩)) rfl rfl rfl rfl rfl (Nat.le_of_ble_eq_true rfl) dX0_countCarried_61 (by rw [hR9]; exact ⟨Nat.le_of_ble_eq_true rfl, Nat.le_of_ble_eq_true rfl⟩) (fun r9 u9 h9 => ?_)
              obtain ⟨rfl, rfl⟩ := h9
              refine ja_istore_n K (lv1 := [(0, .ref (q 0)), (1, .int (nI (x))), (2, .int (nI (i))), (3, .int (jeI (jU S (x) (y45)))), (4, .int (nI (k)))]) dX0_countCarried_64 (by decide) rfl rfl ?_
              refine ja_iinc K (lv1 := [(0, .ref (q 0)), (1, .int (nI (x))), (2, .int (nI (i))), (3, .int (jeI (jU S (x) (y45)))), (4, .int (nI ((k + 1))))]) 4 (nI ((k + 1))) dX0_countCarried_65 rfl (ja_inc _) (by decide) rfl rfl ?_
              refine ja_goto K (tgt := 36) dX0_countCarried_68 (by decide) ?_
              refine IH36 (k + 1) d (jU S x y45) (upd g1 y45 (nI (e1 y45 + 1))) ⟨by omega, fun z hz => (wu _ _ z hz).2.1, fun c => if c = y45 then e1 y45 + 1 else e1 c, fun c hc => ?_, jcar_step (jup_S hW9 x) q2⟩ (by omega)
              by_cases q3 : c = y45
              · subst q3; show _ = nI (if c = c then _ else _); rw [if_pos rfl]; exact pk_us
              · show _ = nI (if c = y45 then _ else _); rw [if_neg q3, pk_un q3]; exact q1 c hc
        exact L36 0 14 (some i) g ⟨rfl, fun y h => (by cases h; omega), fun c => jct (fun c1 => jM S c1 && jhold (jU S x) c c1) i, hI10.2, fun c => by simp only [jct, h24]; simp [jhold]⟩
  exact L10 0 g5 ⟨Nat.zero_le _, fun c hc => hg5 c hc⟩
end
section
set_option maxRecDepth 100000 in
set_option maxHeartbeats 4000000 in
theorem jc_countLiveChildren (l : Launch) (D : va_G) (q : Nat → Nat) (cI cZ : ClassId) (S : JS) (u : JX) (hW9 : jWf S) (hS9 : jxR1 S u) (x p0 : Nat) (hx : x < 60) (hp : p0 < 14) (hC : ∀ c, c < 14 → jxC u c = nI (jundS S x c)) : jkI l yX0_countLiveChildren wsX0_countLiveChildren ({ frames := 1, cells := 0, slots := 0, locals := 22 }) D vwCl (jxt cI cZ) (jxc q cI cZ) [.ref (q 0), .int (nI x), .int (nI p0)] (jxc q cI cZ u) (fun r u1 => nI (jfork (jN S) (jM S) (jU S x) p0) = r ∧ u = u1) := by
  refine jkI_of (cc := cX0_countLiveChildren) (maxL := 5) (ret := (some .int)) (by decide) rfl (Nat.le_of_ble_eq_true rfl) ?_
  intro p e R s m args below meth c Q A K hn9 hR9 hQ9
  obtain ⟨rN, rT, rM, rU, rK, rP, rA, rL, rB⟩ := id hS9
  obtain ⟨wn, wt, wu, wk, wp, wl, wb⟩ := id hW9
  have hu9 : ∀ w ∈ u_ws RX0 TX0 13, w ∈ wsX0_countLiveChildren := fun w h => List.mem_cons_of_mem _ (ku_X0 w h)
  show jaW p l e R s m args below meth c 0 0 Q D vwCl A 5 (jxc q cI cZ u) [(0, .ref (q 0)), (1, .int (nI (x))), (2, .int (nI (p0)))] 0 []
  refine ja_iconst K (nI 0) dX0_countLiveChildren_0 (by decide) ?_
  refine ja_istore_n K (lv1 := [(0, .ref (q 0)), (1, .int (nI (x))), (2, .int (nI (p0))), (3, .int (nI 0))]) dX0_countLiveChildren_1 (by decide) rfl rfl ?_
  refine ja_iconst K (nI 0) dX0_countLiveChildren_2 (by decide) ?_
  refine ja_istore K (lv1 := [(0, .ref (q 0)), (1, .int (nI (x))), (2, .int (nI (p0))), (3, .int (nI 0)), (4, .int (nI 0))]) dX0_countLiveChildren_3 (by decide) rfl rfl ?_
  have L5 : ∀ (i : Nat), (i ≤ jN S) → jaW p l e R s m args below meth c 0 0 Q D vwCl A 5 (jxc q cI cZ u) [(0, .ref (q 0)), (1, .int (nI (x))), (2, .int (nI (p0))), (3, .int (nI ((jct (fun c1 => jU S x c1 == some p0 && decide (0 < jundS S x c1)) i)))), (4, .int (nI (i)))] 5 [] := by
    refine jl_1 (fun (i : Nat) => jN S - i) (fun (i : Nat) => i ≤ jN S) _ ?_
    intro i hI5 IH5
    refine ja_iload K 4 dX0_countLiveChildren_5 rfl ?_
    refine ja_aload_n K 0 dX0_countLiveChildren_7 rfl ?_
    refine ja_get K hu9 0 rfl rfl 0 (by decide) (List.mem_cons_of_mem _ kfX0_7) rfl (congrArg (fun z9 => some (Value.int z9)) rN) dX0_countLiveChildren_8 ?_
    refine ja_icmp_ge K (tgt := 44) ((jN S) ≤ i) dX0_countLiveChildren_11 (by decide) (nI_leI (by omega) (by omega)) (fun h11 => ?_) (fun h11 => ?_)
    · refine ja_iload_n K 3 dX0_countLiveChildren_44 rfl ?_
      exact ja_iret K (u) rfl (Nat.zero_le _) (Nat.zero_le _) dX0_countLiveChildren_45 hQ9 rfl ⟨by rw [show i = jN S by omega]; rfl, rfl⟩
    · have b9 := jund_le S x i
      refine ja_aload_n K 0 dX0_countLiveChildren_14 rfl ?_
      refine ja_iload_n K 1 dX0_countLiveChildren_15 rfl ?_
      refine ja_iload K 4 dX0_countLiveChildren_16 rfl ?_
      refine ja_callVI K (q0 := 0) (qc := (RX0, TX0, 13)) (st := []) [.int (nI (x)), .int (nI (i))] (jc_parentAt l D q cI cZ (u) (x) (i) (by omega) (by omega) (jU S (x) (i)) (rU _ _ (by omega) (by omega))) (cwV 2 K.1.2.2.2.2 (gX0_X0_parentAt _) rfl rfl rfl (by decide +kernel) (by rw [hR9]; exact ⟨Nat.le_of_ble_eq_true rfl, Nat.le_of_ble_eq_true rfl⟩)) rfl rfl rfl rfl rfl (Nat.le_of_ble_eq_true rfl) dX0_countLiveChildren_18 (by rw [hR9]; exact ⟨Nat.le_of_ble_eq_true rfl, Nat.le_of_ble_eq_true rfl⟩) (fun r9 u9 h9 => ?_)
      obtain ⟨rfl, rfl⟩ := h9
      refine ja_iload_n K 2 dX0_countLiveChildren_21 rfl ?_
      refine ja_icmp_ne K (tgt := 38) (¬ jU S (x) (i) = some (p0)) dX0_countLiveChildren_22 (by decide) (not_congr (jeI_inj (o := jU S (x) (i)) (o' := some (p0)) (fun p9 h9 => by have := (wu _ _ _ h9).2.1; omega) (fun p9 h9 => by cases h9; omega))) (fun h22 => ?_) (fun h22 => ?_)
      · refine ja_iinc K (lv1 := [(0, .ref (q 0)), (1, .int (nI (x))), (2, .int (nI (p0))), (3, .int (nI ((jct (fun c1 => jU S x c1 == some p0 && decide (0 < jundS S x c1)) i)))), (4, .int (nI ((i + 1))))]) 4 (nI ((i + 1))) dX0_countLiveChildren_38 rfl (ja_inc _) (by decide) rfl rfl ?_
        refine ja_goto K (tgt := 5) dX0_countLiveChildren_41 (by decide) ?_
        have e90 : jct (fun c1 => jU S x c1 == some p0 && decide (0 < jundS S x c1)) (i + 1) = (jct (fun c1 => jU S x c1 == some p0 && decide (0 < jundS S x c1)) i) := by simp [jct, h11, h22]
        have k9 := IH5 (i + 1) (by omega) (by omega)
        rw [e90] at k9
        exact k9
      · refine ja_aload_n K 0 dX0_countLiveChildren_25 rfl ?_
        refine ja_get K hu9 0 rfl rfl 9 (by decide) (List.mem_cons_of_mem _ kfX0_39) rfl rfl dX0_countLiveChildren_26 ?_
        refine ja_iload K 4 dX0_countLiveChildren_29 rfl ?_
        refine ja_iald K (v := nI ((jundS S x i))) 8 0 rfl rfl (i) rfl (by omega) (by decide) (hC _ (by omega)) dX0_countLiveChildren_31 ?_
        refine ja_if_le K (tgt := 38) ((jundS S x i) ≤ 0) dX0_countLiveChildren_32 (by decide) (jz_le (by omega)) (fun h32 => ?_) (fun h32 => ?_)
        · have z32 : jundS S x i = 0 := by omega
          refine ja_iinc K (lv1 := [(0, .ref (q 0)), (1, .int (nI (x))), (2, .int (nI (p0))), (3, .int (nI ((jct (fun c1 => jU S x c1 == some p0 && decide (0 < jundS S x c1)) i)))), (4, .int (nI ((i + 1))))]) 4 (nI ((i + 1))) dX0_countLiveChildren_38 rfl (ja_inc _) (by decide) rfl rfl ?_
          refine ja_goto K (tgt := 5) dX0_countLiveChildren_41 (by decide) ?_
          have e90 : jct (fun c1 => jU S x c1 == some p0 && decide (0 < jundS S x c1)) (i + 1) = (jct (fun c1 => jU S x c1 == some p0 && decide (0 < jundS S x c1)) i) := by simp [jct, h11, h22, h32, z32]
          have k9 := IH5 (i + 1) (by omega) (by omega)
          rw [e90] at k9
          exact k9
        · have z32 : 0 < jundS S x i := by omega
          refine ja_iinc K (lv1 := [(0, .ref (q 0)), (1, .int (nI (x))), (2, .int (nI (p0))), (3, .int (nI (((jct (fun c1 => jU S x c1 == some p0 && decide (0 < jundS S x c1)) i) + 1)))), (4, .int (nI (i)))]) 3 (nI (((jct (fun c1 => jU S x c1 == some p0 && decide (0 < jundS S x c1)) i) + 1))) dX0_countLiveChildren_35 rfl (ja_inc _) (by decide) rfl rfl ?_
          refine ja_iinc K (lv1 := [(0, .ref (q 0)), (1, .int (nI (x))), (2, .int (nI (p0))), (3, .int (nI (((jct (fun c1 => jU S x c1 == some p0 && decide (0 < jundS S x c1)) i) + 1)))), (4, .int (nI ((i + 1))))]) 4 (nI ((i + 1))) dX0_countLiveChildren_38 rfl (ja_inc _) (by decide) rfl rfl ?_
          refine ja_goto K (tgt := 5) dX0_countLiveChildren_41 (by decide) ?_
          have e90 : jct (fun c1 => jU S x c1 == some p0 && decide (0 < jundS S x c1)) (i + 1) = ((jct (fun c1 => jU S x c1 == some p0 && decide (0 < jundS S x c1)) i) + 1) := by simp [jct, h11, h22, h32, z32]
          have k9 := IH5 (i + 1) (by omega) (by omega)
          rw [e90] at k9
          exact k9
  exact L5 0 (Nat.zero_le _)
end
section
set_option maxRecDepth 100000 in
set_option maxHeartbeats 4000000 in
theorem jc_findMattering (l : Launch) (D : va_G) (q : Nat → Nat) (cI cZ : ClassId) (S : JS) (u : JX) (hW9 : jWf S) (hS9 : jxR1 S u) (x : Nat) (hx : x < 60) : jkI l yX0_findMattering wsX0_findMattering ({ frames := 2, cells := 0, slots := 0, locals := 47 }) D vwCl (jxt cI cZ) (jxc q cI cZ) [.ref (q 0), .int (nI x)] (jxc q cI cZ u) (fun r u1 => ∃ B, nI B = r ∧ jbt S x B ∧ ∃ g, u1 = jxsC u g) := by
  refine jkI_of (cc := cX0_findMattering) (maxL := 4) (ret := (some .int)) (by decide) rfl (Nat.le_of_ble_eq_true rfl) ?_
  intro p e R s m args below meth c Q A K hn9 hR9 hQ9
  obtain ⟨rN, rT, rM, rU, rK, rP, rA, rL, rB⟩ := id hS9
  obtain ⟨wn, wt, wu, wk, wp, wl, wb⟩ := id hW9
  have hu9 : ∀ w ∈ u_ws RX0 TX0 13, w ∈ wsX0_findMattering := fun w h => List.mem_cons_of_mem _ (ku_X0 w h)
  show jaW p l e R s m args below meth c 0 0 Q D vwCl A 4 (jxc q cI cZ u) [(0, .ref (q 0)), (1, .int (nI (x)))] 0 []
  refine ja_aload_n K 0 dX0_findMattering_0 rfl ?_
  refine ja_iload_n K 1 dX0_findMattering_1 rfl ?_
  refine ja_callVV K (q0 := 0) (qc := (RX0, TX0, 13)) (st := []) [.int (nI (x))] (jc_countCarried l D q cI cZ S (u) hW9 hS9 (x) (by omega)) (cwV 1 K.1.2.2.2.2 (gX0_X0_countCarried _) rfl rfl rfl (by decide +kernel) (by rw [hR9]; exact ⟨Nat.le_of_ble_eq_true rfl, Nat.le_of_ble_eq_true rfl⟩)) rfl rfl rfl rfl rfl (Nat.le_of_ble_eq_true rfl) dX0_findMattering_2 (by rw [hR9]; exact ⟨Nat.le_of_ble_eq_true rfl, Nat.le_of_ble_eq_true rfl⟩) (fun u9 h9 => ?_)
  obtain ⟨g2, rfl, hg2⟩ := h9
  refine ja_iconst K (nI 0) dX0_findMattering_5 (by decide) ?_
  refine ja_istore_n K (lv1 := [(0, .ref (q 0)), (1, .int (nI (x))), (2, .int (nI 0))]) dX0_findMattering_6 (by decide) rfl rfl ?_
  refine ja_iconst K (nI 0) dX0_findMattering_7 (by decide) ?_
  refine ja_istore_n K (lv1 := [(0, .ref (q 0)), (1, .int (nI (x))), (2, .int (nI 0)), (3, .int (nI 0))]) dX0_findMattering_8 (by decide) rfl rfl ?_
  have L9 : ∀ (i : Nat) (B : Nat), (i ≤ jN S ∧ B < 16384 ∧ ∀ c1, B.testBit c1 = (decide (c1 < i) && jmatS S x c1)) → jaW p l e R s m args below meth c 0 0 Q D vwCl A 4 (jxc q cI cZ (jxsC (u) g2)) [(0, .ref (q 0)), (1, .int (nI (x))), (2, .int (nI (B))), (3, .int (nI (i)))] 9 [] := by
    refine jl_2 (fun (i : Nat) (B : Nat) => jN S - i) (fun (i : Nat) (B : Nat) => i ≤ jN S ∧ B < 16384 ∧ ∀ c1, B.testBit c1 = (decide (c1 < i) && jmatS S x c1)) _ ?_
    intro i B hI9 IH9
    refine ja_iload_n K 3 dX0_findMattering_9 rfl ?_
    refine ja_aload_n K 0 dX0_findMattering_10 rfl ?_
    refine ja_get K hu9 0 rfl rfl 0 (by decide) (List.mem_cons_of_mem _ kfX0_7) rfl (congrArg (fun z9 => some (Value.int z9)) rN) dX0_findMattering_11 ?_
    refine ja_icmp_ge K (tgt := 48) ((jN S) ≤ i) dX0_findMattering_14 (by decide) (nI_leI (by omega) (by omega)) (fun h14 => ?_) (fun h14 => ?_)
    · refine ja_iload_n K 2 dX0_findMattering_48 rfl ?_
      exact ja_iret K (jxsC (u) g2) rfl (Nat.zero_le _) (Nat.zero_le _) dX0_findMattering_49 hQ9 rfl ⟨B, rfl, ⟨hI9.2.1, fun c1 => by rw [hI9.2.2 c1, show i = jN S by omega]⟩, g2, rfl⟩
    · refine ja_aload_n K 0 dX0_findMattering_17 rfl ?_
      refine ja_get K hu9 0 rfl rfl 2 (by decide) (List.mem_cons_of_mem _ kfX0_17) rfl rfl dX0_findMattering_18 ?_
      refine ja_iload_n K 3 dX0_findMattering_21 rfl ?_
      refine ja_zald K (v := jbI (jM S (i))) 2 1 rfl rfl (i) rfl (by omega) (by decide) (rM _ (by omega)) dX0_findMattering_22 ?_
      refine ja_if_ne K (tgt := 36) (jM S (i) = true) dX0_findMattering_23 (by decide) (jbI_nz _) (fun h23 => ?_) (fun h23 => ?_)
      · refine ja_iload_n K 2 dX0_findMattering_36 rfl ?_
        refine ja_iconst K (nI 1) dX0_findMattering_37 (by decide) ?_
        refine ja_iload_n K 3 dX0_findMattering_38 rfl ?_
        refine ja_ishl K (nI ((2 ^ i))) dX0_findMattering_39 (jone_shl i (by omega)) ?_
        refine ja_ior K (nI ((B ||| 2 ^ i))) dX0_findMattering_40 (jnI_or _ _) ?_
        refine ja_istore_n K (lv1 := [(0, .ref (q 0)), (1, .int (nI (x))), (2, .int (nI ((B ||| 2 ^ i)))), (3, .int (nI (i)))]) dX0_findMattering_41 (by decide) rfl rfl ?_
        refine ja_iinc K (lv1 := [(0, .ref (q 0)), (1, .int (nI (x))), (2, .int (nI ((B ||| 2 ^ i)))), (3, .int (nI ((i + 1))))]) 3 (nI ((i + 1))) dX0_findMattering_42 rfl (ja_inc _) (by decide) rfl rfl ?_
        refine ja_goto K (tgt := 9) dX0_findMattering_45 (by decide) ?_
        exact IH9 (i + 1) (B ||| 2 ^ i) ⟨by omega, jor_lt hI9.2.1 (by omega), jbits_set hI9.2.2 (jmat_t1 h23)⟩ (by omega)
      · refine ja_aload_n K 0 dX0_findMattering_26 rfl ?_
        refine ja_iload_n K 1 dX0_findMattering_27 rfl ?_
        refine ja_iload_n K 3 dX0_findMattering_28 rfl ?_
        have b9 := jfork_le S x i
        refine ja_callVI K (q0 := 0) (qc := (RX0, TX0, 13)) (st := []) [.int (nI (x)), .int (nI (i))] (jc_countLiveChildren l D q cI cZ S (jxsC (u) g2) hW9 hS9 (x) (i) (by omega) (by omega) (fun c1 hc1 => hg2 c1 hc1)) (cwV 2 K.1.2.2.2.2 (gX0_X0_countLiveChildren _) rfl rfl rfl (by decide +kernel) (by rw [hR9]; exact ⟨Nat.le_of_ble_eq_true rfl, Nat.le_of_ble_eq_true rfl⟩)) rfl rfl rfl rfl rfl (Nat.le_of_ble_eq_true rfl) dX0_findMattering_29 (by rw [hR9]; exact ⟨Nat.le_of_ble_eq_true rfl, Nat.le_of_ble_eq_true rfl⟩) (fun r9 u9 h9 => ?_)
        obtain ⟨rfl, rfl⟩ := h9
        refine ja_iconst K (nI 2) dX0_findMattering_32 (by decide) ?_
        refine ja_icmp_lt K (tgt := 42) ((jfork (jN S) (jM S) (jU S (x)) (i)) < 2) dX0_findMattering_33 (by decide) (nI_ltI (by omega) (by omega)) (fun h33 => ?_) (fun h33 => ?_)
        · refine ja_iinc K (lv1 := [(0, .ref (q 0)), (1, .int (nI (x))), (2, .int (nI (B))), (3, .int (nI ((i + 1))))]) 3 (nI ((i + 1))) dX0_findMattering_42 rfl (ja_inc _) (by decide) rfl rfl ?_
          refine ja_goto K (tgt := 9) dX0_findMattering_45 (by decide) ?_
          exact IH9 (i + 1) B ⟨by omega, hI9.2.1, jbits_not hI9.2.2 (jmat_f (by simpa using h23) h33)⟩ (by omega)
        · refine ja_iload_n K 2 dX0_findMattering_36 rfl ?_
          refine ja_iconst K (nI 1) dX0_findMattering_37 (by decide) ?_
          refine ja_iload_n K 3 dX0_findMattering_38 rfl ?_
          refine ja_ishl K (nI ((2 ^ i))) dX0_findMattering_39 (jone_shl i (by omega)) ?_
          refine ja_ior K (nI ((B ||| 2 ^ i))) dX0_findMattering_40 (jnI_or _ _) ?_
          refine ja_istore_n K (lv1 := [(0, .ref (q 0)), (1, .int (nI (x))), (2, .int (nI ((B ||| 2 ^ i)))), (3, .int (nI (i)))]) dX0_findMattering_41 (by decide) rfl rfl ?_
          refine ja_iinc K (lv1 := [(0, .ref (q 0)), (1, .int (nI (x))), (2, .int (nI ((B ||| 2 ^ i)))), (3, .int (nI ((i + 1))))]) 3 (nI ((i + 1))) dX0_findMattering_42 rfl (ja_inc _) (by decide) rfl rfl ?_
          refine ja_goto K (tgt := 9) dX0_findMattering_45 (by decide) ?_
          exact IH9 (i + 1) (B ||| 2 ^ i) ⟨by omega, jor_lt hI9.2.1 (by omega), jbits_set hI9.2.2 (jmat_t2 h33)⟩ (by omega)
  exact L9 0 0 ⟨Nat.zero_le _, by decide, fun c1 => by simp⟩
end
section
set_option maxRecDepth 100000 in
set_option maxHeartbeats 4000000 in
theorem jc_matters (l : Launch) (D : va_G) (q : Nat → Nat) (cI cZ : ClassId) (u : JX) (x c0 B : Nat) (hx : x < 60) (hc : c0 < 14) (hB : B < 16384) (hG : jxG u x = nI B) : jkI l yX0_matters wsX0_matters ({ frames := 0, cells := 0, slots := 0, locals := 0 }) D vwCl (jxt cI cZ) (jxc q cI cZ) [.ref (q 0), .int (nI x), .int (nI c0)] (jxc q cI cZ u) (fun r u1 => jbI (B.testBit c0) = r ∧ u = u1) := by
  refine jkI_of (cc := cX0_matters) (maxL := 3) (ret := (some .boolean)) (by decide) rfl (Nat.le_of_ble_eq_true rfl) ?_
  intro p e R s m args below meth c Q A K hn9 hR9 hQ9
  have hu9 : ∀ w ∈ u_ws RX0 TX0 13, w ∈ wsX0_matters := fun w h => List.mem_cons_of_mem _ (ku_X0 w h)
  show jaW p l e R s m args below meth c 0 0 Q D vwCl A 3 (jxc q cI cZ u) [(0, .ref (q 0)), (1, .int (nI (x))), (2, .int (nI (c0)))] 0 []
  refine ja_aload_n K 0 dX0_matters_0 rfl ?_
  refine ja_get K hu9 0 rfl rfl 10 (by decide) (List.mem_cons_of_mem _ kfX0_42) rfl rfl dX0_matters_1 ?_
  refine ja_iload_n K 1 dX0_matters_4 rfl ?_
  refine ja_iald K (v := nI (B)) 9 0 rfl rfl (x) rfl (by omega) (by decide) hG dX0_matters_5 ?_
  refine ja_iload_n K 2 dX0_matters_6 rfl ?_
  refine ja_ishr K ((nI (B) >>> (nI (c0) &&& 31))) dX0_matters_7 rfl ?_
  refine ja_iconst K (nI 1) dX0_matters_8 (by decide) ?_
  refine ja_iand K (((nI (B) >>> (nI (c0) &&& 31)) &&& nI 1)) dX0_matters_9 rfl ?_
  refine ja_iconst K (nI 1) dX0_matters_10 (by decide) ?_
  refine ja_icmp_ne K (tgt := 18) (¬ B.testBit c0 = true) dX0_matters_11 (by decide) (not_congr (jbit_get hB hc)) (fun h11 => ?_) (fun h11 => ?_)
  · refine ja_iconst K (nI 0) dX0_matters_18 (by decide) ?_
    exact ja_zret K (u) rfl (by first | exact ja_nz1 | exact ja_nz0 | exact jbI_narrow _) (Nat.zero_le _) (Nat.zero_le _) dX0_matters_19 hQ9 rfl ⟨by first | exact jb1 (by simpa using h11) | exact jb0 (by simpa using h11), rfl⟩
  · refine ja_iconst K (nI 1) dX0_matters_14 (by decide) ?_
    refine ja_goto K (tgt := 19) dX0_matters_15 (by decide) ?_
    exact ja_zret K (u) rfl (by first | exact ja_nz1 | exact ja_nz0 | exact jbI_narrow _) (Nat.zero_le _) (Nat.zero_le _) dX0_matters_19 hQ9 rfl ⟨by first | exact jb1 (by simpa using h11) | exact jb0 (by simpa using h11), rfl⟩
end
section
set_option maxRecDepth 100000 in
set_option maxHeartbeats 4000000 in
theorem jc_trees (l : Launch) (D : va_G) (q : Nat → Nat) (cI cZ : ClassId) (S : JS) (u : JX) (hW9 : jWf S) (hS9 : jxR1 S u)  : jkI l yX0_trees wsX0_trees ({ frames := 2, cells := 0, slots := 0, locals := 44 }) D vwCl (jxt cI cZ) (jxc q cI cZ) [.ref (q 0)] (jxc q cI cZ u) (fun r u1 => nI (jct (jsr S) 60) = r ∧ u = u1) := by
  refine jkI_of (cc := cX0_trees) (maxL := 3) (ret := (some .int)) (by decide) rfl (Nat.le_of_ble_eq_true rfl) ?_
  intro p e R s m args below meth c Q A K hn9 hR9 hQ9
  obtain ⟨rN, rT, rM, rU, rK, rP, rA, rL, rB⟩ := id hS9
  obtain ⟨wn, wt, wu, wk, wp, wl, wb⟩ := id hW9
  have hu9 : ∀ w ∈ u_ws RX0 TX0 13, w ∈ wsX0_trees := fun w h => List.mem_cons_of_mem _ (ku_X0 w h)
  show jaW p l e R s m args below meth c 0 0 Q D vwCl A 3 (jxc q cI cZ u) [(0, .ref (q 0))] 0 []
  refine ja_iconst K (nI 0) dX0_trees_0 (by decide) ?_
  refine ja_istore_n K (lv1 := [(0, .ref (q 0)), (1, .int (nI 0))]) dX0_trees_1 (by decide) rfl rfl ?_
  refine ja_iconst K (nI 0) dX0_trees_2 (by decide) ?_
  refine ja_istore_n K (lv1 := [(0, .ref (q 0)), (1, .int (nI 0)), (2, .int (nI 0))]) dX0_trees_3 (by decide) rfl rfl ?_
  have L4 : ∀ (x : Nat), (x ≤ 60) → jaW p l e R s m args below meth c 0 0 Q D vwCl A 3 (jxc q cI cZ u) [(0, .ref (q 0)), (1, .int (nI ((jct (jsr S) x)))), (2, .int (nI (x)))] 4 [] := by
    refine jl_1 (fun (x : Nat) => 60 - x) (fun (x : Nat) => x ≤ 60) _ ?_
    intro x hI4 IH4
    refine ja_iload_n K 2 dX0_trees_4 rfl ?_
    refine ja_bipush K (nI 60) dX0_trees_5 (by decide) ?_
    refine ja_icmp_ge K (tgt := 27) (60 ≤ x) dX0_trees_7 (by decide) (nI_leI (by omega) (by omega)) (fun h7 => ?_) (fun h7 => ?_)
    · refine ja_iload_n K 1 dX0_trees_27 rfl ?_
      exact ja_iret K (u) rfl (Nat.zero_le _) (Nat.zero_le _) dX0_trees_28 hQ9 rfl ⟨by rw [show x = 60 by omega], rfl⟩
    · refine ja_aload_n K 0 dX0_trees_10 rfl ?_
      refine ja_iload_n K 2 dX0_trees_11 rfl ?_
      refine ja_callVI K (q0 := 0) (qc := (RX0, TX0, 13)) (st := []) [.int (nI (x))] (jc_startsRun l D q cI cZ S (u) hW9 hS9 (x) (by omega)) (cwV 1 K.1.2.2.2.2 (gX0_X0_startsRun _) rfl rfl rfl (by decide +kernel) (by rw [hR9]; exact ⟨Nat.le_of_ble_eq_true rfl, Nat.le_of_ble_eq_true rfl⟩)) rfl rfl rfl rfl rfl (Nat.le_of_ble_eq_true rfl) dX0_trees_12 (by rw [hR9]; exact ⟨Nat.le_of_ble_eq_true rfl, Nat.le_of_ble_eq_true rfl⟩) (fun r9 u9 h9 => ?_)
      obtain ⟨rfl, rfl⟩ := h9
      refine ja_if_eq K (tgt := 21) (jsr S (x) = false) dX0_trees_15 (by decide) (jbI_ne _) (fun h15 => ?_) (fun h15 => ?_)
      · refine ja_iinc K (lv1 := [(0, .ref (q 0)), (1, .int (nI ((jct (jsr S) x)))), (2, .int (nI ((x + 1))))]) 2 (nI ((x + 1))) dX0_trees_21 rfl (ja_inc _) (by decide) rfl rfl ?_
        refine ja_goto K (tgt := 4) dX0_trees_24 (by decide) ?_
        have e90 : jct (jsr S) (x + 1) = (jct (jsr S) x) := by simp [jct, h7, h15]
        have k9 := IH4 (x + 1) (by omega) (by omega)
        rw [e90] at k9
        exact k9
      · refine ja_iinc K (lv1 := [(0, .ref (q 0)), (1, .int (nI (((jct (jsr S) x) + 1)))), (2, .int (nI (x)))]) 1 (nI (((jct (jsr S) x) + 1))) dX0_trees_18 rfl (ja_inc _) (by decide) rfl rfl ?_
        refine ja_iinc K (lv1 := [(0, .ref (q 0)), (1, .int (nI (((jct (jsr S) x) + 1)))), (2, .int (nI ((x + 1))))]) 2 (nI ((x + 1))) dX0_trees_21 rfl (ja_inc _) (by decide) rfl rfl ?_
        refine ja_goto K (tgt := 4) dX0_trees_24 (by decide) ?_
        have e90 : jct (jsr S) (x + 1) = ((jct (jsr S) x) + 1) := by simp [jct, h7, h15]
        have k9 := IH4 (x + 1) (by omega) (by omega)
        rw [e90] at k9
        exact k9
  exact L4 0 (Nat.zero_le _)
end
section
set_option maxRecDepth 100000 in
set_option maxHeartbeats 4000000 in
theorem jc_count (l : Launch) (D : va_G) (q : Nat → Nat) (cI cZ : ClassId) (S : JS) (u : JX) (hW9 : jWf S) (hS9 : jxR1 S u) (z : Int32) : jkI l yX0_count wsX0_count ({ frames := 3, cells := 0, slots := 0, locals := 68 }) D vwCl (jxt cI cZ) (jxc q cI cZ) [.ref (q 0), .int z] (jxc q cI cZ u) (fun r u1 => jcount S z = r ∧ u = u1) := by
  refine jkI_of (cc := cX0_count) (maxL := 2) (ret := (some .int)) (by decide) rfl (Nat.le_of_ble_eq_true rfl) ?_
  intro p e R s m args below meth c Q A K hn9 hR9 hQ9
  obtain ⟨rN, rT, rM, rU, rK, rP, rA, rL, rB⟩ := id hS9
  obtain ⟨wn, wt, wu, wk, wp, wl, wb⟩ := id hW9
  have hu9 : ∀ w ∈ u_ws RX0 TX0 13, w ∈ wsX0_count := fun w h => List.mem_cons_of_mem _ (ku_X0 w h)
  show jaW p l e R s m args below meth c 0 0 Q D vwCl A 2 (jxc q cI cZ u) [(0, .ref (q 0)), (1, .int (z))] 0 []
  refine ja_iload_n K 1 dX0_count_0 rfl ?_
  rcases jsw5 z with rfl | rfl | rfl | rfl | rfl | ⟨hz, hz0, hz1, hz2, hz3, hz4⟩
  · refine ja_tableIn K (off := 35) (tgt := 36) dX0_count_1 (by decide) (by decide) (by decide) (by decide) ?_
    refine ja_aload_n K 0 dX0_count_36 rfl ?_
    refine ja_get K hu9 0 rfl rfl 0 (by decide) (List.mem_cons_of_mem _ kfX0_7) rfl (congrArg (fun z9 => some (Value.int z9)) rN) dX0_count_37 ?_
    exact ja_iret K (u) rfl (Nat.zero_le _) (Nat.zero_le _) dX0_count_40 hQ9 rfl ⟨by first | (simp only [jcount, hz0, hz1, hz2, hz3, hz4, if_false]; done) | (simp only [jcount]; rfl), rfl⟩
  · refine ja_tableIn K (off := 40) (tgt := 41) dX0_count_1 (by decide) (by decide) (by decide) (by decide) ?_
    refine ja_aload_n K 0 dX0_count_41 rfl ?_
    refine ja_callVI K (q0 := 0) (qc := (RX0, TX0, 13)) (st := []) [] (jc_countSamples l D q cI cZ S (u) hW9 hS9) (cwV 0 K.1.2.2.2.2 (gX0_X0_countSamples _) rfl rfl rfl (by decide +kernel) (by rw [hR9]; exact ⟨Nat.le_of_ble_eq_true rfl, Nat.le_of_ble_eq_true rfl⟩)) rfl rfl rfl rfl rfl (Nat.le_of_ble_eq_true rfl) dX0_count_42 (by rw [hR9]; exact ⟨Nat.le_of_ble_eq_true rfl, Nat.le_of_ble_eq_true rfl⟩) (fun r9 u9 h9 => ?_)
    obtain ⟨rfl, rfl⟩ := h9
    exact ja_iret K (u) rfl (Nat.zero_le _) (Nat.zero_le _) dX0_count_45 hQ9 rfl ⟨by first | (simp only [jcount, hz0, hz1, hz2, hz3, hz4, if_false]; done) | (simp only [jcount]; rfl), rfl⟩
  · refine ja_tableIn K (off := 45) (tgt := 46) dX0_count_1 (by decide) (by decide) (by decide) (by decide) ?_
    refine ja_aload_n K 0 dX0_count_46 rfl ?_
    refine ja_callVI K (q0 := 0) (qc := (RX0, TX0, 13)) (st := []) [] (jc_countEdges l D q cI cZ S (u) hW9 hS9) (cwV 0 K.1.2.2.2.2 (gX0_X0_countEdges _) rfl rfl rfl (by decide +kernel) (by rw [hR9]; exact ⟨Nat.le_of_ble_eq_true rfl, Nat.le_of_ble_eq_true rfl⟩)) rfl rfl rfl rfl rfl (Nat.le_of_ble_eq_true rfl) dX0_count_47 (by rw [hR9]; exact ⟨Nat.le_of_ble_eq_true rfl, Nat.le_of_ble_eq_true rfl⟩) (fun r9 u9 h9 => ?_)
    obtain ⟨rfl, rfl⟩ := h9
    exact ja_iret K (u) rfl (Nat.zero_le _) (Nat.zero_le _) dX0_count_50 hQ9 rfl ⟨by first | (simp only [jcount, hz0, hz1, hz2, hz3, hz4, if_false]; done) | (simp only [jcount]; rfl), rfl⟩
  · refine ja_tableIn K (off := 50) (tgt := 51) dX0_count_1 (by decide) (by decide) (by decide) (by decide) ?_
    refine ja_aload_n K 0 dX0_count_51 rfl ?_
    refine ja_get K hu9 0 rfl rfl 4 (by decide) (List.mem_cons_of_mem _ kfX0_24) rfl (congrArg (fun z9 => some (Value.int z9)) rK) dX0_count_52 ?_
    exact ja_iret K (u) rfl (Nat.zero_le _) (Nat.zero_le _) dX0_count_55 hQ9 rfl ⟨by first | (simp only [jcount, hz0, hz1, hz2, hz3, hz4, if_false]; done) | (simp only [jcount]; rfl), rfl⟩
  · refine ja_tableIn K (off := 55) (tgt := 56) dX0_count_1 (by decide) (by decide) (by decide) (by decide) ?_
    refine ja_aload_n K 0 dX0_count_56 rfl ?_
    refine ja_callVI K (q0 := 0) (qc := (RX0, TX0, 13)) (st := []) [] (jc_countMutations l D q cI cZ S (u) hW9 hS9) (cwV 0 K.1.2.2.2.2 (gX0_X0_countMutations _) rfl rfl rfl (by decide +kernel) (by rw [hR9]; exact ⟨Nat.le_of_ble_eq_true rfl, Nat.le_of_ble_eq_true rfl⟩)) rfl rfl rfl rfl rfl (Nat.le_of_ble_eq_true rfl) dX0_count_57 (by rw [hR9]; exact ⟨Nat.le_of_ble_eq_true rfl, Nat.le_of_ble_eq_true rfl⟩) (fun r9 u9 h9 => ?_)
    obtain ⟨rfl, rfl⟩ := h9
    exact ja_iret K (u) rfl (Nat.zero_le _) (Nat.zero_le _) dX0_count_60 hQ9 rfl ⟨by first | (simp only [jcount, hz0, hz1, hz2, hz3, hz4, if_false]; done) | (simp only [jcount]; rfl), rfl⟩
  · refine ja_tableOut K (tgt := 61) dX0_count_1 hz (by decide) ?_
    refine ja_iconst K (-1) dX0_count_61 (by decide) ?_
    exact ja_iret K (u) rfl (Nat.zero_le _) (Nat.zero_le _) dX0_count_62 hQ9 rfl ⟨by first | (simp only [jcount, hz0, hz1, hz2, hz3, hz4, if_false]; done) | (simp only [jcount]; rfl), rfl⟩
end
section
set_option maxRecDepth 100000 in
set_option maxHeartbeats 4000000 in
theorem jc_differing (l : Launch) (D : va_G) (q : Nat → Nat) (cI cZ : ClassId) (S : JS) (u : JX) (hW9 : jWf S) (hS9 : jxR1 S u)  : jkI l yX0_differing wsX0_differing ({ frames := 3, cells := 0, slots := 0, locals := 69 }) D vwCl (jxt cI cZ) (jxc q cI cZ) [.ref (q 0)] (jxc q cI cZ u) (fun r u1 => nI (jdif S) = r ∧ jxR1 S u1) := by
  refine jkI_of (cc := cX0_differing) (maxL := 5) (ret := (some .int)) (by decide) rfl (Nat.le_of_ble_eq_true rfl) ?_
  intro p e R s m args below meth c Q A K hn9 hR9 hQ9
  obtain ⟨rN, rT, rM, rU, rK, rP, rA, rL, rB⟩ := id hS9
  obtain ⟨wn, wt, wu, wk, wp, wl, wb⟩ := id hW9
  have hu9 : ∀ w ∈ u_ws RX0 TX0 13, w ∈ wsX0_differing := fun w h => List.mem_cons_of_mem _ (ku_X0 w h)
  show jaW p l e R s m args below meth c 0 0 Q D vwCl A 5 (jxc q cI cZ u) [(0, .ref (q 0))] 0 []
  refine ja_iconst K (nI 0) dX0_differing_0 (by decide) ?_
  refine ja_istore_n K (lv1 := [(0, .ref (q 0)), (1, .int (nI 0))]) dX0_differing_1 (by decide) rfl rfl ?_
  refine ja_iconst K (nI 0) dX0_differing_2 (by decide) ?_
  refine ja_istore_n K (lv1 := [(0, .ref (q 0)), (1, .int (nI 0)), (2, .int (nI 0))]) dX0_differing_3 (by decide) rfl rfl ?_
  have L4 : ∀ (i : Nat) (v : JX), (i ≤ jK S ∧ jxR1 S v) → jaW p l e R s m args below meth c 0 0 Q D vwCl A 5 (jxc q cI cZ v) [(0, .ref (q 0)), (1, .int (nI ((jsm (fun i => jprs (jM S) (jlf S i) (jN S)) i)))), (2, .int (nI (i)))] 4 [] := by
    refine jl_2 (fun (i : Nat) (v : JX) => jK S - i) (fun (i : Nat) (v : JX) => i ≤ jK S ∧ jxR1 S v) _ ?_
    intro i v hI4 IH4
    obtain ⟨rN, rT, rM, rU, rK, rP, rA, rL, rB⟩ := id hI4.2
    refine ja_iload_n K 2 dX0_differing_4 rfl ?_
    refine ja_aload_n K 0 dX0_differing_5 rfl ?_
    refine ja_get K hu9 0 rfl rfl 4 (by decide) (List.mem_cons_of_mem _ kfX0_24) rfl (congrArg (fun z9 => some (Value.int z9)) rK) dX0_differing_6 ?_
    refine ja_icmp_ge K (tgt := 62) ((jK S) ≤ i) dX0_differing_9 (by decide) (nI_leI (by omega) (by omega)) (fun h9 => ?_) (fun h9 => ?_)
    · refine ja_iload_n K 1 dX0_differing_62 rfl ?_
      exact ja_iret K (v) rfl (Nat.zero_le _) (Nat.zero_le _) dX0_differing_63 hQ9 rfl ⟨by rw [jdif, show i = jK S by omega], hI4.2⟩
    · refine ja_aload_n K 0 dX0_differing_12 rfl ?_
      refine ja_iload_n K 2 dX0_differing_13 rfl ?_
      refine ja_callVV K (q0 := 0) (qc := (RX0, TX0, 13)) (st := []) [.int (nI (i))] (jc_tallyLetters l D q cI cZ S (v) hW9 hI4.2 (i) (by omega)) (cwV 1 K.1.2.2.2.2 (gX0_X0_tallyLetters _) rfl rfl rfl (by decide +kernel) (by rw [hR9]; exact ⟨Nat.le_of_ble_eq_true rfl, Nat.le_of_ble_eq_true rfl⟩)) rfl rfl rfl rfl rfl (Nat.le_of_ble_eq_true rfl) dX0_differing_14 (by rw [hR9]; exact ⟨Nat.le_of_ble_eq_true rfl, Nat.le_of_ble_eq_true rfl⟩) (fun u9 h9 => ?_)
      obtain ⟨g14, rfl, hg14⟩ := h9
      refine ja_iconst K (nI 0) dX0_differing_17 (by decide) ?_
      refine ja_istore_n K (lv1 := [(0, .ref (q 0)), (1, .int (nI ((jsm (fun i => jprs (jM S) (jlf S i) (jN S)) i)))), (2, .int (nI (i))), (3, .int (nI 0))]) dX0_differing_18 (by decide) rfl rfl ?_
      refine ja_iconst K (nI 0) dX0_differing_19 (by decide) ?_
      refine ja_istore K (lv1 := [(0, .ref (q 0)), (1, .int (nI ((jsm (fun i => jprs (jM S) (jlf S i) (jN S)) i)))), (2, .int (nI (i))), (3, .int (nI 0)), (4, .int (nI 0))]) dX0_differing_20 (by decide) rfl rfl ?_
      have L22 : ∀ (a : Nat), (a ≤ 4) → jaW p l e R s m args below meth c 0 0 Q D vwCl A 5 (jxc q cI cZ (jxsY v g14)) [(0, .ref (q 0)), (1, .int (nI ((jsm (fun i => jprs (jM S) (jlf S i) (jN S)) i + jsm (fun a => jsm (fun b => jtal (jM S) (jlf S i) (jN S) b) a * jtal (jM S) (jlf S i) (jN S) a) a)))), (2, .int (nI (i))), (3, .int (nI ((jsm (fun b => jtal (jM S) (jlf S i) (jN S) b) a)))), (4, .int (nI (a)))] 22 [] := by
        refine jl_1 (fun (a : Nat) => 4 - a) (fun (a : Nat) => a ≤ 4) _ ?_
        intro a hI22 IH22
        refine ja_iload K 4 dX0_differing_22 rfl ?_
        refine ja_iconst K (nI 4) dX0_differing_24 (by decide) ?_
        refine ja_icmp_ge K (tgt := 56) (4 ≤ a) dX0_differing_25 (by decide) (nI_leI (by omega) (by omega)) (fun h25 => ?_) (fun h25 => ?_)
        · refine ja_iinc K (lv1 := [(0, .ref (q 0)), (1, .int (nI ((jsm (fun i => jprs (jM S) (jlf S i) (jN S)) i + jsm (fun a => jsm (fun b => jtal (jM S) (jlf S i) (jN S) b) a * jtal (jM S) (jlf S i) (jN S) a) a)))), (2, .int (nI ((i + 1)))), (3, .int (nI ((jsm (fun b => jtal (jM S) (jlf S i) (jN S) b) a)))), (4, .int (nI (a)))]) 2 (nI ((i + 1))) dX0_differing_56 rfl (ja_inc _) (by decide) rfl rfl ?_
          refine ja_goto K (tgt := 4) dX0_differing_59 (by decide) ?_
          refine ja_locals (lv1 := [(0, .ref (q 0)), (1, .int (nI ((jsm (fun i => jprs (jM S) (jlf S i) (jN S)) i + jsm (fun a => jsm (fun b => jtal (jM S) (jlf S i) (jN S) b) a * jtal (jM S) (jlf S i) (jN S) a) a)))), (2, .int (nI ((i + 1))))]) [0, 1, 2] rfl ?_
          have e90 : jsm (fun i => jprs (jM S) (jlf S i) (jN S)) (i + 1) = (jsm (fun i => jprs (jM S) (jlf S i) (jN S)) i + jsm (fun a => jsm (fun b => jtal (jM S) (jlf S i) (jN S) b) a * jtal (jM S) (jlf S i) (jN S) a) a) := by rw [show a = 4 by omega, jdif_4 hW9 (by omega)]; rfl
          have k9 := IH4 (i + 1) (jxsY v g14) ⟨by omega, hI4.2⟩ (by omega)
          rw [e90] at k9
          exact k9
        · refine ja_iload_n K 1 dX0_differing_28 rfl ?_
          refine ja_iload_n K 3 dX0_differing_29 rfl ?_
          refine ja_aload_n K 0 dX0_differing_30 rfl ?_
          refine ja_get K hu9 0 rfl rfl 11 (by decide) (List.mem_cons_of_mem _ kfX0_45) rfl rfl dX0_differing_31 ?_
          refine ja_iload K 4 dX0_differing_34 rfl ?_
          refine ja_iald K (v := nI ((jtal (jM S) (jlf S i) (jN S) a))) 10 0 rfl rfl (a) rfl (by omega) (by decide) (hg14 _ (by omega)) dX0_differing_36 ?_
          refine ja_imul K (nI (((jsm (fun b => jtal (jM S) (jlf S i) (jN S) b) a) * (jtal (jM S) (jlf S i) (jN S) a)))) dX0_differing_37 (pk_mul _ _) ?_
          refine ja_iadd K (nI (((jsm (fun i => jprs (jM S) (jlf S i) (jN S)) i + jsm (fun a => jsm (fun b => jtal (jM S) (jlf S i) (jN S) b) a * jtal (jM S) (jlf S i) (jN S) a) a) + ((jsm (fun b => jtal (jM S) (jlf S i) (jN S) b) a) * (jtal (jM S) (jlf S i) (jN S) a))))) dX0_differing_38 (nI_add _ _) ?_
          refine ja_istore_n K (lv1 := [(0, .ref (q 0)), (1, .int (nI (((jsm (fun i => jprs (jM S) (jlf S i) (jN S)) i + jsm (fun a => jsm (fun b => jtal (jM S) (jlf S i) (jN S) b) a * jtal (jM S) (jlf S i) (jN S) a) a) + ((jsm (fun b => jtal (jM S) (jlf S i) (jN S) b) a) * (jtal (jM S) (jlf S i) (jN S) a)))))), (2, .int (nI (i))), (3, .int (nI ((jsm (fun b => jtal (jM S) (jlf S i) (jN S) b) a)))), (4, .int (nI (a)))]) dX0_differing_39 (by decide) rfl rfl ?_
          refine ja_iload_n K 3 dX0_differing_40 rfl ?_
          refine ja_aload_n K 0 dX0_differing_41 rfl ?_
          refine ja_get K hu9 0 rfl rfl 11 (by decide) (List.mem_cons_of_mem _ kfX0_45) rfl rfl dX0_differing_42 ?_
          refine ja_iload K 4 dX0_differing_45 rfl ?_
          refine ja_iald K (v := nI ((jtal (jM S) (jlf S i) (jN S) a))) 10 0 rfl rfl (a) rfl (by omega) (by decide) (hg14 _ (by omega)) dX0_differing_47 ?_
          refine ja_iadd K (nI (((jsm (fun b => jtal (jM S) (jlf S i) (jN S) b) a) + (jtal (jM S) (jlf S i) (jN S) a)))) dX0_differing_48 (nI_add _ _) ?_
          refine ja_istore_n K (lv1 := [(0, .ref (q 0)), (1, .int (nI (((jsm (fun i => jprs (jM S) (jlf S i) (jN S)) i + jsm (fun a => jsm (fun b => jtal (jM S) (jlf S i) (jN S) b) a * jtal (jM S) (jlf S i) (jN S) a) a) + ((jsm (fun b => jtal (jM S) (jlf S i) (jN S) b) a) * (jtal (jM S) (jlf S i) (jN S) a)))))), (2, .int (nI (i))), (3, .int (nI (((jsm (fun b => jtal (jM S) (jlf S i) (jN S) b) a) + (jtal (jM S) (jlf S i) (jN S) a))))), (4, .int (nI (a)))]) dX0_differing_49 (by decide) rfl rfl ?_
          refine ja_iinc K (lv1 := [(0, .ref (q 0)), (1, .int (nI (((jsm (fun i => jprs (jM S) (jlf S i) (jN S)) i + jsm (fun a => jsm (fun b => jtal (jM S) (jlf S i) (jN S) b) a * jtal (jM S) (jlf S i) (jN S) a) a) + ((jsm (fun b => jtal (jM S) (jlf S i) (jN S) b) a) * (jtal (jM S) (jlf S i) (jN S) a)))))), (2, .int (nI (i))), (3, .int (nI (((jsm (fun b => jtal (jM S) (jlf S i) (jN S) b) a) + (jtal (jM S) (jlf S i) (jN S) a))))), (4, .int (nI ((a + 1))))]) 4 (nI ((a + 1))) dX0_differing_50 rfl (ja_inc _) (by decide) rfl rfl ?_
          refine ja_goto K (tgt := 22) dX0_differing_53 (by decide) ?_
          have e90 : jsm (fun i => jprs (jM S) (jlf S i) (jN S)) i + jsm (fun a => jsm (fun b => jtal (jM S) (jlf S i) (jN S) b) a * jtal (jM S) (jlf S i) (jN S) a) (a + 1) = ((jsm (fun i => jprs (jM S) (jlf S i) (jN S)) i + jsm (fun a => jsm (fun b => jtal (jM S) (jlf S i) (jN S) b) a * jtal (jM S) (jlf S i) (jN S) a) a) + ((jsm (fun b => jtal (jM S) (jlf S i) (jN S) b) a) * (jtal (jM S) (jlf S i) (jN S) a))) := by simp only [jsm]; omega
          have e91 : jsm (fun b => jtal (jM S) (jlf S i) (jN S) b) (a + 1) = ((jsm (fun b => jtal (jM S) (jlf S i) (jN S) b) a) + (jtal (jM S) (jlf S i) (jN S) a)) := rfl
          have k9 := IH22 (a + 1) (by omega) (by omega)
          rw [e90, e91] at k9
          exact k9
      exact L22 0 (Nat.zero_le _)
  exact L4 0 u ⟨Nat.zero_le _, hS9⟩
end
section
set_option maxRecDepth 100000 in
set_option maxHeartbeats 4000000 in
theorem jc_spectrum (l : Launch) (D : va_G) (q : Nat → Nat) (cI cZ : ClassId) (S : JS) (u : JX) (hW9 : jWf S) (hS9 : jxR1 S u) (z : Int32) : jkI l yX0_spectrum wsX0_spectrum ({ frames := 3, cells := 0, slots := 0, locals := 69 }) D vwCl (jxt cI cZ) (jxc q cI cZ) [.ref (q 0), .int z] (jxc q cI cZ u) (fun r u1 => nI (jspec S z) = r ∧ jxR1 S u1) := by
  refine jkI_of (cc := cX0_spectrum) (maxL := 5) (ret := (some .int)) (by decide) rfl (Nat.le_of_ble_eq_true rfl) ?_
  intro p e R s m args below meth c Q A K hn9 hR9 hQ9
  obtain ⟨rN, rT, rM, rU, rK, rP, rA, rL, rB⟩ := id hS9
  obtain ⟨wn, wt, wu, wk, wp, wl, wb⟩ := id hW9
  have hu9 : ∀ w ∈ u_ws RX0 TX0 13, w ∈ wsX0_spectrum := fun w h => List.mem_cons_of_mem _ (ku_X0 w h)
  show jaW p l e R s m args below meth c 0 0 Q D vwCl A 5 (jxc q cI cZ u) [(0, .ref (q 0)), (1, .int (z))] 0 []
  refine ja_iload_n K 1 dX0_spectrum_0 rfl ?_
  refine ja_iconst K (nI 1) dX0_spectrum_1 (by decide) ?_
  refine ja_icmp_ge K (tgt := 7) (nI 1 ≤ z) dX0_spectrum_2 (by decide) Iff.rfl (fun h2 => ?_) (fun h2 => ?_)
  · refine ja_iconst K (nI 0) dX0_spectrum_7 (by decide) ?_
    refine ja_istore_n K (lv1 := [(0, .ref (q 0)), (1, .int (z)), (2, .int (nI 0))]) dX0_spectrum_8 (by decide) rfl rfl ?_
    refine ja_iconst K (nI 0) dX0_spectrum_9 (by decide) ?_
    refine ja_istore_n K (lv1 := [(0, .ref (q 0)), (1, .int (z)), (2, .int (nI 0)), (3, .int (nI 0))]) dX0_spectrum_10 (by decide) rfl rfl ?_
    have L11 : ∀ (i : Nat) (v : JX), (i ≤ jK S ∧ jxR1 S v) → jaW p l e R s m args below meth c 0 0 Q D vwCl A 5 (jxc q cI cZ v) [(0, .ref (q 0)), (1, .int (z)), (2, .int (nI ((jsm (fun i => jct (fun a => a != jA S i && decide (nI (jtal (jM S) (jlf S i) (jN S) a) = z)) 4) i)))), (3, .int (nI (i)))] 11 [] := by
      refine jl_2 (fun (i : Nat) (v : JX) => jK S - i) (fun (i : Nat) (v : JX) => i ≤ jK S ∧ jxR1 S v) _ ?_
      intro i v hI11 IH11
      obtain ⟨rN, rT, rM, rU, rK, rP, rA, rL, rB⟩ := id hI11.2
      refine ja_iload_n K 3 dX0_spectrum_11 rfl ?_
      refine ja_aload_n K 0 dX0_spectrum_12 rfl ?_
      refine ja_get K hu9 0 rfl rfl 4 (by decide) (List.mem_cons_of_mem _ kfX0_24) rfl (congrArg (fun z9 => some (Value.int z9)) rK) dX0_spectrum_13 ?_
      refine ja_icmp_ge K (tgt := 70) ((jK S) ≤ i) dX0_spectrum_16 (by decide) (nI_leI (by omega) (by omega)) (fun h16 => ?_) (fun h16 => ?_)
      · refine ja_iload_n K 2 dX0_spectrum_70 rfl ?_
        exact ja_iret K (v) rfl (Nat.zero_le _) (Nat.zero_le _) dX0_spectrum_71 hQ9 rfl ⟨by rw [jspec, if_pos h2, show i = jK S by omega], hI11.2⟩
      · have b9 := (wp i (by omega)).2
        refine ja_aload_n K 0 dX0_spectrum_19 rfl ?_
        refine ja_iload_n K 3 dX0_spectrum_20 rfl ?_
        refine ja_callVV K (q0 := 0) (qc := (RX0, TX0, 13)) (st := []) [.int (nI (i))] (jc_tallyLetters l D q cI cZ S (v) hW9 hI11.2 (i) (by omega)) (cwV 1 K.1.2.2.2.2 (gX0_X0_tallyLetters _) rfl rfl rfl (by decide +kernel) (by rw [hR9]; exact ⟨Nat.le_of_ble_eq_true rfl, Nat.le_of_ble_eq_true rfl⟩)) rfl rfl rfl rfl rfl (Nat.le_of_ble_eq_true rfl) dX0_spectrum_21 (by rw [hR9]; exact ⟨Nat.le_of_ble_eq_true rfl, Nat.le_of_ble_eq_true rfl⟩) (fun u9 h9 => ?_)
        obtain ⟨g21, rfl, hg21⟩ := h9
        refine ja_iconst K (nI 0) dX0_spectrum_24 (by decide) ?_
        refine ja_istore K (lv1 := [(0, .ref (q 0)), (1, .int (z)), (2, .int (nI ((jsm (fun i => jct (fun a => a != jA S i && decide (nI (jtal (jM S) (jlf S i) (jN S) a) = z)) 4) i)))), (3, .int (nI (i))), (4, .int (nI 0))]) dX0_spectrum_25 (by decide) rfl rfl ?_
        have L27 : ∀ (a : Nat), (a ≤ 4) → jaW p l e R s m args below meth c 0 0 Q D vwCl A 5 (jxc q cI cZ (jxsY v g21)) [(0, .ref (q 0)), (1, .int (z)), (2, .int (nI ((jsm (fun i => jct (fun a => a != jA S i && decide (nI (jtal (jM S) (jlf S i) (jN S) a) = z)) 4) i + jct (fun a => a != jA S i && decide (nI (jtal (jM S) (jlf S i) (jN S) a) = z)) a)))), (3, .int (nI (i))), (4, .int (nI (a)))] 27 [] := by
          refine jl_1 (fun (a : Nat) => 4 - a) (fun (a : Nat) => a ≤ 4) _ ?_
          intro a hI27 IH27
          refine ja_iload K 4 dX0_spectrum_27 rfl ?_
          refine ja_iconst K (nI 4) dX0_spectrum_29 (by decide) ?_
          refine ja_icmp_ge K (tgt := 64) (4 ≤ a) dX0_spectrum_30 (by decide) (nI_leI (by omega) (by omega)) (fun h30 => ?_) (fun h30 => ?_)
          · refine ja_iinc K (lv1 := [(0, .ref (q 0)), (1, .int (z)), (2, .int (nI ((jsm (fun i => jct (fun a => a != jA S i && decide (nI (jtal (jM S) (jlf S i) (jN S) a) = z)) 4) i + jct (fun a => a != jA S i && decide (nI (jtal (jM S) (jlf S i) (jN S) a) = z)) a)))), (3, .int (nI ((i + 1)))), (4, .int (nI (a)))]) 3 (nI ((i + 1))) dX0_spectrum_64 rfl (ja_inc _) (by decide) rfl rfl ?_
            refine ja_goto K (tgt := 11) dX0_spectrum_67 (by decide) ?_
            refine ja_locals (lv1 := [(0, .ref (q 0)), (1, .int (z)), (2, .int (nI ((jsm (fun i => jct (fun a => a != jA S i && decide (nI (jtal (jM S) (jlf S i) (jN S) a) = z)) 4) i + jct (fun a => a != jA S i && decide (nI (jtal (jM S) (jlf S i) (jN S) a) = z)) a)))), (3, .int (nI ((i + 1))))]) [0, 1, 2, 3] rfl ?_
            have e90 : jsm (fun i => jct (fun a => a != jA S i && decide (nI (jtal (jM S) (jlf S i) (jN S) a) = z)) 4) (i + 1) = (jsm (fun i => jct (fun a => a != jA S i && decide (nI (jtal (jM S) (jlf S i) (jN S) a) = z)) 4) i + jct (fun a => a != jA S i && decide (nI (jtal (jM S) (jlf S i) (jN S) a) = z)) a) := by rw [show a = 4 by omega]; rfl
            have k9 := IH11 (i + 1) (jxsY v g21) ⟨by omega, hI11.2⟩ (by omega)
            rw [e90] at k9
            exact k9
          · refine ja_iload K 4 dX0_spectrum_33 rfl ?_
            refine ja_aload_n K 0 dX0_spectrum_35 rfl ?_
            refine ja_get K hu9 0 rfl rfl 6 (by decide) (List.mem_cons_of_mem _ kfX0_30) rfl rfl dX0_spectrum_36 ?_
            refine ja_iload_n K 3 dX0_spectrum_39 rfl ?_
            refine ja_iald K (v := nI ((jA S (i)))) 5 0 rfl rfl (i) rfl (by omega) (by decide) (rA _ (by omega)) dX0_spectrum_40 ?_
            refine ja_icmp_eq K (tgt := 58) (a = (jA S (i))) dX0_spectrum_41 (by decide) (nI_eq (by omega) (by omega)) (fun h41 => ?_) (fun h41 => ?_)
            · refine ja_iinc K (lv1 := [(0, .ref (q 0)), (1, .int (z)), (2, .int (nI ((jsm (fun i => jct (fun a => a != jA S i && decide (nI (jtal (jM S) (jlf S i) (jN S) a) = z)) 4) i + jct (fun a => a != jA S i && decide (nI (jtal (jM S) (jlf S i) (jN S) a) = z)) a)))), (3, .int (nI (i))), (4, .int (nI ((a + 1))))]) 4 (nI ((a + 1))) dX0_spectrum_58 rfl (ja_inc _) (by decide) rfl rfl ?_
              refine ja_goto K (tgt := 27) dX0_spectrum_61 (by decide) ?_
              have e90 : jsm (fun i => jct (fun a => a != jA S i && decide (nI (jtal (jM S) (jlf S i) (jN S) a) = z)) 4) i + jct (fun a => a != jA S i && decide (nI (jtal (jM S) (jlf S i) (jN S) a) = z)) (a + 1) = (jsm (fun i => jct (fun a => a != jA S i && decide (nI (jtal (jM S) (jlf S i) (jN S) a) = z)) 4) i + jct (fun a => a != jA S i && decide (nI (jtal (jM S) (jlf S i) (jN S) a) = z)) a) := by rw [show jct (fun a => a != jA S i && decide (nI (jtal (jM S) (jlf S i) (jN S) a) = z)) (a + 1) = jct (fun a => a != jA S i && decide (nI (jtal (jM S) (jlf S i) (jN S) a) = z)) a + (if (a != jA S i && decide (nI (jtal (jM S) (jlf S i) (jN S) a) = z)) = true then 1 else 0) from rfl]; first | (rw [if_pos (by simp [h41])]; done) | (rw [if_pos (by simp at h52; simp [h41])]; omega) | (rw [if_neg (by simp [h41])]; rfl)
              have k9 := IH27 (a + 1) (by omega) (by omega)
              rw [e90] at k9
              exact k9
            · refine ja_aload_n K 0 dX0_spectrum_44 rfl ?_
              refine ja_get K hu9 0 rfl rfl 11 (by decide) (List.mem_cons_of_mem _ kfX0_45) rfl rfl dX0_spectrum_45 ?_
              refine ja_iload K 4 dX0_spectrum_48 rfl ?_
              refine ja_iald K (v := nI ((jtal (jM S) (jlf S i) (jN S) a))) 10 0 rfl rfl (a) rfl (by omega) (by decide) (hg21 _ (by omega)) dX0_spectrum_50 ?_
              refine ja_iload_n K 1 dX0_spectrum_51 rfl ?_
              refine ja_icmp_ne K (tgt := 58) (¬ nI ((jtal (jM S) (jlf S i) (jN S) a)) = z) dX0_spectrum_52 (by decide) Iff.rfl (fun h52 => ?_) (fun h52 => ?_)
              · refine ja_iinc K (lv1 := [(0, .ref (q 0)), (1, .int (z)), (2, .int (nI ((jsm (fun i => jct (fun a => a != jA S i && decide (nI (jtal (jM S) (jlf S i) (jN S) a) = z)) 4) i + jct (fun a => a != jA S i && decide (nI (jtal (jM S) (jlf S i) (jN S) a) = z)) a)))), (3, .int (nI (i))), (4, .int (nI ((a + 1))))]) 4 (nI ((a + 1))) dX0_spectrum_58 rfl (ja_inc _) (by decide) rfl rfl ?_
                refine ja_goto K (tgt := 27) dX0_spectrum_61 (by decide) ?_
                have e90 : jsm (fun i => jct (fun a => a != jA S i && decide (nI (jtal (jM S) (jlf S i) (jN S) a) = z)) 4) i + jct (fun a => a != jA S i && decide (nI (jtal (jM S) (jlf S i) (jN S) a) = z)) (a + 1) = (jsm (fun i => jct (fun a => a != jA S i && decide (nI (jtal (jM S) (jlf S i) (jN S) a) = z)) 4) i + jct (fun a => a != jA S i && decide (nI (jtal (jM S) (jlf S i) (jN S) a) = z)) a) := by rw [show jct (fun a => a != jA S i && decide (nI (jtal (jM S) (jlf S i) (jN S) a) = z)) (a + 1) = jct (fun a => a != jA S i && decide (nI (jtal (jM S) (jlf S i) (jN S) a) = z)) a + (if (a != jA S i && decide (nI (jtal (jM S) (jlf S i) (jN S) a) = z)) = true then 1 else 0) from rfl]; first | (rw [if_pos (by simp [h41, h52])]; done) | (rw [if_pos (by simp at h52; simp [h41, h52])]; omega) | (rw [if_neg (by simp [h41, h52])]; rfl)
                have k9 := IH27 (a + 1) (by omega) (by omega)
                rw [e90] at k9
                exact k9
              · refine ja_iinc K (lv1 := [(0, .ref (q 0)), (1, .int (z)), (2, .int (nI (((jsm (fun i => jct (fun a => a != jA S i && decide (nI (jtal (jM S) (jlf S i) (jN S) a) = z)) 4) i + jct (fun a => a != jA S i && decide (nI (jtal (jM S) (jlf S i) (jN S) a) = z)) a) + 1)))), (3, .int (nI (i))), (4, .int (nI (a)))]) 2 (nI (((jsm (fun i => jct (fun a => a != jA S i && decide (nI (jtal (jM S) (jlf S i) (jN S) a) = z)) 4) i + jct (fun a => a != jA S i && decide (nI (jtal (jM S) (jlf S i) (jN S) a) = z)) a) + 1))) dX0_spectrum_55 rfl (ja_inc _) (by decide) rfl rfl ?_
                refine ja_iinc K (lv1 := [(0, .ref (q 0)), (1, .int (z)), (2, .int (nI (((jsm (fun i => jct (fun a => a != jA S i && decide (nI (jtal (jM S) (jlf S i) (jN S) a) = z)) 4) i + jct (fun a => a != jA S i && decide (nI (jtal (jM S) (jlf S i) (jN S) a) = z)) a) + 1)))), (3, .int (nI (i))), (4, .int (nI ((a + 1))))]) 4 (nI ((a + 1))) dX0_spectrum_58 rfl (ja_inc _) (by decide) rfl rfl ?_
                refine ja_goto K (tgt := 27) dX0_spectrum_61 (by decide) ?_
                have e90 : jsm (fun i => jct (fun a => a != jA S i && decide (nI (jtal (jM S) (jlf S i) (jN S) a) = z)) 4) i + jct (fun a => a != jA S i && decide (nI (jtal (jM S) (jlf S i) (jN S) a) = z)) (a + 1) = ((jsm (fun i => jct (fun a => a != jA S i && decide (nI (jtal (jM S) (jlf S i) (jN S) a) = z)) 4) i + jct (fun a => a != jA S i && decide (nI (jtal (jM S) (jlf S i) (jN S) a) = z)) a) + 1) := by rw [show jct (fun a => a != jA S i && decide (nI (jtal (jM S) (jlf S i) (jN S) a) = z)) (a + 1) = jct (fun a => a != jA S i && decide (nI (jtal (jM S) (jlf S i) (jN S) a) = z)) a + (if (a != jA S i && decide (nI (jtal (jM S) (jlf S i) (jN S) a) = z)) = true then 1 else 0) from rfl]; first | (rw [if_pos (by simp [h41, h52])]; done) | (rw [if_pos (by simp at h52; simp [h41, h52])]; omega) | (rw [if_neg (by simp [h41, h52])]; rfl)
                have k9 := IH27 (a + 1) (by omega) (by omega)
                rw [e90] at k9
                exact k9
        exact L27 0 (Nat.zero_le _)
    exact L11 0 u ⟨Nat.zero_le _, hS9⟩
  · refine ja_iconst K (nI 0) dX0_spectrum_5 (by decide) ?_
    exact ja_iret K (u) rfl (Nat.zero_le _) (Nat.zero_le _) dX0_spectrum_6 hQ9 rfl ⟨by rw [jspec, if_neg h2], hS9⟩
end
section
set_option maxRecDepth 100000 in
set_option maxHeartbeats 4000000 in
theorem jc_area (l : Launch) (D : va_G) (q : Nat → Nat) (cI cZ : ClassId) (S : JS) (u : JX) (hW9 : jWf S) (hS9 : jxR1 S u)  : jkI l yX0_area wsX0_area ({ frames := 2, cells := 0, slots := 0, locals := 47 }) D vwCl (jxt cI cZ) (jxc q cI cZ) [.ref (q 0)] (jxc q cI cZ u) (fun r u1 => jar S 60 = r ∧ jxR1 S u1) := by
  refine jkI_of (cc := cX0_area) (maxL := 6) (ret := (some .int)) (by decide) rfl (Nat.le_of_ble_eq_true rfl) ?_
  intro p e R s m args below meth c Q A K hn9 hR9 hQ9
  obtain ⟨rN, rT, rM, rU, rK, rP, rA, rL, rB⟩ := id hS9
  obtain ⟨wn, wt, wu, wk, wp, wl, wb⟩ := id hW9
  have hu9 : ∀ w ∈ u_ws RX0 TX0 13, w ∈ wsX0_area := fun w h => List.mem_cons_of_mem _ (ku_X0 w h)
  show jaW p l e R s m args below meth c 0 0 Q D vwCl A 6 (jxc q cI cZ u) [(0, .ref (q 0))] 0 []
  refine ja_aload_n K 0 dX0_area_0 rfl ?_
  refine ja_callVI K (q0 := 0) (qc := (RX0, TX0, 13)) (st := []) [] (jc_countSamples l D q cI cZ S (u) hW9 hS9) (cwV 0 K.1.2.2.2.2 (gX0_X0_countSamples _) rfl rfl rfl (by decide +kernel) (by rw [hR9]; exact ⟨Nat.le_of_ble_eq_true rfl, Nat.le_of_ble_eq_true rfl⟩)) rfl rfl rfl rfl rfl (Nat.le_of_ble_eq_true rfl) dX0_area_1 (by rw [hR9]; exact ⟨Nat.le_of_ble_eq_true rfl, Nat.le_of_ble_eq_true rfl⟩) (fun r9 u9 h9 => ?_)
  obtain ⟨rfl, rfl⟩ := h9
  refine ja_istore_n K (lv1 := [(0, .ref (q 0)), (1, .int (nI ((jct (jM S) (jN S)))))]) dX0_area_4 (by decide) rfl rfl ?_
  refine ja_iconst K (nI 0) dX0_area_5 (by decide) ?_
  refine ja_istore_n K (lv1 := [(0, .ref (q 0)), (1, .int (nI ((jct (jM S) (jN S))))), (2, .int (nI 0))]) dX0_area_6 (by decide) rfl rfl ?_
  refine ja_iconst K (nI 0) dX0_area_7 (by decide) ?_
  refine ja_istore_n K (lv1 := [(0, .ref (q 0)), (1, .int (nI ((jct (jM S) (jN S))))), (2, .int (nI 0)), (3, .int (nI 0))]) dX0_area_8 (by decide) rfl rfl ?_
  have L9 : ∀ (x : Nat) (v : JX), (x ≤ 60 ∧ jxR1 S v) → jaW p l e R s m args below meth c 0 0 Q D vwCl A 6 (jxc q cI cZ v) [(0, .ref (q 0)), (1, .int (nI ((jct (jM S) (jN S))))), (2, .int ((jar S x))), (3, .int (nI (x)))] 9 [] := by
    refine jl_2 (fun (x : Nat) (v : JX) => 60 - x) (fun (x : Nat) (v : JX) => x ≤ 60 ∧ jxR1 S v) _ ?_
    intro x v hI9 IH9
    obtain ⟨rN, rT, rM, rU, rK, rP, rA, rL, rB⟩ := id hI9.2
    refine ja_iload_n K 3 dX0_area_9 rfl ?_
    refine ja_bipush K (nI 60) dX0_area_10 (by decide) ?_
    refine ja_icmp_ge K (tgt := 98) (60 ≤ x) dX0_area_12 (by decide) (nI_leI (by omega) (by omega)) (fun h12 => ?_) (fun h12 => ?_)
    · refine ja_iload_n K 2 dX0_area_98 rfl ?_
      exact ja_iret K (v) rfl (Nat.zero_le _) (Nat.zero_le _) dX0_area_99 hQ9 rfl ⟨by rw [show x = 60 by omega], hI9.2⟩
    · refine ja_aload_n K 0 dX0_area_15 rfl ?_
      refine ja_iload_n K 3 dX0_area_16 rfl ?_
      refine ja_callVV K (q0 := 0) (qc := (RX0, TX0, 13)) (st := []) [.int (nI (x))] (jc_countCarried l D q cI cZ S (v) hW9 hI9.2 (x) (by omega)) (cwV 1 K.1.2.2.2.2 (gX0_X0_countCarried _) rfl rfl rfl (by decide +kernel) (by rw [hR9]; exact ⟨Nat.le_of_ble_eq_true rfl, Nat.le_of_ble_eq_true rfl⟩)) rfl rfl rfl rfl rfl (Nat.le_of_ble_eq_true rfl) dX0_area_17 (by rw [hR9]; exact ⟨Nat.le_of_ble_eq_true rfl, Nat.le_of_ble_eq_true rfl⟩) (fun u9 h9 => ?_)
      obtain ⟨g17, rfl, hg17⟩ := h9
      refine ja_iconst K (nI 0) dX0_area_20 (by decide) ?_
      refine ja_istore K (lv1 := [(0, .ref (q 0)), (1, .int (nI ((jct (jM S) (jN S))))), (2, .int ((jar S x))), (3, .int (nI (x))), (4, .int (nI 0))]) dX0_area_21 (by decide) rfl rfl ?_
      have L23 : ∀ (i : Nat), (i ≤ jN S) → jaW p l e R s m args below meth c 0 0 Q D vwCl A 6 (jxc q cI cZ (jxsC v g17)) [(0, .ref (q 0)), (1, .int (nI ((jct (jM S) (jN S))))), (2, .int ((jar S x + jarI S x i))), (3, .int (nI (x))), (4, .int (nI (i)))] 23 [] := by
        refine jl_1 (fun (i : Nat) => jN S - i) (fun (i : Nat) => i ≤ jN S) _ ?_
        intro i hI23 IH23
        refine ja_iload K 4 dX0_area_23 rfl ?_
        refine ja_aload_n K 0 dX0_area_25 rfl ?_
        refine ja_get K hu9 0 rfl rfl 0 (by decide) (List.mem_cons_of_mem _ kfX0_7) rfl (congrArg (fun z9 => some (Value.int z9)) rN) dX0_area_26 ?_
        refine ja_icmp_ge K (tgt := 92) ((jN S) ≤ i) dX0_area_29 (by decide) (nI_leI (by omega) (by omega)) (fun h29 => ?_) (fun h29 => ?_)
        · refine ja_iinc K (lv1 := [(0, .ref (q 0)), (1, .int (nI ((jct (jM S) (jN S))))), (2, .int ((jar S x + jarI S x i))), (3, .int (nI ((x + 1)))), (4, .int (nI (i)))]) 3 (nI ((x + 1))) dX0_area_92 rfl (ja_inc _) (by decide) rfl rfl ?_
          refine ja_goto K (tgt := 9) dX0_area_95 (by decide) ?_
          refine ja_locals (lv1 := [(0, .ref (q 0)), (1, .int (nI ((jct (jM S) (jN S))))), (2, .int ((jar S x + jarI S x i))), (3, .int (nI ((x + 1))))]) [0, 1, 2, 3] rfl ?_
          have e90 : jar S (x + 1) = (jar S x + jarI S x i) := by rw [show i = jN S by omega]; rfl
          have k9 := IH9 (x + 1) (jxsC v g17) ⟨by omega, hI9.2⟩ (by omega)
          rw [e90] at k9
          exact k9
        · have b9 := jund_le S x i
          have b8 := jct_le (jM S) (jN S)
          refine ja_aload_n K 0 dX0_area_32 rfl ?_
          refine ja_iload_n K 3 dX0_area_33 rfl ?_
          refine ja_iload K 4 dX0_area_34 rfl ?_
          refine ja_callVI K (q0 := 0) (qc := (RX0, TX0, 13)) (st := []) [.int (nI (x)), .int (nI (i))] (jc_parentAt l D q cI cZ (jxsC v g17) (x) (i) (by omega) (by omega) (jU S (x) (i)) (rU _ _ (by omega) (by omega))) (cwV 2 K.1.2.2.2.2 (gX0_X0_parentAt _) rfl rfl rfl (by decide +kernel) (by rw [hR9]; exact ⟨Nat.le_of_ble_eq_true rfl, Nat.le_of_ble_eq_true rfl⟩)) rfl rfl rfl rfl rfl (Nat.le_of_ble_eq_true rfl) dX0_area_36 (by rw [hR9]; exact ⟨Nat.le_of_ble_eq_true rfl, Nat.le_of_ble_eq_true rfl⟩) (fun r9 u9 h9 => ?_)
          obtain ⟨rfl, rfl⟩ := h9
          refine ja_istore K (lv1 := [(0, .ref (q 0)), (1, .int (nI ((jct (jM S) (jN S))))), (2, .int ((jar S x + jarI S x i))), (3, .int (nI (x))), (4, .int (nI (i))), (5, .int (jeI (jU S (x) (i))))]) dX0_area_39 (by decide) rfl rfl ?_
          refine ja_iload K 5 dX0_area_41 rfl ?_
          refine ja_iconst K (-1) dX0_area_43 (by decide) ?_
          refine ja_icmp_eq K (tgt := 86) (jU S (x) (i) = none) dX0_area_44 (by decide) (jeI_m1 (o := jU S (x) (i)) (fun p9 h9 => by have := (wu _ _ _ h9).2.1; omega)) (fun h44 => ?_) (fun h44 => ?_)
          · refine ja_iinc K (lv1 := [(0, .ref (q 0)), (1, .int (nI ((jct (jM S) (jN S))))), (2, .int ((jar S x + jarI S x i))), (3, .int (nI (x))), (4, .int (nI ((i + 1)))), (5, .int (jeI (jU S (x) (i))))]) 4 (nI ((i + 1))) dX0_area_86 rfl (ja_inc _) (by decide) rfl rfl ?_
            refine ja_goto K (tgt := 23) dX0_area_89 (by decide) ?_
            refine ja_locals (lv1 := [(0, .ref (q 0)), (1, .int (nI ((jct (jM S) (jN S))))), (2, .int ((jar S x + jarI S x i))), (3, .int (nI (x))), (4, .int (nI ((i + 1))))]) [0, 1, 2, 3, 4] rfl ?_
            have e90 : jar S x + jarI S x (i + 1) = (jar S x + jarI S x i) := by rw [show jarI S x (i + 1) = jarI S x i + jarT S x i from rfl, jarT_none h44, Int32.add_zero]
            have k9 := IH23 (i + 1) (by omega) (by omega)
            rw [e90] at k9
            exact k9
          · obtain ⟨y44, ey44⟩ := Option.ne_none_iff_exists'.mp h44
            try rw [ey44]
            have by44 := wu _ _ _ ey44
            refine ja_aload_n K 0 dX0_area_47 rfl ?_
            refine ja_get K hu9 0 rfl rfl 9 (by decide) (List.mem_cons_of_mem _ kfX0_39) rfl rfl dX0_area_48 ?_
            refine ja_iload K 4 dX0_area_51 rfl ?_
            refine ja_iald K (v := nI ((jundS S x i))) 8 0 rfl rfl (i) rfl (by omega) (by decide) (hg17 _ (by omega)) dX0_area_53 ?_
            refine ja_if_le K (tgt := 86) ((jundS S x i) ≤ 0) dX0_area_54 (by decide) (jz_le (by omega)) (fun h54 => ?_) (fun h54 => ?_)
            · refine ja_iinc K (lv1 := [(0, .ref (q 0)), (1, .int (nI ((jct (jM S) (jN S))))), (2, .int ((jar S x + jarI S x i))), (3, .int (nI (x))), (4, .int (nI ((i + 1)))), (5, .int (nI (y44)))]) 4 (nI ((i + 1))) dX0_area_86 rfl (ja_inc _) (by decide) rfl rfl ?_
              refine ja_goto K (tgt := 23) dX0_area_89 (by decide) ?_
              refine ja_locals (lv1 := [(0, .ref (q 0)), (1, .int (nI ((jct (jM S) (jN S))))), (2, .int ((jar S x + jarI S x i))), (3, .int (nI (x))), (4, .int (nI ((i + 1))))]) [0, 1, 2, 3, 4] rfl ?_
              have e90 : jar S x + jarI S x (i + 1) = (jar S x + jarI S x i) := by rw [show jarI S x (i + 1) = jarI S x i + jarT S x i from rfl, jarT_neg ey44 (by omega), Int32.add_zero]
              have k9 := IH23 (i + 1) (by omega) (by omega)
              rw [e90] at k9
              exact k9
            · refine ja_aload_n K 0 dX0_area_57 rfl ?_
              refine ja_get K hu9 0 rfl rfl 9 (by decide) (List.mem_cons_of_mem _ kfX0_39) rfl rfl dX0_area_58 ?_
              refine ja_iload K 4 dX0_area_61 rfl ?_
              refine ja_iald K (v := nI ((jundS S x i))) 8 0 rfl rfl (i) rfl (by omega) (by decide) (hg17 _ (by omega)) dX0_area_63 ?_
              refine ja_iload_n K 1 dX0_area_64 rfl ?_
              refine ja_icmp_ge K (tgt := 86) ((jct (jM S) (jN S)) ≤ (jundS S x i)) dX0_area_65 (by decide) (nI_leI (by omega) (by omega)) (fun h65 => ?_) (fun h65 => ?_)
              · refine ja_iinc K (lv1 := [(0, .ref (q 0)), (1, .int (nI ((jct (jM S) (jN S))))), (2, .int ((jar S x + jarI S x i))), (3, .int (nI (x))), (4, .int (nI ((i + 1)))), (5, .int (nI (y44)))]) 4 (nI ((i + 1))) dX0_area_86 rfl (ja_inc _) (by decide) rfl rfl ?_
                refine ja_goto K (tgt := 23) dX0_area_89 (by decide) ?_
                refine ja_locals (lv1 := [(0, .ref (q 0)), (1, .int (nI ((jct (jM S) (jN S))))), (2, .int ((jar S x + jarI S x i))), (3, .int (nI (x))), (4, .int (nI ((i + 1))))]) [0, 1, 2, 3, 4] rfl ?_
                have e90 : jar S x + jarI S x (i + 1) = (jar S x + jarI S x i) := by rw [show jarI S x (i + 1) = jarI S x i + jarT S x i from rfl, jarT_neg ey44 (by omega), Int32.add_zero]
                have k9 := IH23 (i + 1) (by omega) (by omega)
                rw [e90] at k9
                exact k9
              · refine ja_iload_n K 2 dX0_area_68 rfl ?_
                refine ja_aload_n K 0 dX0_area_69 rfl ?_
                refine ja_get K hu9 0 rfl rfl 1 (by decide) (List.mem_cons_of_mem _ kfX0_13) rfl rfl dX0_area_70 ?_
                refine ja_iload K 5 dX0_area_73 rfl ?_
                refine ja_iald K (v := nI ((jT S (y44)))) 1 0 rfl rfl (y44) rfl (by omega) (by decide) (rT _ (by omega)) dX0_area_75 ?_
                refine ja_aload_n K 0 dX0_area_76 rfl ?_
                refine ja_get K hu9 0 rfl rfl 1 (by decide) (List.mem_cons_of_mem _ kfX0_13) rfl rfl dX0_area_77 ?_
                refine ja_iload K 4 dX0_area_80 rfl ?_
                refine ja_iald K (v := nI ((jT S (i)))) 1 0 rfl rfl (i) rfl (by omega) (by decide) (rT _ (by omega)) dX0_area_82 ?_
                refine ja_isub K ((nI ((jT S (y44))) - nI ((jT S (i))))) dX0_area_83 rfl ?_
                refine ja_iadd K (((jar S x + jarI S x i) + (nI ((jT S (y44))) - nI ((jT S (i)))))) dX0_area_84 rfl ?_
                refine ja_istore_n K (lv1 := [(0, .ref (q 0)), (1, .int (nI ((jct (jM S) (jN S))))), (2, .int (((jar S x + jarI S x i) + (nI ((jT S (y44))) - nI ((jT S (i))))))), (3, .int (nI (x))), (4, .int (nI (i))), (5, .int (nI (y44)))]) dX0_area_85 (by decide) rfl rfl ?_
                refine ja_iinc K (lv1 := [(0, .ref (q 0)), (1, .int (nI ((jct (jM S) (jN S))))), (2, .int (((jar S x + jarI S x i) + (nI ((jT S (y44))) - nI ((jT S (i))))))), (3, .int (nI (x))), (4, .int (nI ((i + 1)))), (5, .int (nI (y44)))]) 4 (nI ((i + 1))) dX0_area_86 rfl (ja_inc _) (by decide) rfl rfl ?_
                refine ja_goto K (tgt := 23) dX0_area_89 (by decide) ?_
                refine ja_locals (lv1 := [(0, .ref (q 0)), (1, .int (nI ((jct (jM S) (jN S))))), (2, .int (((jar S x + jarI S x i) + (nI ((jT S (y44))) - nI ((jT S (i))))))), (3, .int (nI (x))), (4, .int (nI ((i + 1))))]) [0, 1, 2, 3, 4] rfl ?_
                have e90 : jar S x + jarI S x (i + 1) = ((jar S x + jarI S x i) + (nI ((jT S (y44))) - nI ((jT S (i))))) := by rw [show jarI S x (i + 1) = jarI S x i + jarT S x i from rfl, jarT_pos ey44 (by omega), Int32.add_assoc]
                have k9 := IH23 (i + 1) (by omega) (by omega)
                rw [e90] at k9
                exact k9
      have k9 := L23 0 (Nat.zero_le _)
      rw [show jar S x + jarI S x 0 = jar S x from Int32.add_zero _] at k9
      exact k9
  exact L9 0 u ⟨Nat.zero_le _, hS9⟩
end
section
/-! What the throws need: words, texts; numbers of the arguments; codes, new values. -/
def jzs : List Cond := lw_tbl.filter jzw
def jtx : List (String × Nat × String) := [(RX0, 59, "time is not 0 .. 1000"), (RX0, 66, "there are 14 nodes"), (RX0, 79, "no such places or node"), (RX0, 82, "the parent's time is not greater"), (RX0, 88, "the child has another parent"), (RX0, 97, "no such place"), (RX0, 102, "no letter, or the place has a site"), (RX0, 104, "there are 8 sites"), (RX0, 109, "no such site or node"), (RX0, 111, "letter is not -1 .. 3"), (RX0, 123, "no such node"), (RX0, 129, "no such edge, or nothing that an edge has"), (RX0, 138, "no such place or node"), (RX0, 147, "no such run")]
abbrev jEO : String := "java/lang/IndexOutOfBoundsException"
abbrev jEA : String := "java/lang/IllegalArgumentException"
abbrev jES : String := "java/lang/IllegalStateException"
abbrev jnm : List String := ["java/lang/RuntimeException", "java/lang/Exception"]
set_option maxRecDepth 20000 in
theorem jvA1 : ∀ w ∈ (vx_atS RX0 61 jEA jnm).filter goodWord, w ∈ jW0 := by decide +kernel
set_option maxRecDepth 20000 in
theorem jvA2 : ∀ w ∈ (vx_atS RX0 61 jEA jnm).filter (fun w => !goodWord w), w ∈ jzs := by decide +kernel
set_option maxRecDepth 20000 in
theorem jvA3 : ∀ w ∈ Cond.classLink RX0 57 jEA :: Cond.initialized jEA :: vx_atS RX0 61 jEA jnm, vx_ot w = true := by decide +kernel
set_option maxRecDepth 20000 in
theorem jvS1 : ∀ w ∈ (vx_atS RX0 68 jES jnm).filter goodWord, w ∈ jW0 := by decide +kernel
set_option maxRecDepth 20000 in
theorem jvS2 : ∀ w ∈ (vx_atS RX0 68 jES jnm).filter (fun w => !goodWord w), w ∈ jzs := by decide +kernel
set_option maxRecDepth 20000 in
theorem jvS3 : ∀ w ∈ Cond.classLink RX0 64 jES :: Cond.initialized jES :: vx_atS RX0 68 jES jnm, vx_ot w = true := by decide +kernel
set_option maxRecDepth 20000 in
theorem jvO1 : ∀ w ∈ (vx_atS RX0 81 jEO jnm).filter goodWord, w ∈ jW0 := by decide +kernel
set_option maxRecDepth 20000 in
theorem jvO2 : ∀ w ∈ (vx_atS RX0 81 jEO jnm).filter (fun w => !goodWord w), w ∈ jzs := by decide +kernel
set_option maxRecDepth 20000 in
theorem jvO3 : ∀ w ∈ Cond.classLink RX0 77 jEO :: Cond.initialized jEO :: vx_atS RX0 81 jEO jnm, vx_ot w = true := by decide +kernel
def jv (z : Int32) : Nat := z.toNatClampNeg
theorem jv_nI {n : Nat} (h : n < 2 ^ 31) : jv (nI n) = n := nI_clamp h
def jcN (S : JS) (z : Int32) : Nat := if jin z 1001 = true then (if jN S = 14 then 2 else 0) else 1
def jaddN (S : JS) (z : Int32) (b : Bool) : JS := (jN S + 1, fun i => if i = jN S then jv z else jT S i, fun i => if i = jN S then b else jM S i, jU S, jK S, jP S, jA S, jL S, jB S)
def jsetU (S : JS) (i j c0 : Nat) (o : Option Nat) : JS := (jN S, jT S, jM S, fun x1 c1 => if c1 = c0 ∧ i ≤ x1 ∧ x1 < j then o else jU S x1 c1, jK S, jP S, jA S, jL S, jB S)
def jbes (S : JS) (i j p0 c0 : Nat) : Bool := jany (fun d => jU S (i + d) c0 != none && jU S (i + d) c0 != some p0) (j - i)
def jcJ (S : JS) (a b p c : Int32) : Nat := if (jrun a b && jin p (jN S) && jin c (jN S)) = true then (if jT S (jv p) ≤ jT S (jv c) then 2 else if jbes S (jv a) (jv b) (jv p) (jv c) = true then 3 else 0) else 1
def jaU (S : JS) (i j c0 : Nat) (o : Option Nat) : Nat := jct (fun d => jU S (i + d) c0 != o) (j - i)
def jcP (S : JS) (a b c : Int32) : Nat := if (jrun a b && jin c (jN S)) = true then 0 else 1
def jtaken (S : JS) (x : Nat) : Bool := jany (fun j => jP S j == x) (jK S)
def jcS (S : JS) (x a : Int32) : Nat := if jin x 60 = true then (if (jin a 4 && !jtaken S (jv x)) = true then (if jK S = 8 then 3 else 0) else 2) else 1
def jaddS (S : JS) (x a : Int32) : JS := (jN S, jT S, jM S, jU S, jK S + 1, fun i => if i = jK S then jv x else jP S i, fun i => if i = jK S then jv a else jA S i, jL S, jB S)
def jlo (z : Int32) : Option Nat := if z = -1 then none else some (jv z)
def jcM (S : JS) (i c z : Int32) : Nat := if (jin i (jK S) && jin c (jN S)) = true then (if z < -1 ∨ nI 4 ≤ z then 2 else 0) else 1
def jsetL (S : JS) (i c0 : Nat) (o : Option Nat) : JS := (jN S, jT S, jM S, jU S, jK S, jP S, jA S, fun i1 c1 => if i1 = i ∧ c1 = c0 then o else jL S i1 c1, jB S)
theorem jlo_of {z : Int32} (h1 : ¬ z < -1) (h2 : z < nI 4) : ∃ o, z = jeI o ∧ ∀ a, o = some a → a < 4 := by
  by_cases q : z = -1
  · exact ⟨none, q, fun a h => by cases h⟩
  · have e1 : (-1 : Int32).toInt = -1 := by decide
    have g1 : ¬ z.toInt < -1 := by rw [Int32.lt_iff_toInt_lt, e1] at h1; exact h1
    have g2 : z.toInt < 4 := by rw [Int32.lt_iff_toInt_lt, nI_toInt (by omega)] at h2; exact h2
    have g3 : ¬ z.toInt = -1 := fun e => q (Int32.toInt_inj.mp (by rw [e1]; exact e))
    obtain ⟨j, hj, rfl⟩ := jin_of (z := z) (n := 4) (jin_tt (by rw [Int32.lt_iff_toInt_lt, Int32.toInt_zero]; omega) h2) (by omega)
    exact ⟨some j, rfl, fun a h => by cases h; exact hj⟩
theorem jlo_eI {o : Option Nat} (h : ∀ a, o = some a → a < 4) : jlo (jeI o) = o := by
  cases o with
  | none => rfl
  | some a =>
    have ha := h a rfl
    show (if jeI (some a) = -1 then none else some (jv (jeI (some a)))) = some a
    rw [if_neg (show ¬ jeI (some a) = -1 from jnI_ne (by omega))]
    exact congrArg some (jv_nI (by omega))
def jcf (S : JS) (z : Int32) : Nat → Nat → Option Nat
  | 0, _ => if nI (jct (jsr S) 60) = z then some 60 else none
  | k + 1, x => if jsr S x = true ∧ nI (jct (jsr S) x) = z then some x else jcf S z k (x + 1)
def jcut (S : JS) (z : Int32) : Option Nat := jcf S z 60 0
/-- the new values hold what they must -/
theorem jaddN_wf {S : JS} (h : jWf S) {t0 : Nat} {b : Bool} (hn : jN S < 14) (ht : t0 < 1001) : jWf (jaddN S (nI t0) b) := by
  obtain ⟨wn, wt, wu, wk, wp, wl, wb⟩ := h
  refine ⟨by show jN S + 1 ≤ 14; omega, fun i hi => ?_, fun x c p e => ?_, wk, wp, fun i c a e => ?_, wb⟩
  · show (if i = jN S then jv (nI t0) else jT S i) ≤ 1000
    replace hi : i < jN S + 1 := hi
    split
    · rw [jv_nI (by omega)]; omega
    · exact wt i (by omega)
  · obtain ⟨h1, h2, h3⟩ := wu x c p e
    refine ⟨by show c < jN S + 1; omega, by show p < jN S + 1; omega, ?_⟩
    show (if c = jN S then jv (nI t0) else jT S c) < (if p = jN S then jv (nI t0) else jT S p)
    rw [if_neg (by omega), if_neg (by omega)]
    exact h3
  · obtain ⟨h1, h2, h3⟩ := wl i c a e
    exact ⟨h1, by show c < jN S + 1; omega, h3⟩
theorem jsetU_wf {S : JS} (h : jWf S) {i j c0 : Nat} {o : Option Nat} (hc : c0 < jN S) (ho : ∀ p, o = some p → p < jN S ∧ jT S c0 < jT S p) : jWf (jsetU S i j c0 o) := by
  obtain ⟨wn, wt, wu, wk, wp, wl, wb⟩ := h
  refine ⟨wn, wt, fun x c p e => ?_, wk, wp, wl, wb⟩
  replace e : (if c = c0 ∧ i ≤ x ∧ x < j then o else jU S x c) = some p := e
  split at e
  · rename_i q
    rw [q.1]
    exact ⟨hc, ho p e⟩
  · exact wu x c p e
theorem jaddS_wf {S : JS} (h : jWf S) {x0 a0 : Nat} (hk : jK S < 8) (hx : x0 < 60) (ha : a0 < 4) : jWf (jaddS S (nI x0) (nI a0)) := by
  obtain ⟨wn, wt, wu, wk, wp, wl, wb⟩ := h
  refine ⟨wn, wt, wu, by show jK S + 1 ≤ 8; omega, fun i hi => ?_, fun i c a e => ?_, wb⟩
  · replace hi : i < jK S + 1 := hi
    show (if i = jK S then jv (nI x0) else jP S i) < 60 ∧ (if i = jK S then jv (nI a0) else jA S i) < 4
    split
    · rw [jv_nI (by omega), jv_nI (by omega)]; exact ⟨hx, ha⟩
    · exact wp i (by omega)
  · obtain ⟨h1, h2, h3⟩ := wl i c a e
    exact ⟨by show i < jK S + 1; omega, h2, h3⟩
theorem jsetL_wf {S : JS} (h : jWf S) {i c0 : Nat} {o : Option Nat} (hi : i < jK S) (hc : c0 < jN S) (ho : ∀ a, o = some a → a < 4) : jWf (jsetL S i c0 o) := by
  obtain ⟨wn, wt, wu, wk, wp, wl, wb⟩ := h
  refine ⟨wn, wt, wu, wk, wp, fun i1 c1 a e => ?_, wb⟩
  replace e : (if i1 = i ∧ c1 = c0 then o else jL S i1 c1) = some a := e
  split at e
  · rename_i q
    rw [q.1, q.2]
    exact ⟨hi, hc, ho a e⟩
  · exact wl i1 c1 a e
theorem jxR1_addN {S : JS} {u : JX} {t0 : Nat} {b : Bool} (h : jxR1 S u) (ht : t0 < 1001) : jxR1 (jaddN S (nI t0) b) (jxsN (jxsM (jxsT u (upd (jxT u) (jN S) (nI t0))) (upd (jxM u) (jN S) (jbI b))) (nI (jN S + 1))) := by
  obtain ⟨rN, rT, rM, rU, rK, rP, rA, rL, rB⟩ := h
  refine ⟨rfl, fun i hi => ?_, fun i hi => ?_, rU, rK, rP, rA, rL, rB⟩
  · show upd (jxT u) (jN S) (nI t0) i = nI (if i = jN S then jv (nI t0) else jT S i)
    replace hi : i < jN S + 1 := hi
    by_cases q : i = jN S
    · rw [if_pos q, q, jv_nI (by omega)]; exact pk_us
    · rw [if_neg q, pk_un q]; exact rT i (by omega)
  · show upd (jxM u) (jN S) (jbI b) i = jbI (if i = jN S then b else jM S i)
    replace hi : i < jN S + 1 := hi
    by_cases q : i = jN S
    · rw [if_pos q, q]; exact pk_us
    · rw [if_neg q, pk_un q]; exact rM i (by omega)
theorem jxR1_addS {S : JS} {u : JX} {x0 a0 : Nat} (h : jxR1 S u) (hx : x0 < 60) (ha : a0 < 4) : jxR1 (jaddS S (nI x0) (nI a0)) (jxsK (jxsA (jxsP u (upd (jxP u) (jK S) (nI x0))) (upd (jxA u) (jK S) (nI a0))) (nI (jK S + 1))) := by
  obtain ⟨rN, rT, rM, rU, rK, rP, rA, rL, rB⟩ := h
  refine ⟨rN, rT, rM, rU, rfl, fun i hi => ?_, fun i hi => ?_, rL, rB⟩
  · show upd (jxP u) (jK S) (nI x0) i = nI (if i = jK S then jv (nI x0) else jP S i)
    replace hi : i < jK S + 1 := hi
    by_cases q : i = jK S
    · rw [if_pos q, q, jv_nI (by omega)]; exact pk_us
    · rw [if_neg q, pk_un q]; exact rP i (by omega)
  · show upd (jxA u) (jK S) (nI a0) i = nI (if i = jK S then jv (nI a0) else jA S i)
    replace hi : i < jK S + 1 := hi
    by_cases q : i = jK S
    · rw [if_pos q, q, jv_nI (by omega)]; exact pk_us
    · rw [if_neg q, pk_un q]; exact rA i (by omega)
theorem jxR1_setU {S : JS} {u : JX} {i j c0 : Nat} {o : Option Nat} {pa : Nat → Int32} (h : jxR1 S u) (hp : ∀ x1 c1, x1 < 60 → c1 < 14 → pa (x1 * 14 + c1) = jeI (if c1 = c0 ∧ i ≤ x1 ∧ x1 < j then o else jU S x1 c1)) : jxR1 (jsetU S i j c0 o) (jxsU u pa) := ⟨h.1, h.2.1, h.2.2.1, hp, h.2.2.2.2.1, h.2.2.2.2.2.1, h.2.2.2.2.2.2.1, h.2.2.2.2.2.2.2.1, h.2.2.2.2.2.2.2.2⟩
theorem jxR1_setL {S : JS} {u : JX} {i c0 : Nat} {o : Option Nat} (h : jxR1 S u) (hi : i < 8) (hc : c0 < 14) : jxR1 (jsetL S i c0 o) (jxsL u (upd (jxL u) (i * 14 + c0) (jeI o))) := by
  obtain ⟨rN, rT, rM, rU, rK, rP, rA, rL, rB⟩ := h
  refine ⟨rN, rT, rM, rU, rK, rP, rA, fun i1 c1 h1 h2 => ?_, rB⟩
  show upd (jxL u) (i * 14 + c0) (jeI o) (i1 * 14 + c1) = jeI (if i1 = i ∧ c1 = c0 then o else jL S i1 c1)
  by_cases q : i1 = i ∧ c1 = c0
  · rw [if_pos q, q.1, q.2]; exact pk_us
  · rw [if_neg q, pk_un (by omega)]; exact rL i1 c1 h1 h2
end
section
set_option maxRecDepth 100000 in
set_option maxHeartbeats 4000000 in
theorem jc_node (l : Launch) (hst9 : l.stackTraces = false) (D : va_G) (q : Nat → Nat) (cI cZ : ClassId) (S : JS) (u : JX) (hW9 : jWf S) (hS9 : jxR1 S u) (z : Int32) (b : Bool) : jkX l yX0_node wsX0_node ({ frames := 6, cells := 1, slots := 6, locals := 90 }) D vwCl (jxt cI cZ) jzs jtx (jxc q cI cZ) [.ref (q 0), .int z, .int (jbI b)] (jxc q cI cZ u) (fun r u1 => jcN S z = 0 ∧ nI (jN S) = r ∧ jxR1 (jaddN S z b) u1) (fun E u1 => u = u1 ∧ ((E = jEA ∧ jcN S z = 1) ∨ (E = jES ∧ jcN S z = 2))) := by
  refine jkX_of (cc := cX0_node) (maxL := 3) (ret := (some .int)) (by decide) rfl (Nat.le_of_ble_eq_true rfl) ?_
  intro p e R s m args below meth c Q A K hn9 hR9 hEx9 hZ9 hQ9
  obtain ⟨rN, rT, rM, rU, rK, rP, rA, rL, rB⟩ := id hS9
  obtain ⟨wn, wt, wu, wk, wp, wl, wb⟩ := id hW9
  have hu9 : ∀ w ∈ u_ws RX0 TX0 13, w ∈ wsX0_node := fun w h => List.mem_cons_of_mem _ (ku_X0 w h)
  show jaW p l e R s m args below meth c 0 0 Q D vwCl A 3 (jxc q cI cZ u) [(0, .ref (q 0)), (1, .int (z)), (2, .int (jbI (b)))] 0 []
  refine ja_iload_n K 1 dX0_node_0 rfl ?_
  refine ja_if_lt K (tgt := 11) (z < 0) dX0_node_1 (by decide) Iff.rfl (fun h1 => ?_) (fun h1 => ?_)
  · have f1 : jin z 1001 = false := jin_ff1 h1
    exact ja_throwS K (names := jnm) (text := "time is not 0 .. 1000") (u) hst9 hEx9 hZ9 (by decide +kernel) (by decide +kernel) (List.mem_cons_of_mem _ kcX0_57) (List.mem_cons_of_mem _ kini_IAE) (by decide +kernel) (fun w h => List.mem_cons_of_mem _ (jvA1 w h)) jvA2 jvA3 dX0_node_11 dX0_node_14 dX0_node_15 dX0_node_17 dX0_node_20 (by rw [hR9]; exact Nat.le_of_ble_eq_true rfl) (by rw [hR9]; exact Nat.le_of_ble_eq_true rfl) (by rw [hR9]; exact Nat.le_of_ble_eq_true rfl) (by rw [hR9]; exact Nat.le_of_ble_eq_true rfl) (Nat.le_of_ble_eq_true rfl) (Nat.le_of_ble_eq_true rfl) hQ9 rfl ⟨rfl, Or.inl ⟨rfl, by simp [jcN, h1, f1]⟩⟩
  · refine ja_iload_n K 1 dX0_node_4 rfl ?_
    refine ja_sipush K (nI 1000) dX0_node_5 (by decide) ?_
    refine ja_icmp_le K (tgt := 21) (z ≤ nI 1000) dX0_node_8 (by decide) Iff.rfl (fun h8 => ?_) (fun h8 => ?_)
    · have f8 : jin z 1001 = true := jin_le h1 h8
      obtain ⟨t0, ht0, rfl⟩ := jin_of f8 (by omega)
      refine ja_aload_n K 0 dX0_node_21 rfl ?_
      refine ja_get K hu9 0 rfl rfl 0 (by decide) (List.mem_cons_of_mem _ kfX0_7) rfl (congrArg (fun z9 => some (Value.int z9)) rN) dX0_node_22 ?_
      refine ja_bipush K (nI 14) dX0_node_25 (by decide) ?_
      refine ja_icmp_lt K (tgt := 40) ((jN S) < 14) dX0_node_27 (by decide) (nI_ltI (by omega) (by omega)) (fun h27 => ?_) (fun h27 => ?_)
      · refine ja_aload_n K 0 dX0_node_40 rfl ?_
        refine ja_get K hu9 0 rfl rfl 1 (by decide) (List.mem_cons_of_mem _ kfX0_13) rfl rfl dX0_node_41 ?_
        refine ja_aload_n K 0 dX0_node_44 rfl ?_
        refine ja_get K hu9 0 rfl rfl 0 (by decide) (List.mem_cons_of_mem _ kfX0_7) rfl (congrArg (fun z9 => some (Value.int z9)) rN) dX0_node_45 ?_
        refine ja_iload_n K 1 dX0_node_48 rfl ?_
        refine ja_iast K (ws1 := jxc q cI cZ (jxsT (u) (upd (jxT (u)) ((jN S)) (nI (t0))))) 1 0 rfl rfl ((jN S)) rfl (by omega) (by decide) dX0_node_49 rfl ?_
        refine ja_aload_n K 0 dX0_node_50 rfl ?_
        refine ja_get K hu9 0 rfl rfl 2 (by decide) (List.mem_cons_of_mem _ kfX0_17) rfl rfl dX0_node_51 ?_
        refine ja_aload_n K 0 dX0_node_54 rfl ?_
        refine ja_get K hu9 0 rfl rfl 0 (by decide) (List.mem_cons_of_mem _ kfX0_7) rfl (congrArg (fun z9 => some (Value.int z9)) rN) dX0_node_55 ?_
        refine ja_iload_n K 2 dX0_node_58 rfl ?_
        refine ja_zast K (ws1 := jxc q cI cZ (jxsM (jxsT (u) (upd (jxT (u)) ((jN S)) (nI (t0)))) (upd (jxM (jxsT (u) (upd (jxT (u)) ((jN S)) (nI (t0))))) ((jN S)) (jbI (b))))) 2 1 rfl rfl ((jN S)) (jbI_nar _) rfl (by omega) (by decide) dX0_node_59 rfl ?_
        refine ja_aload_n K 0 dX0_node_60 rfl ?_
        refine ja_dup K dX0_node_61 rfl ?_
        refine ja_get K hu9 0 rfl rfl 0 (by decide) (List.mem_cons_of_mem _ kfX0_7) rfl (congrArg (fun z9 => some (Value.int z9)) rN) dX0_node_62 ?_
        refine ja_iconst K (nI 1) dX0_node_65 (by decide) ?_
        refine ja_iadd K (nI (((jN S) + 1))) dX0_node_66 (nI_add _ _) ?_
        refine ja_put K (ws1 := jxc q cI cZ (jxsN (jxsM (jxsT (u) (upd (jxT (u)) ((jN S)) (nI (t0)))) (upd (jxM (jxsT (u) (upd (jxT (u)) ((jN S)) (nI (t0))))) ((jN S)) (jbI (b)))) (nI (((jN S) + 1))))) hu9 0 rfl rfl 0 (by decide) (List.mem_cons_of_mem _ kfX0_7) rfl tyX0 tyX0_ok nmX0 rfl rfl rfl rfl (Nat.le_of_ble_eq_true rfl) dX0_node_67 rfl ?_
        refine ja_aload_n K 0 dX0_node_70 rfl ?_
        refine ja_get K hu9 0 rfl rfl 0 (by decide) (List.mem_cons_of_mem _ kfX0_7) rfl rfl dX0_node_71 ?_
        refine ja_iconst K (nI 1) dX0_node_74 (by decide) ?_
        refine ja_isub K (nI ((((jN S) + 1) - 1))) dX0_node_75 (pk_sub (by omega)) ?_
        exact ja_iretX K (jxsN (jxsM (jxsT (u) (upd (jxT (u)) ((jN S)) (nI (t0)))) (upd (jxM (jxsT (u) (upd (jxT (u)) ((jN S)) (nI (t0))))) ((jN S)) (jbI (b)))) (nI (((jN S) + 1)))) rfl (by rfl) (Nat.zero_le _) (Nat.zero_le _) dX0_node_76 hQ9 rfl ⟨by simp [jcN, f8]; omega, rfl, jxR1_addN hS9 ht0⟩
      · have f27 : jN S = 14 := by omega
        exact ja_throwS K (names := jnm) (text := "there are 14 nodes") (u) hst9 hEx9 hZ9 (by decide +kernel) (by decide +kernel) (List.mem_cons_of_mem _ kcX0_64) (List.mem_cons_of_mem _ kini_ISE) (by decide +kernel) (fun w h => List.mem_cons_of_mem _ (jvS1 w h)) jvS2 jvS3 dX0_node_30 dX0_node_33 dX0_node_34 dX0_node_36 dX0_node_39 (by rw [hR9]; exact Nat.le_of_ble_eq_true rfl) (by rw [hR9]; exact Nat.le_of_ble_eq_true rfl) (by rw [hR9]; exact Nat.le_of_ble_eq_true rfl) (by rw [hR9]; exact Nat.le_of_ble_eq_true rfl) (Nat.le_of_ble_eq_true rfl) (Nat.le_of_ble_eq_true rfl) hQ9 rfl ⟨rfl, Or.inr (⟨rfl, by simp [jcN, f8, h27, f27]⟩)⟩
    · have f8 : jin z 1001 = false := jin_ff3 (by decide) h8
      exact ja_throwS K (names := jnm) (text := "time is not 0 .. 1000") (u) hst9 hEx9 hZ9 (by decide +kernel) (by decide +kernel) (List.mem_cons_of_mem _ kcX0_57) (List.mem_cons_of_mem _ kini_IAE) (by decide +kernel) (fun w h => List.mem_cons_of_mem _ (jvA1 w h)) jvA2 jvA3 dX0_node_11 dX0_node_14 dX0_node_15 dX0_node_17 dX0_node_20 (by rw [hR9]; exact Nat.le_of_ble_eq_true rfl) (by rw [hR9]; exact Nat.le_of_ble_eq_true rfl) (by rw [hR9]; exact Nat.le_of_ble_eq_true rfl) (by rw [hR9]; exact Nat.le_of_ble_eq_true rfl) (Nat.le_of_ble_eq_true rfl) (Nat.le_of_ble_eq_true rfl) hQ9 rfl ⟨rfl, Or.inl ⟨rfl, by simp [jcN, h1, h8, f8]⟩⟩
end
section
set_option maxRecDepth 100000 in
set_option maxHeartbeats 4000000 in
theorem jc_join (l : Launch) (hst9 : l.stackTraces = false) (D : va_G) (q : Nat → Nat) (cI cZ : ClassId) (S : JS) (u : JX) (hW9 : jWf S) (hS9 : jxR1 S u) (a b p9 c9 : Int32) : jkX l yX0_join wsX0_join ({ frames := 6, cells := 1, slots := 6, locals := 90 }) D vwCl (jxt cI cZ) jzs jtx (jxc q cI cZ) [.ref (q 0), .int a, .int b, .int p9, .int c9] (jxc q cI cZ u) (fun r u1 => jcJ S a b p9 c9 = 0 ∧ nI (jaU S (jv a) (jv b) (jv c9) (some (jv p9))) = r ∧ jxR1 (jsetU S (jv a) (jv b) (jv c9) (some (jv p9))) u1) (fun E u1 => u = u1 ∧ ((E = jEO ∧ jcJ S a b p9 c9 = 1) ∨ (E = jEA ∧ jcJ S a b p9 c9 = 2) ∨ (E = jES ∧ jcJ S a b p9 c9 = 3))) := by
  refine jkX_of (cc := cX0_join) (maxL := 5) (ret := (some .int)) (by decide) rfl (Nat.le_of_ble_eq_true rfl) ?_
  intro p e R s m args below meth c Q A K hn9 hR9 hEx9 hZ9 hQ9
  obtain ⟨rN, rT, rM, rU, rK, rP, rA, rL, rB⟩ := id hS9
  obtain ⟨wn, wt, wu, wk, wp, wl, wb⟩ := id hW9
  have hu9 : ∀ w ∈ u_ws RX0 TX0 13, w ∈ wsX0_join := fun w h => List.mem_cons_of_mem _ (ku_X0 w h)
  show jaW p l e R s m args below meth c 0 0 Q D vwCl A 5 (jxc q cI cZ u) [(0, .ref (q 0)), (1, .int (a)), (2, .int (b)), (3, .int (p9)), (4, .int (c9))] 0 []
  refine ja_iload_n K 1 dX0_join_0 rfl ?_
  refine ja_iload_n K 2 dX0_join_1 rfl ?_
  refine ja_callSI K (st := []) [.int (a), .int (b)] (jc_isRun l D q cI cZ (u) (a) (b)) (va_cwS 2 K.1.2.2.2.2 (gX0_X0_isRun _) rfl rfl rfl (by decide +kernel) (by rw [hR9]; exact ⟨Nat.le_of_ble_eq_true rfl, Nat.le_of_ble_eq_true rfl⟩)) rfl rfl rfl (Nat.le_of_ble_eq_true rfl) dX0_join_2 (by rw [hR9]; exact ⟨Nat.le_of_ble_eq_true rfl, Nat.le_of_ble_eq_true rfl⟩) (fun r9 u9 h9 => ?_)
  obtain ⟨rfl, rfl⟩ := h9
  refine ja_if_eq K (tgt := 25) (jrun (a) (b) = false) dX0_join_5 (by decide) (jbI_ne _) (fun h5 => ?_) (fun h5 => ?_)
  · exact ja_throwS K (names := jnm) (text := "no such places or node") (u) hst9 hEx9 hZ9 (by decide +kernel) (by decide +kernel) (List.mem_cons_of_mem _ kcX0_77) (List.mem_cons_of_mem _ kini_IOB) (by decide +kernel) (fun w h => List.mem_cons_of_mem _ (jvO1 w h)) jvO2 jvO3 dX0_join_25 dX0_join_28 dX0_join_29 dX0_join_31 dX0_join_34 (by rw [hR9]; exact Nat.le_of_ble_eq_true rfl) (by rw [hR9]; exact Nat.le_of_ble_eq_true rfl) (by rw [hR9]; exact Nat.le_of_ble_eq_true rfl) (by rw [hR9]; exact Nat.le_of_ble_eq_true rfl) (Nat.le_of_ble_eq_true rfl) (Nat.le_of_ble_eq_true rfl) hQ9 rfl ⟨rfl, Or.inl ⟨rfl, by simp [jcJ, h5]⟩⟩
  · refine ja_aload_n K 0 dX0_join_8 rfl ?_
    refine ja_iload_n K 3 dX0_join_9 rfl ?_
    refine ja_callVI K (q0 := 0) (qc := (RX0, TX0, 13)) (st := []) [.int (p9)] (jc_isNode l D q cI cZ S (u) hW9 hS9 (p9)) (cwV 1 K.1.2.2.2.2 (gX0_X0_isNode _) rfl rfl rfl (by decide +kernel) (by rw [hR9]; exact ⟨Nat.le_of_ble_eq_true rfl, Nat.le_of_ble_eq_true rfl⟩)) rfl rfl rfl rfl rfl (Nat.le_of_ble_eq_true rfl) dX0_join_10 (by rw [hR9]; exact ⟨Nat.le_of_ble_eq_true rfl, Nat.le_of_ble_eq_true rfl⟩) (fun r9 u9 h9 => ?_)
    obtain ⟨rfl, rfl⟩ := h9
    refine ja_if_eq K (tgt := 25) (jin (p9) (jN S) = false) dX0_join_13 (by decide) (jbI_ne _) (fun h13 => ?_) (fun h13 => ?_)
    · exact ja_throwS K (names := jnm) (text := "no such places or node") (u) hst9 hEx9 hZ9 (by decide +kernel) (by decide +kernel) (List.mem_cons_of_mem _ kcX0_77) (List.mem_cons_of_mem _ kini_IOB) (by decide +kernel) (fun w h => List.mem_cons_of_mem _ (jvO1 w h)) jvO2 jvO3 dX0_join_25 dX0_join_28 dX0_join_29 dX0_join_31 dX0_join_34 (by rw [hR9]; exact Nat.le_of_ble_eq_true rfl) (by rw [hR9]; exact Nat.le_of_ble_eq_true rfl) (by rw [hR9]; exact Nat.le_of_ble_eq_true rfl) (by rw [hR9]; exact Nat.le_of_ble_eq_true rfl) (Nat.le_of_ble_eq_true rfl) (Nat.le_of_ble_eq_true rfl) hQ9 rfl ⟨rfl, Or.inl ⟨rfl, by simp [jcJ, h5, h13]⟩⟩
    · refine ja_aload_n K 0 dX0_join_16 rfl ?_
      refine ja_iload K 4 dX0_join_17 rfl ?_
      refine ja_callVI K (q0 := 0) (qc := (RX0, TX0, 13)) (st := []) [.int (c9)] (jc_isNode l D q cI cZ S (u) hW9 hS9 (c9)) (cwV 1 K.1.2.2.2.2 (gX0_X0_isNode _) rfl rfl rfl (by decide +kernel) (by rw [hR9]; exact ⟨Nat.le_of_ble_eq_true rfl, Nat.le_of_ble_eq_true rfl⟩)) rfl rfl rfl rfl rfl (Nat.le_of_ble_eq_true rfl) dX0_join_19 (by rw [hR9]; exact ⟨Nat.le_of_ble_eq_true rfl, Nat.le_of_ble_eq_true rfl⟩) (fun r9 u9 h9 => ?_)
      obtain ⟨rfl, rfl⟩ := h9
      refine ja_if_ne K (tgt := 35) (jin (c9) (jN S) = true) dX0_join_22 (by decide) (jbI_nz _) (fun h22 => ?_) (fun h22 => ?_)
      · obtain ⟨i, j, hij, hj, rfl, rfl⟩ := jrun_of (by simpa using h5)
        have vi := jv_nI (n := i) (by omega)
        have vj := jv_nI (n := j) (by omega)
        obtain ⟨p0, hp0, rfl⟩ := jin_of (n := jN S) (by simpa using h13) (by omega)
        have vp0 := jv_nI (n := p0) (by omega)
        obtain ⟨c0, hc0, rfl⟩ := jin_of (n := jN S) (by simpa using h22) (by omega)
        have vc0 := jv_nI (n := c0) (by omega)
        have tp := wt p0 hp0
        have tc := wt c0 hc0
        refine ja_aload_n K 0 dX0_join_35 rfl ?_
        refine ja_get K hu9 0 rfl rfl 1 (by decide) (List.mem_cons_of_mem _ kfX0_13) rfl rfl dX0_join_36 ?_
        refine ja_iload_n K 3 dX0_join_39 rfl ?_
        refine ja_iald K (v := nI ((jT S (p0)))) 1 0 rfl rfl (p0) rfl (by omega) (by decide) (rT _ (by omega)) dX0_join_40 ?_
        refine ja_aload_n K 0 dX0_join_41 rfl ?_
        refine ja_get K hu9 0 rfl rfl 1 (by decide) (List.mem_cons_of_mem _ kfX0_13) rfl rfl dX0_join_42 ?_
        refine ja_iload K 4 dX0_join_45 rfl ?_
        refine ja_iald K (v := nI ((jT S (c0)))) 1 0 rfl rfl (c0) rfl (by omega) (by decide) (rT _ (by omega)) dX0_join_47 ?_
        refine ja_icmp_gt K (tgt := 61) ((jT S (c0)) < (jT S (p0))) dX0_join_48 (by decide) (nI_ltI (by omega) (by omega)) (fun h48 => ?_) (fun h48 => ?_)
        · refine ja_aload_n K 0 dX0_join_61 rfl ?_
          refine ja_iload_n K 1 dX0_join_62 rfl ?_
          refine ja_iload_n K 2 dX0_join_63 rfl ?_
          refine ja_iload_n K 3 dX0_join_64 rfl ?_
          refine ja_iload K 4 dX0_join_65 rfl ?_
          refine ja_callVI K (q0 := 0) (qc := (RX0, TX0, 13)) (st := []) [.int (nI (i)), .int (nI (j)), .int (nI (p0)), .int (nI (c0))] (jc_hasParentBeside l D q cI cZ S (u) hW9 hS9 (i) (j) (p0) (c0) (by omega) (by omega) (by omega) (by omega)) (cwV 4 K.1.2.2.2.2 (gX0_X0_hasParentBeside _) rfl rfl rfl (by decide +kernel) (by rw [hR9]; exact ⟨Nat.le_of_ble_eq_true rfl, Nat.le_of_ble_eq_true rfl⟩)) rfl rfl rfl rfl rfl (Nat.le_of_ble_eq_true rfl) dX0_join_67 (by rw [hR9]; exact ⟨Nat.le_of_ble_eq_true rfl, Nat.le_of_ble_eq_true rfl⟩) (fun r9 u9 h9 => ?_)
          obtain ⟨rfl, rfl⟩ := h9
          refine ja_if_eq K (tgt := 83) (jany (fun d => jU S (i + d) (c0) != none && jU S (i + d) (c0) != some (p0)) (j - i) = false) dX0_join_70 (by decide) (jbI_ne _) (fun h70 => ?_) (fun h70 => ?_)
          · have f70 : jbes S i j p0 c0 = false := h70
            refine ja_aload_n K 0 dX0_join_83 rfl ?_
            refine ja_iload_n K 1 dX0_join_84 rfl ?_
            refine ja_iload_n K 2 dX0_join_85 rfl ?_
            refine ja_iload K 4 dX0_join_86 rfl ?_
            refine ja_iload_n K 3 dX0_join_88 rfl ?_
            refine ja_callVI K (q0 := 0) (qc := (RX0, TX0, 13)) (st := []) [.int (nI (i)), .int (nI (j)), .int (nI (c0)), .int (nI (p0))] (jc_setParents l D q cI cZ S (u) hW9 hS9 (i) (j) (c0) (some (p0)) (by omega) (by omega) (by omega) (fun p9 h9 => by cases h9 <;> omega)) (cwV 4 K.1.2.2.2.2 (gX0_X0_setParents _) rfl rfl rfl (by decide +kernel) (by rw [hR9]; exact ⟨Nat.le_of_ble_eq_true rfl, Nat.le_of_ble_eq_true rfl⟩)) rfl rfl rfl rfl rfl (Nat.le_of_ble_eq_true rfl) dX0_join_89 (by rw [hR9]; exact ⟨Nat.le_of_ble_eq_true rfl, Nat.le_of_ble_eq_true rfl⟩) (fun r9 u9 h9 => ?_)
            obtain ⟨rfl, pa, rfl, hpa⟩ := h9
            exact ja_iretX K (jxsU (u) pa) rfl (by rfl) (Nat.zero_le _) (Nat.zero_le _) dX0_join_92 hQ9 rfl ⟨by simp [jcJ, h5, h13, h22, vi, vj, vp0, vc0, h48, h70, f70], by rw [vi, vj, vc0, vp0]; rfl, by rw [vi, vj, vc0, vp0]; exact jxR1_setU hS9 hpa⟩
          · have f70 : jbes S i j p0 c0 = true := eq_true_of_ne_false h70
            exact ja_throwS K (names := jnm) (text := "the child has another parent") (u) hst9 hEx9 hZ9 (by decide +kernel) (by decide +kernel) (List.mem_cons_of_mem _ kcX0_64) (List.mem_cons_of_mem _ kini_ISE) (by decide +kernel) (fun w h => List.mem_cons_of_mem _ (jvS1 w h)) jvS2 jvS3 dX0_join_73 dX0_join_76 dX0_join_77 dX0_join_79 dX0_join_82 (by rw [hR9]; exact Nat.le_of_ble_eq_true rfl) (by rw [hR9]; exact Nat.le_of_ble_eq_true rfl) (by rw [hR9]; exact Nat.le_of_ble_eq_true rfl) (by rw [hR9]; exact Nat.le_of_ble_eq_true rfl) (Nat.le_of_ble_eq_true rfl) (Nat.le_of_ble_eq_true rfl) hQ9 rfl ⟨rfl, Or.inr (Or.inr (⟨rfl, by simp [jcJ, h5, h13, h22, vi, vj, vp0, vc0, h48, h70, f70]⟩))⟩
        · exact ja_throwS K (names := jnm) (text := "the parent's time is not greater") (u) hst9 hEx9 hZ9 (by decide +kernel) (by decide +kernel) (List.mem_cons_of_mem _ kcX0_57) (List.mem_cons_of_mem _ kini_IAE) (by decide +kernel) (fun w h => List.mem_cons_of_mem _ (jvA1 w h)) jvA2 jvA3 dX0_join_51 dX0_join_54 dX0_join_55 dX0_join_57 dX0_join_60 (by rw [hR9]; exact Nat.le_of_ble_eq_true rfl) (by rw [hR9]; exact Nat.le_of_ble_eq_true rfl) (by rw [hR9]; exact Nat.le_of_ble_eq_true rfl) (by rw [hR9]; exact Nat.le_of_ble_eq_true rfl) (Nat.le_of_ble_eq_true rfl) (Nat.le_of_ble_eq_true rfl) hQ9 rfl ⟨rfl, Or.inr (Or.inl ⟨rfl, by simp [jcJ, h5, h13, h22, vi, vj, vp0, vc0, h48]⟩)⟩
      · exact ja_throwS K (names := jnm) (text := "no such places or node") (u) hst9 hEx9 hZ9 (by decide +kernel) (by decide +kernel) (List.mem_cons_of_mem _ kcX0_77) (List.mem_cons_of_mem _ kini_IOB) (by decide +kernel) (fun w h => List.mem_cons_of_mem _ (jvO1 w h)) jvO2 jvO3 dX0_join_25 dX0_join_28 dX0_join_29 dX0_join_31 dX0_join_34 (by rw [hR9]; exact Nat.le_of_ble_eq_true rfl) (by rw [hR9]; exact Nat.le_of_ble_eq_true rfl) (by rw [hR9]; exact Nat.le_of_ble_eq_true rfl) (by rw [hR9]; exact Nat.le_of_ble_eq_true rfl) (Nat.le_of_ble_eq_true rfl) (Nat.le_of_ble_eq_true rfl) hQ9 rfl ⟨rfl, Or.inl ⟨rfl, by simp [jcJ, h5, h13, h22]⟩⟩
end
section
set_option maxRecDepth 100000 in
set_option maxHeartbeats 4000000 in
theorem jc_part (l : Launch) (hst9 : l.stackTraces = false) (D : va_G) (q : Nat → Nat) (cI cZ : ClassId) (S : JS) (u : JX) (hW9 : jWf S) (hS9 : jxR1 S u) (a b c9 : Int32) : jkX l yX0_part wsX0_part ({ frames := 6, cells := 1, slots := 6, locals := 90 }) D vwCl (jxt cI cZ) jzs jtx (jxc q cI cZ) [.ref (q 0), .int a, .int b, .int c9] (jxc q cI cZ u) (fun r u1 => jcP S a b c9 = 0 ∧ nI (jaU S (jv a) (jv b) (jv c9) none) = r ∧ jxR1 (jsetU S (jv a) (jv b) (jv c9) none) u1) (fun E u1 => u = u1 ∧ ((E = jEO ∧ jcP S a b c9 = 1))) := by
  refine jkX_of (cc := cX0_part) (maxL := 4) (ret := (some .int)) (by decide) rfl (Nat.le_of_ble_eq_true rfl) ?_
  intro p e R s m args below meth c Q A K hn9 hR9 hEx9 hZ9 hQ9
  obtain ⟨rN, rT, rM, rU, rK, rP, rA, rL, rB⟩ := id hS9
  obtain ⟨wn, wt, wu, wk, wp, wl, wb⟩ := id hW9
  have hu9 : ∀ w ∈ u_ws RX0 TX0 13, w ∈ wsX0_part := fun w h => List.mem_cons_of_mem _ (ku_X0 w h)
  show jaW p l e R s m args below meth c 0 0 Q D vwCl A 4 (jxc q cI cZ u) [(0, .ref (q 0)), (1, .int (a)), (2, .int (b)), (3, .int (c9))] 0 []
  refine ja_iload_n K 1 dX0_part_0 rfl ?_
  refine ja_iload_n K 2 dX0_part_1 rfl ?_
  refine ja_callSI K (st := []) [.int (a), .int (b)] (jc_isRun l D q cI cZ (u) (a) (b)) (va_cwS 2 K.1.2.2.2.2 (gX0_X0_isRun _) rfl rfl rfl (by decide +kernel) (by rw [hR9]; exact ⟨Nat.le_of_ble_eq_true rfl, Nat.le_of_ble_eq_true rfl⟩)) rfl rfl rfl (Nat.le_of_ble_eq_true rfl) dX0_part_2 (by rw [hR9]; exact ⟨Nat.le_of_ble_eq_true rfl, Nat.le_of_ble_eq_true rfl⟩) (fun r9 u9 h9 => ?_)
  obtain ⟨rfl, rfl⟩ := h9
  refine ja_if_eq K (tgt := 16) (jrun (a) (b) = false) dX0_part_5 (by decide) (jbI_ne _) (fun h5 => ?_) (fun h5 => ?_)
  · exact ja_throwS K (names := jnm) (text := "no such places or node") (u) hst9 hEx9 hZ9 (by decide +kernel) (by decide +kernel) (List.mem_cons_of_mem _ kcX0_77) (List.mem_cons_of_mem _ kini_IOB) (by decide +kernel) (fun w h => List.mem_cons_of_mem _ (jvO1 w h)) jvO2 jvO3 dX0_part_16 dX0_part_19 dX0_part_20 dX0_part_22 dX0_part_25 (by rw [hR9]; exact Nat.le_of_ble_eq_true rfl) (by rw [hR9]; exact Nat.le_of_ble_eq_true rfl) (by rw [hR9]; exact Nat.le_of_ble_eq_true rfl) (by rw [hR9]; exact Nat.le_of_ble_eq_true rfl) (Nat.le_of_ble_eq_true rfl) (Nat.le_of_ble_eq_true rfl) hQ9 rfl ⟨rfl, ⟨rfl, by simp [jcP, h5]⟩⟩
  · refine ja_aload_n K 0 dX0_part_8 rfl ?_
    refine ja_iload_n K 3 dX0_part_9 rfl ?_
    refine ja_callVI K (q0 := 0) (qc := (RX0, TX0, 13)) (st := []) [.int (c9)] (jc_isNode l D q cI cZ S (u) hW9 hS9 (c9)) (cwV 1 K.1.2.2.2.2 (gX0_X0_isNode _) rfl rfl rfl (by decide +kernel) (by rw [hR9]; exact ⟨Nat.le_of_ble_eq_true rfl, Nat.le_of_ble_eq_true rfl⟩)) rfl rfl rfl rfl rfl (Nat.le_of_ble_eq_true rfl) dX0_part_10 (by rw [hR9]; exact ⟨Nat.le_of_ble_eq_true rfl, Nat.le_of_ble_eq_true rfl⟩) (fun r9 u9 h9 => ?_)
    obtain ⟨rfl, rfl⟩ := h9
    refine ja_if_ne K (tgt := 26) (jin (c9) (jN S) = true) dX0_part_13 (by decide) (jbI_nz _) (fun h13 => ?_) (fun h13 => ?_)
    · obtain ⟨i, j, hij, hj, rfl, rfl⟩ := jrun_of (by simpa using h5)
      have vi := jv_nI (n := i) (by omega)
      have vj := jv_nI (n := j) (by omega)
      obtain ⟨c0, hc0, rfl⟩ := jin_of (n := jN S) (by simpa using h13) (by omega)
      have vc0 := jv_nI (n := c0) (by omega)
      refine ja_aload_n K 0 dX0_part_26 rfl ?_
      refine ja_iload_n K 1 dX0_part_27 rfl ?_
      refine ja_iload_n K 2 dX0_part_28 rfl ?_
      refine ja_iload_n K 3 dX0_part_29 rfl ?_
      refine ja_iconst K (-1) dX0_part_30 (by decide) ?_
      refine ja_callVI K (q0 := 0) (qc := (RX0, TX0, 13)) (st := []) [.int (nI (i)), .int (nI (j)), .int (nI (c0)), .int (-1)] (jc_setParents l D q cI cZ S (u) hW9 hS9 (i) (j) (c0) (none) (by omega) (by omega) (by omega) (fun p9 h9 => by cases h9 <;> omega)) (cwV 4 K.1.2.2.2.2 (gX0_X0_setParents _) rfl rfl rfl (by decide +kernel) (by rw [hR9]; exact ⟨Nat.le_of_ble_eq_true rfl, Nat.le_of_ble_eq_true rfl⟩)) rfl rfl rfl rfl rfl (Nat.le_of_ble_eq_true rfl) dX0_part_31 (by rw [hR9]; exact ⟨Nat.le_of_ble_eq_true rfl, Nat.le_of_ble_eq_true rfl⟩) (fun r9 u9 h9 => ?_)
      obtain ⟨rfl, pa, rfl, hpa⟩ := h9
      exact ja_iretX K (jxsU (u) pa) rfl (by rfl) (Nat.zero_le _) (Nat.zero_le _) dX0_part_34 hQ9 rfl ⟨by simp [jcP, h5, h13, vi, vj, vc0], by rw [vi, vj, vc0]; rfl, by rw [vi, vj, vc0]; exact jxR1_setU hS9 hpa⟩
    · exact ja_throwS K (names := jnm) (text := "no such places or node") (u) hst9 hEx9 hZ9 (by decide +kernel) (by decide +kernel) (List.mem_cons_of_mem _ kcX0_77) (List.mem_cons_of_mem _ kini_IOB) (by decide +kernel) (fun w h => List.mem_cons_of_mem _ (jvO1 w h)) jvO2 jvO3 dX0_part_16 dX0_part_19 dX0_part_20 dX0_part_22 dX0_part_25 (by rw [hR9]; exact Nat.le_of_ble_eq_true rfl) (by rw [hR9]; exact Nat.le_of_ble_eq_true rfl) (by rw [hR9]; exact Nat.le_of_ble_eq_true rfl) (by rw [hR9]; exact Nat.le_of_ble_eq_true rfl) (Nat.le_of_ble_eq_true rfl) (Nat.le_of_ble_eq_true rfl) hQ9 rfl ⟨rfl, ⟨rfl, by simp [jcP, h5, h13]⟩⟩
end
section
set_option maxRecDepth 100000 in
set_option maxHeartbeats 4000000 in
theorem jc_site (l : Launch) (hst9 : l.stackTraces = false) (D : va_G) (q : Nat → Nat) (cI cZ : ClassId) (S : JS) (u : JX) (hW9 : jWf S) (hS9 : jxR1 S u) (x9 a : Int32) : jkX l yX0_site wsX0_site ({ frames := 6, cells := 1, slots := 6, locals := 90 }) D vwCl (jxt cI cZ) jzs jtx (jxc q cI cZ) [.ref (q 0), .int x9, .int a] (jxc q cI cZ u) (fun r u1 => jcS S x9 a = 0 ∧ nI (jK S) = r ∧ jxR1 (jaddS S x9 a) u1) (fun E u1 => u = u1 ∧ ((E = jEO ∧ jcS S x9 a = 1) ∨ (E = jEA ∧ jcS S x9 a = 2) ∨ (E = jES ∧ jcS S x9 a = 3))) := by
  refine jkX_of (cc := cX0_site) (maxL := 3) (ret := (some .int)) (by decide) rfl (Nat.le_of_ble_eq_true rfl) ?_
  intro p e R s m args below meth c Q A K hn9 hR9 hEx9 hZ9 hQ9
  obtain ⟨rN, rT, rM, rU, rK, rP, rA, rL, rB⟩ := id hS9
  obtain ⟨wn, wt, wu, wk, wp, wl, wb⟩ := id hW9
  have hu9 : ∀ w ∈ u_ws RX0 TX0 13, w ∈ wsX0_site := fun w h => List.mem_cons_of_mem _ (ku_X0 w h)
  show jaW p l e R s m args below meth c 0 0 Q D vwCl A 3 (jxc q cI cZ u) [(0, .ref (q 0)), (1, .int (x9)), (2, .int (a))] 0 []
  refine ja_iload_n K 1 dX0_site_0 rfl ?_
  refine ja_callSI K (st := []) [.int (x9)] (jc_isPlace l D q cI cZ (u) (x9)) (va_cwS 1 K.1.2.2.2.2 (gX0_X0_isPlace _) rfl rfl rfl (by decide +kernel) (by rw [hR9]; exact ⟨Nat.le_of_ble_eq_true rfl, Nat.le_of_ble_eq_true rfl⟩)) rfl rfl rfl (Nat.le_of_ble_eq_true rfl) dX0_site_1 (by rw [hR9]; exact ⟨Nat.le_of_ble_eq_true rfl, Nat.le_of_ble_eq_true rfl⟩) (fun r9 u9 h9 => ?_)
  obtain ⟨rfl, rfl⟩ := h9
  refine ja_if_ne K (tgt := 17) (jin (x9) 60 = true) dX0_site_4 (by decide) (jbI_nz _) (fun h4 => ?_) (fun h4 => ?_)
  · obtain ⟨x0, hx0, rfl⟩ := jin_of (n := 60) (by simpa using h4) (by omega)
    have vx0 := jv_nI (n := x0) (by omega)
    refine ja_iload_n K 2 dX0_site_17 rfl ?_
    refine ja_if_lt K (tgt := 34) (a < 0) dX0_site_18 (by decide) Iff.rfl (fun h18 => ?_) (fun h18 => ?_)
    · have f18 : jin a 4 = false := jin_ff1 h18
      exact ja_throwS K (names := jnm) (text := "no letter, or the place has a site") (u) hst9 hEx9 hZ9 (by decide +kernel) (by decide +kernel) (List.mem_cons_of_mem _ kcX0_57) (List.mem_cons_of_mem _ kini_IAE) (by decide +kernel) (fun w h => List.mem_cons_of_mem _ (jvA1 w h)) jvA2 jvA3 dX0_site_34 dX0_site_37 dX0_site_38 dX0_site_40 dX0_site_43 (by rw [hR9]; exact Nat.le_of_ble_eq_true rfl) (by rw [hR9]; exact Nat.le_of_ble_eq_true rfl) (by rw [hR9]; exact Nat.le_of_ble_eq_true rfl) (by rw [hR9]; exact Nat.le_of_ble_eq_true rfl) (Nat.le_of_ble_eq_true rfl) (Nat.le_of_ble_eq_true rfl) hQ9 rfl ⟨rfl, Or.inr (Or.inl ⟨rfl, by simp [jcS, h4, vx0, h18, f18]⟩)⟩
    · refine ja_iload_n K 2 dX0_site_21 rfl ?_
      refine ja_iconst K (nI 4) dX0_site_22 (by decide) ?_
      refine ja_icmp_ge K (tgt := 34) (nI 4 ≤ a) dX0_site_23 (by decide) Iff.rfl (fun h23 => ?_) (fun h23 => ?_)
      · have f23 : jin a 4 = false := jin_ff2 (by rw [Int32.lt_iff_toInt_lt]; rw [Int32.le_iff_toInt_le] at h23; omega)
        exact ja_throwS K (names := jnm) (text := "no letter, or the place has a site") (u) hst9 hEx9 hZ9 (by decide +kernel) (by decide +kernel) (List.mem_cons_of_mem _ kcX0_57) (List.mem_cons_of_mem _ kini_IAE) (by decide +kernel) (fun w h => List.mem_cons_of_mem _ (jvA1 w h)) jvA2 jvA3 dX0_site_34 dX0_site_37 dX0_site_38 dX0_site_40 dX0_site_43 (by rw [hR9]; exact Nat.le_of_ble_eq_true rfl) (by rw [hR9]; exact Nat.le_of_ble_eq_true rfl) (by rw [hR9]; exact Nat.le_of_ble_eq_true rfl) (by rw [hR9]; exact Nat.le_of_ble_eq_true rfl) (Nat.le_of_ble_eq_true rfl) (Nat.le_of_ble_eq_true rfl) hQ9 rfl ⟨rfl, Or.inr (Or.inl ⟨rfl, by simp [jcS, h4, vx0, h18, h23, f23]⟩)⟩
      · have f23 : jin a 4 = true := jin_tt h18 (by rw [Int32.lt_iff_toInt_lt]; rw [Int32.le_iff_toInt_le] at h23; omega)
        obtain ⟨a0, ha0, rfl⟩ := jin_of f23 (by omega)
        have va0 := jv_nI (n := a0) (by omega)
        refine ja_aload_n K 0 dX0_site_26 rfl ?_
        refine ja_iload_n K 1 dX0_site_27 rfl ?_
        refine ja_callVI K (q0 := 0) (qc := (RX0, TX0, 13)) (st := []) [.int (nI (x0))] (jc_hasSite l D q cI cZ S (u) hW9 hS9 (x0) (by omega)) (cwV 1 K.1.2.2.2.2 (gX0_X0_hasSite _) rfl rfl rfl (by decide +kernel) (by rw [hR9]; exact ⟨Nat.le_of_ble_eq_true rfl, Nat.le_of_ble_eq_true rfl⟩)) rfl rfl rfl rfl rfl (Nat.le_of_ble_eq_true rfl) dX0_site_28 (by rw [hR9]; exact ⟨Nat.le_of_ble_eq_true rfl, Nat.le_of_ble_eq_true rfl⟩) (fun r9 u9 h9 => ?_)
        obtain ⟨rfl, rfl⟩ := h9
        refine ja_if_eq K (tgt := 44) (jany (fun j => jP S j == (x0)) (jK S) = false) dX0_site_31 (by decide) (jbI_ne _) (fun h31 => ?_) (fun h31 => ?_)
        · have f31 : jtaken S x0 = false := h31
          refine ja_aload_n K 0 dX0_site_44 rfl ?_
          refine ja_get K hu9 0 rfl rfl 4 (by decide) (List.mem_cons_of_mem _ kfX0_24) rfl (congrArg (fun z9 => some (Value.int z9)) rK) dX0_site_45 ?_
          refine ja_bipush K (nI 8) dX0_site_48 (by decide) ?_
          refine ja_icmp_lt K (tgt := 63) ((jK S) < 8) dX0_site_50 (by decide) (nI_ltI (by omega) (by omega)) (fun h50 => ?_) (fun h50 => ?_)
          · have f50 : ¬ jK S = 8 := by omega
            refine ja_aload_n K 0 dX0_site_63 rfl ?_
            refine ja_get K hu9 0 rfl rfl 5 (by decide) (List.mem_cons_of_mem _ kfX0_27) rfl rfl dX0_site_64 ?_
            refine ja_aload_n K 0 dX0_site_67 rfl ?_
            refine ja_get K hu9 0 rfl rfl 4 (by decide) (List.mem_cons_of_mem _ kfX0_24) rfl (congrArg (fun z9 => some (Value.int z9)) rK) dX0_site_68 ?_
            refine ja_iload_n K 1 dX0_site_71 rfl ?_
            refine ja_iast K (ws1 := jxc q cI cZ (jxsP (u) (upd (jxP (u)) ((jK S)) (nI (x0))))) 4 0 rfl rfl ((jK S)) rfl (by omega) (by decide) dX0_site_72 rfl ?_
            refine ja_aload_n K 0 dX0_site_73 rfl ?_
            refine ja_get K hu9 0 rfl rfl 6 (by decide) (List.mem_cons_of_mem _ kfX0_30) rfl rfl dX0_site_74 ?_
            refine ja_aload_n K 0 dX0_site_77 rfl ?_
            refine ja_get K hu9 0 rfl rfl 4 (by decide) (List.mem_cons_of_mem _ kfX0_24) rfl (congrArg (fun z9 => some (Value.int z9)) rK) dX0_site_78 ?_
            refine ja_iload_n K 2 dX0_site_81 rfl ?_
            refine ja_iast K (ws1 := jxc q cI cZ (jxsA (jxsP (u) (upd (jxP (u)) ((jK S)) (nI (x0)))) (upd (jxA (jxsP (u) (upd (jxP (u)) ((jK S)) (nI (x0))))) ((jK S)) (nI (a0))))) 5 0 rfl rfl ((jK S)) rfl (by omega) (by decide) dX0_site_82 rfl ?_
            refine ja_aload_n K 0 dX0_site_83 rfl ?_
            refine ja_dup K dX0_site_84 rfl ?_
            refine ja_get K hu9 0 rfl rfl 4 (by decide) (List.mem_cons_of_mem _ kfX0_24) rfl (congrArg (fun z9 => some (Value.int z9)) rK) dX0_site_85 ?_
            refine ja_iconst K (nI 1) dX0_site_88 (by decide) ?_
            refine ja_iadd K (nI (((jK S) + 1))) dX0_site_89 (nI_add _ _) ?_
            refine ja_put K (ws1 := jxc q cI cZ (jxsK (jxsA (jxsP (u) (upd (jxP (u)) ((jK S)) (nI (x0)))) (upd (jxA (jxsP (u) (upd (jxP (u)) ((jK S)) (nI (x0))))) ((jK S)) (nI (a0)))) (nI (((jK S) + 1))))) hu9 0 rfl rfl 4 (by decide) (List.mem_cons_of_mem _ kfX0_24) rfl tyX0 tyX0_ok nmX0 rfl rfl rfl rfl (Nat.le_of_ble_eq_true rfl) dX0_site_90 rfl ?_
            refine ja_aload_n K 0 dX0_site_93 rfl ?_
            refine ja_get K hu9 0 rfl rfl 4 (by decide) (List.mem_cons_of_mem _ kfX0_24) rfl rfl dX0_site_94 ?_
            refine ja_iconst K (nI 1) dX0_site_97 (by decide) ?_
            refine ja_isub K (nI ((((jK S) + 1) - 1))) dX0_site_98 (pk_sub (by omega)) ?_
            exact ja_iretX K (jxsK (jxsA (jxsP (u) (upd (jxP (u)) ((jK S)) (nI (x0)))) (upd (jxA (jxsP (u) (upd (jxP (u)) ((jK S)) (nI (x0))))) ((jK S)) (nI (a0)))) (nI (((jK S) + 1)))) rfl (by rfl) (Nat.zero_le _) (Nat.zero_le _) dX0_site_99 hQ9 rfl ⟨by simp [jcS, h4, vx0, f23, va0, h31, f31, h50, f50], rfl, jxR1_addS hS9 hx0 ha0⟩
          · have f50 : jK S = 8 := by omega
            exact ja_throwS K (names := jnm) (text := "there are 8 sites") (u) hst9 hEx9 hZ9 (by decide +kernel) (by decide +kernel) (List.mem_cons_of_mem _ kcX0_64) (List.mem_cons_of_mem _ kini_ISE) (by decide +kernel) (fun w h => List.mem_cons_of_mem _ (jvS1 w h)) jvS2 jvS3 dX0_site_53 dX0_site_56 dX0_site_57 dX0_site_59 dX0_site_62 (by rw [hR9]; exact Nat.le_of_ble_eq_true rfl) (by rw [hR9]; exact Nat.le_of_ble_eq_true rfl) (by rw [hR9]; exact Nat.le_of_ble_eq_true rfl) (by rw [hR9]; exact Nat.le_of_ble_eq_true rfl) (Nat.le_of_ble_eq_true rfl) (Nat.le_of_ble_eq_true rfl) hQ9 rfl ⟨rfl, Or.inr (Or.inr (⟨rfl, by simp [jcS, h4, vx0, f23, va0, h31, f31, h50, f50]⟩))⟩
        · have f31 : jtaken S x0 = true := eq_true_of_ne_false h31
          exact ja_throwS K (names := jnm) (text := "no letter, or the place has a site") (u) hst9 hEx9 hZ9 (by decide +kernel) (by decide +kernel) (List.mem_cons_of_mem _ kcX0_57) (List.mem_cons_of_mem _ kini_IAE) (by decide +kernel) (fun w h => List.mem_cons_of_mem _ (jvA1 w h)) jvA2 jvA3 dX0_site_34 dX0_site_37 dX0_site_38 dX0_site_40 dX0_site_43 (by rw [hR9]; exact Nat.le_of_ble_eq_true rfl) (by rw [hR9]; exact Nat.le_of_ble_eq_true rfl) (by rw [hR9]; exact Nat.le_of_ble_eq_true rfl) (by rw [hR9]; exact Nat.le_of_ble_eq_true rfl) (Nat.le_of_ble_eq_true rfl) (Nat.le_of_ble_eq_true rfl) hQ9 rfl ⟨rfl, Or.inr (Or.inl ⟨rfl, by simp [jcS, h4, vx0, f23, va0, h31, f31]⟩)⟩
  · exact ja_throwS K (names := jnm) (text := "no such place") (u) hst9 hEx9 hZ9 (by decide +kernel) (by decide +kernel) (List.mem_cons_of_mem _ kcX0_77) (List.mem_cons_of_mem _ kini_IOB) (by decide +kernel) (fun w h => List.mem_cons_of_mem _ (jvO1 w h)) jvO2 jvO3 dX0_site_7 dX0_site_10 dX0_site_11 dX0_site_13 dX0_site_16 (by rw [hR9]; exact Nat.le_of_ble_eq_true rfl) (by rw [hR9]; exact Nat.le_of_ble_eq_true rfl) (by rw [hR9]; exact Nat.le_of_ble_eq_true rfl) (by rw [hR9]; exact Nat.le_of_ble_eq_true rfl) (Nat.le_of_ble_eq_true rfl) (Nat.le_of_ble_eq_true rfl) hQ9 rfl ⟨rfl, Or.inl ⟨rfl, by simp [jcS, h4]⟩⟩
end
section
set_option maxRecDepth 100000 in
set_option maxHeartbeats 4000000 in
theorem jc_mutate (l : Launch) (hst9 : l.stackTraces = false) (D : va_G) (q : Nat → Nat) (cI cZ : ClassId) (S : JS) (u : JX) (hW9 : jWf S) (hS9 : jxR1 S u) (i9 c9 z : Int32) : jkX l yX0_mutate wsX0_mutate ({ frames := 6, cells := 1, slots := 6, locals := 90 }) D vwCl (jxt cI cZ) jzs jtx (jxc q cI cZ) [.ref (q 0), .int i9, .int c9, .int z] (jxc q cI cZ u) (fun r u1 => jcM S i9 c9 z = 0 ∧ jeI (jL S (jv i9) (jv c9)) = r ∧ jxR1 (jsetL S (jv i9) (jv c9) (jlo z)) u1) (fun E u1 => u = u1 ∧ ((E = jEO ∧ jcM S i9 c9 z = 1) ∨ (E = jEA ∧ jcM S i9 c9 z = 2))) := by
  refine jkX_of (cc := cX0_mutate) (maxL := 5) (ret := (some .int)) (by decide) rfl (Nat.le_of_ble_eq_true rfl) ?_
  intro p e R s m args below meth c Q A K hn9 hR9 hEx9 hZ9 hQ9
  obtain ⟨rN, rT, rM, rU, rK, rP, rA, rL, rB⟩ := id hS9
  obtain ⟨wn, wt, wu, wk, wp, wl, wb⟩ := id hW9
  have hu9 : ∀ w ∈ u_ws RX0 TX0 13, w ∈ wsX0_mutate := fun w h => List.mem_cons_of_mem _ (ku_X0 w h)
  show jaW p l e R s m args below meth c 0 0 Q D vwCl A 5 (jxc q cI cZ u) [(0, .ref (q 0)), (1, .int (i9)), (2, .int (c9)), (3, .int (z))] 0 []
  refine ja_aload_n K 0 dX0_mutate_0 rfl ?_
  refine ja_iload_n K 1 dX0_mutate_1 rfl ?_
  refine ja_callVI K (q0 := 0) (qc := (RX0, TX0, 13)) (st := []) [.int (i9)] (jc_isSite l D q cI cZ S (u) hW9 hS9 (i9)) (cwV 1 K.1.2.2.2.2 (gX0_X0_isSite _) rfl rfl rfl (by decide +kernel) (by rw [hR9]; exact ⟨Nat.le_of_ble_eq_true rfl, Nat.le_of_ble_eq_true rfl⟩)) rfl rfl rfl rfl rfl (Nat.le_of_ble_eq_true rfl) dX0_mutate_2 (by rw [hR9]; exact ⟨Nat.le_of_ble_eq_true rfl, Nat.le_of_ble_eq_true rfl⟩) (fun r9 u9 h9 => ?_)
  obtain ⟨rfl, rfl⟩ := h9
  refine ja_if_eq K (tgt := 16) (jin (i9) (jK S) = false) dX0_mutate_5 (by decide) (jbI_ne _) (fun h5 => ?_) (fun h5 => ?_)
  · exact ja_throwS K (names := jnm) (text := "no such site or node") (u) hst9 hEx9 hZ9 (by decide +kernel) (by decide +kernel) (List.mem_cons_of_mem _ kcX0_77) (List.mem_cons_of_mem _ kini_IOB) (by decide +kernel) (fun w h => List.mem_cons_of_mem _ (jvO1 w h)) jvO2 jvO3 dX0_mutate_16 dX0_mutate_19 dX0_mutate_20 dX0_mutate_22 dX0_mutate_25 (by rw [hR9]; exact Nat.le_of_ble_eq_true rfl) (by rw [hR9]; exact Nat.le_of_ble_eq_true rfl) (by rw [hR9]; exact Nat.le_of_ble_eq_true rfl) (by rw [hR9]; exact Nat.le_of_ble_eq_true rfl) (Nat.le_of_ble_eq_true rfl) (Nat.le_of_ble_eq_true rfl) hQ9 rfl ⟨rfl, Or.inl ⟨rfl, by simp [jcM, h5]⟩⟩
  · refine ja_aload_n K 0 dX0_mutate_8 rfl ?_
    refine ja_iload_n K 2 dX0_mutate_9 rfl ?_
    refine ja_callVI K (q0 := 0) (qc := (RX0, TX0, 13)) (st := []) [.int (c9)] (jc_isNode l D q cI cZ S (u) hW9 hS9 (c9)) (cwV 1 K.1.2.2.2.2 (gX0_X0_isNode _) rfl rfl rfl (by decide +kernel) (by rw [hR9]; exact ⟨Nat.le_of_ble_eq_true rfl, Nat.le_of_ble_eq_true rfl⟩)) rfl rfl rfl rfl rfl (Nat.le_of_ble_eq_true rfl) dX0_mutate_10 (by rw [hR9]; exact ⟨Nat.le_of_ble_eq_true rfl, Nat.le_of_ble_eq_true rfl⟩) (fun r9 u9 h9 => ?_)
    obtain ⟨rfl, rfl⟩ := h9
    refine ja_if_ne K (tgt := 26) (jin (c9) (jN S) = true) dX0_mutate_13 (by decide) (jbI_nz _) (fun h13 => ?_) (fun h13 => ?_)
    · obtain ⟨i, hi, rfl⟩ := jin_of (n := jK S) (by simpa using h5) (by omega)
      have vi := jv_nI (n := i) (by omega)
      obtain ⟨c0, hc0, rfl⟩ := jin_of (n := jN S) (by simpa using h13) (by omega)
      have vc0 := jv_nI (n := c0) (by omega)
      refine ja_iload_n K 3 dX0_mutate_26 rfl ?_
      refine ja_iconst K (-1) dX0_mutate_27 (by decide) ?_
      refine ja_icmp_lt K (tgt := 36) (z < -1) dX0_mutate_28 (by decide) Iff.rfl (fun h28 => ?_) (fun h28 => ?_)
      · have f28 : z < -1 ∨ nI 4 ≤ z := Or.inl h28
        exact ja_throwS K (names := jnm) (text := "letter is not -1 .. 3") (u) hst9 hEx9 hZ9 (by decide +kernel) (by decide +kernel) (List.mem_cons_of_mem _ kcX0_57) (List.mem_cons_of_mem _ kini_IAE) (by decide +kernel) (fun w h => List.mem_cons_of_mem _ (jvA1 w h)) jvA2 jvA3 dX0_mutate_36 dX0_mutate_39 dX0_mutate_40 dX0_mutate_42 dX0_mutate_45 (by rw [hR9]; exact Nat.le_of_ble_eq_true rfl) (by rw [hR9]; exact Nat.le_of_ble_eq_true rfl) (by rw [hR9]; exact Nat.le_of_ble_eq_true rfl) (by rw [hR9]; exact Nat.le_of_ble_eq_true rfl) (Nat.le_of_ble_eq_true rfl) (Nat.le_of_ble_eq_true rfl) hQ9 rfl ⟨rfl, Or.inr (⟨rfl, by simp [jcM, h5, h13, vi, vc0, h28, f28]⟩)⟩
      · refine ja_iload_n K 3 dX0_mutate_31 rfl ?_
        refine ja_iconst K (nI 4) dX0_mutate_32 (by decide) ?_
        refine ja_icmp_lt K (tgt := 46) (z < nI 4) dX0_mutate_33 (by decide) Iff.rfl (fun h33 => ?_) (fun h33 => ?_)
        · have f33 : ¬ (z < -1 ∨ nI 4 ≤ z) := fun h => h.elim h28 (fun h => by rw [Int32.lt_iff_toInt_lt] at h33; rw [Int32.le_iff_toInt_le] at h; omega)
          obtain ⟨o, rfl, ho⟩ := jlo_of h28 h33
          refine ja_aload_n K 0 dX0_mutate_46 rfl ?_
          refine ja_get K hu9 0 rfl rfl 7 (by decide) (List.mem_cons_of_mem _ kfX0_33) rfl rfl dX0_mutate_47 ?_
          refine ja_iload_n K 1 dX0_mutate_50 rfl ?_
          refine ja_bipush K (nI 14) dX0_mutate_51 (by decide) ?_
          refine ja_imul K (nI ((i * 14))) dX0_mutate_53 (pk_mul _ _) ?_
          refine ja_iload_n K 2 dX0_mutate_54 rfl ?_
          refine ja_iadd K (nI (((i * 14) + c0))) dX0_mutate_55 (nI_add _ _) ?_
          refine ja_iald K (v := jeI (jL S (i) (c0))) 6 0 rfl rfl (((i * 14) + c0)) rfl (by omega) (by decide) (rL _ _ (by omega) (by omega)) dX0_mutate_56 ?_
          refine ja_istore K (lv1 := [(0, .ref (q 0)), (1, .int (nI (i))), (2, .int (nI (c0))), (3, .int (jeI (o))), (4, .int (jeI (jL S (i) (c0))))]) dX0_mutate_57 (by decide) rfl rfl ?_
          refine ja_aload_n K 0 dX0_mutate_59 rfl ?_
          refine ja_get K hu9 0 rfl rfl 7 (by decide) (List.mem_cons_of_mem _ kfX0_33) rfl rfl dX0_mutate_60 ?_
          refine ja_iload_n K 1 dX0_mutate_63 rfl ?_
          refine ja_bipush K (nI 14) dX0_mutate_64 (by decide) ?_
          refine ja_imul K (nI ((i * 14))) dX0_mutate_66 (pk_mul _ _) ?_
          refine ja_iload_n K 2 dX0_mutate_67 rfl ?_
          refine ja_iadd K (nI (((i * 14) + c0))) dX0_mutate_68 (nI_add _ _) ?_
          refine ja_iload_n K 3 dX0_mutate_69 rfl ?_
          refine ja_iast K (ws1 := jxc q cI cZ (jxsL (u) (upd (jxL (u)) (((i * 14) + c0)) (jeI (o))))) 6 0 rfl rfl (((i * 14) + c0)) rfl (by omega) (by decide) dX0_mutate_70 rfl ?_
          refine ja_iload K 4 dX0_mutate_71 rfl ?_
          exact ja_iretX K (jxsL (u) (upd (jxL (u)) (((i * 14) + c0)) (jeI (o)))) rfl (by rfl) (Nat.zero_le _) (Nat.zero_le _) dX0_mutate_73 hQ9 rfl ⟨by simp only [jcM, if_neg f33]; simp [h5, h13, vi, vc0, f33], by rw [vi, vc0], by rw [vi, vc0, jlo_eI ho]; exact jxR1_setL hS9 (by omega) (by omega)⟩
        · have f33 : z < -1 ∨ nI 4 ≤ z := Or.inr (by rw [Int32.lt_iff_toInt_lt] at h33; rw [Int32.le_iff_toInt_le]; omega)
          exact ja_throwS K (names := jnm) (text := "letter is not -1 .. 3") (u) hst9 hEx9 hZ9 (by decide +kernel) (by decide +kernel) (List.mem_cons_of_mem _ kcX0_57) (List.mem_cons_of_mem _ kini_IAE) (by decide +kernel) (fun w h => List.mem_cons_of_mem _ (jvA1 w h)) jvA2 jvA3 dX0_mutate_36 dX0_mutate_39 dX0_mutate_40 dX0_mutate_42 dX0_mutate_45 (by rw [hR9]; exact Nat.le_of_ble_eq_true rfl) (by rw [hR9]; exact Nat.le_of_ble_eq_true rfl) (by rw [hR9]; exact Nat.le_of_ble_eq_true rfl) (by rw [hR9]; exact Nat.le_of_ble_eq_true rfl) (Nat.le_of_ble_eq_true rfl) (Nat.le_of_ble_eq_true rfl) hQ9 rfl ⟨rfl, Or.inr (⟨rfl, by simp [jcM, h5, h13, vi, vc0, h28, h33, f33]⟩)⟩
    · exact ja_throwS K (names := jnm) (text := "no such site or node") (u) hst9 hEx9 hZ9 (by decide +kernel) (by decide +kernel) (List.mem_cons_of_mem _ kcX0_77) (List.mem_cons_of_mem _ kini_IOB) (by decide +kernel) (fun w h => List.mem_cons_of_mem _ (jvO1 w h)) jvO2 jvO3 dX0_mutate_16 dX0_mutate_19 dX0_mutate_20 dX0_mutate_22 dX0_mutate_25 (by rw [hR9]; exact Nat.le_of_ble_eq_true rfl) (by rw [hR9]; exact Nat.le_of_ble_eq_true rfl) (by rw [hR9]; exact Nat.le_of_ble_eq_true rfl) (by rw [hR9]; exact Nat.le_of_ble_eq_true rfl) (Nat.le_of_ble_eq_true rfl) (Nat.le_of_ble_eq_true rfl) hQ9 rfl ⟨rfl, Or.inl ⟨rfl, by simp [jcM, h5, h13]⟩⟩
end
section
set_option maxRecDepth 100000 in
set_option maxHeartbeats 4000000 in
theorem jc_time (l : Launch) (hst9 : l.stackTraces = false) (D : va_G) (q : Nat → Nat) (cI cZ : ClassId) (S : JS) (u : JX) (hW9 : jWf S) (hS9 : jxR1 S u) (c9 : Int32) : jkX l yX0_time wsX0_time ({ frames := 6, cells := 1, slots := 6, locals := 90 }) D vwCl (jxt cI cZ) jzs jtx (jxc q cI cZ) [.ref (q 0), .int c9] (jxc q cI cZ u) (fun r u1 => jin c9 (jN S) = true ∧ nI (jT S (jv c9)) = r ∧ u = u1) (fun E u1 => u = u1 ∧ E = jEO ∧ jin c9 (jN S) = false) := by
  refine jkX_of (cc := cX0_time) (maxL := 2) (ret := (some .int)) (by decide) rfl (Nat.le_of_ble_eq_true rfl) ?_
  intro p e R s m args below meth c Q A K hn9 hR9 hEx9 hZ9 hQ9
  obtain ⟨rN, rT, rM, rU, rK, rP, rA, rL, rB⟩ := id hS9
  obtain ⟨wn, wt, wu, wk, wp, wl, wb⟩ := id hW9
  have hu9 : ∀ w ∈ u_ws RX0 TX0 13, w ∈ wsX0_time := fun w h => List.mem_cons_of_mem _ (ku_X0 w h)
  show jaW p l e R s m args below meth c 0 0 Q D vwCl A 2 (jxc q cI cZ u) [(0, .ref (q 0)), (1, .int (c9))] 0 []
  refine ja_aload_n K 0 dX0_time_0 rfl ?_
  refine ja_iload_n K 1 dX0_time_1 rfl ?_
  refine ja_callVI K (q0 := 0) (qc := (RX0, TX0, 13)) (st := []) [.int (c9)] (jc_isNode l D q cI cZ S (u) hW9 hS9 (c9)) (cwV 1 K.1.2.2.2.2 (gX0_X0_isNode _) rfl rfl rfl (by decide +kernel) (by rw [hR9]; exact ⟨Nat.le_of_ble_eq_true rfl, Nat.le_of_ble_eq_true rfl⟩)) rfl rfl rfl rfl rfl (Nat.le_of_ble_eq_true rfl) dX0_time_2 (by rw [hR9]; exact ⟨Nat.le_of_ble_eq_true rfl, Nat.le_of_ble_eq_true rfl⟩) (fun r9 u9 h9 => ?_)
  obtain ⟨rfl, rfl⟩ := h9
  refine ja_if_ne K (tgt := 18) (jin (c9) (jN S) = true) dX0_time_5 (by decide) (jbI_nz _) (fun h5 => ?_) (fun h5 => ?_)
  · obtain ⟨c0, hc0, rfl⟩ := jin_of (n := jN S) (by simpa using h5) (by omega)
    have vc0 := jv_nI (n := c0) (by omega)
    refine ja_aload_n K 0 dX0_time_18 rfl ?_
    refine ja_get K hu9 0 rfl rfl 1 (by decide) (List.mem_cons_of_mem _ kfX0_13) rfl rfl dX0_time_19 ?_
    refine ja_iload_n K 1 dX0_time_22 rfl ?_
    refine ja_iald K (v := nI ((jT S (c0)))) 1 0 rfl rfl (c0) rfl (by omega) (by decide) (rT _ (by omega)) dX0_time_23 ?_
    exact ja_iretX K (u) rfl (by rfl) (Nat.zero_le _) (Nat.zero_le _) dX0_time_24 hQ9 rfl ⟨h5, by rw [vc0], rfl⟩
  · exact ja_throwS K (names := jnm) (text := "no such node") (u) hst9 hEx9 hZ9 (by decide +kernel) (by decide +kernel) (List.mem_cons_of_mem _ kcX0_77) (List.mem_cons_of_mem _ kini_IOB) (by decide +kernel) (fun w h => List.mem_cons_of_mem _ (jvO1 w h)) jvO2 jvO3 dX0_time_8 dX0_time_11 dX0_time_12 dX0_time_14 dX0_time_17 (by rw [hR9]; exact Nat.le_of_ble_eq_true rfl) (by rw [hR9]; exact Nat.le_of_ble_eq_true rfl) (by rw [hR9]; exact Nat.le_of_ble_eq_true rfl) (by rw [hR9]; exact Nat.le_of_ble_eq_true rfl) (Nat.le_of_ble_eq_true rfl) (Nat.le_of_ble_eq_true rfl) hQ9 rfl ⟨rfl, rfl, by simpa using h5⟩
end
section
set_option maxRecDepth 100000 in
set_option maxHeartbeats 4000000 in
theorem jc_parent (l : Launch) (hst9 : l.stackTraces = false) (D : va_G) (q : Nat → Nat) (cI cZ : ClassId) (S : JS) (u : JX) (hW9 : jWf S) (hS9 : jxR1 S u) (x9 c9 : Int32) : jkX l yX0_parent wsX0_parent ({ frames := 6, cells := 1, slots := 6, locals := 90 }) D vwCl (jxt cI cZ) jzs jtx (jxc q cI cZ) [.ref (q 0), .int x9, .int c9] (jxc q cI cZ u) (fun r u1 => (jin x9 60 && jin c9 (jN S)) = true ∧ jeI (jU S (jv x9) (jv c9)) = r ∧ u = u1) (fun E u1 => u = u1 ∧ E = jEO ∧ (jin x9 60 && jin c9 (jN S)) = false) := by
  refine jkX_of (cc := cX0_parent) (maxL := 3) (ret := (some .int)) (by decide) rfl (Nat.le_of_ble_eq_true rfl) ?_
  intro p e R s m args below meth c Q A K hn9 hR9 hEx9 hZ9 hQ9
  obtain ⟨rN, rT, rM, rU, rK, rP, rA, rL, rB⟩ := id hS9
  obtain ⟨wn, wt, wu, wk, wp, wl, wb⟩ := id hW9
  have hu9 : ∀ w ∈ u_ws RX0 TX0 13, w ∈ wsX0_parent := fun w h => List.mem_cons_of_mem _ (ku_X0 w h)
  show jaW p l e R s m args below meth c 0 0 Q D vwCl A 3 (jxc q cI cZ u) [(0, .ref (q 0)), (1, .int (x9)), (2, .int (c9))] 0 []
  refine ja_iload_n K 1 dX0_parent_0 rfl ?_
  refine ja_callSI K (st := []) [.int (x9)] (jc_isPlace l D q cI cZ (u) (x9)) (va_cwS 1 K.1.2.2.2.2 (gX0_X0_isPlace _) rfl rfl rfl (by decide +kernel) (by rw [hR9]; exact ⟨Nat.le_of_ble_eq_true rfl, Nat.le_of_ble_eq_true rfl⟩)) rfl rfl rfl (Nat.le_of_ble_eq_true rfl) dX0_parent_1 (by rw [hR9]; exact ⟨Nat.le_of_ble_eq_true rfl, Nat.le_of_ble_eq_true rfl⟩) (fun r9 u9 h9 => ?_)
  obtain ⟨rfl, rfl⟩ := h9
  refine ja_if_eq K (tgt := 15) (jin (x9) 60 = false) dX0_parent_4 (by decide) (jbI_ne _) (fun h4 => ?_) (fun h4 => ?_)
  · exact ja_throwS K (names := jnm) (text := "no such place or node") (u) hst9 hEx9 hZ9 (by decide +kernel) (by decide +kernel) (List.mem_cons_of_mem _ kcX0_77) (List.mem_cons_of_mem _ kini_IOB) (by decide +kernel) (fun w h => List.mem_cons_of_mem _ (jvO1 w h)) jvO2 jvO3 dX0_parent_15 dX0_parent_18 dX0_parent_19 dX0_parent_21 dX0_parent_24 (by rw [hR9]; exact Nat.le_of_ble_eq_true rfl) (by rw [hR9]; exact Nat.le_of_ble_eq_true rfl) (by rw [hR9]; exact Nat.le_of_ble_eq_true rfl) (by rw [hR9]; exact Nat.le_of_ble_eq_true rfl) (Nat.le_of_ble_eq_true rfl) (Nat.le_of_ble_eq_true rfl) hQ9 rfl ⟨rfl, rfl, by simp [h4]⟩
  · refine ja_aload_n K 0 dX0_parent_7 rfl ?_
    refine ja_iload_n K 2 dX0_parent_8 rfl ?_
    refine ja_callVI K (q0 := 0) (qc := (RX0, TX0, 13)) (st := []) [.int (c9)] (jc_isNode l D q cI cZ S (u) hW9 hS9 (c9)) (cwV 1 K.1.2.2.2.2 (gX0_X0_isNode _) rfl rfl rfl (by decide +kernel) (by rw [hR9]; exact ⟨Nat.le_of_ble_eq_true rfl, Nat.le_of_ble_eq_true rfl⟩)) rfl rfl rfl rfl rfl (Nat.le_of_ble_eq_true rfl) dX0_parent_9 (by rw [hR9]; exact ⟨Nat.le_of_ble_eq_true rfl, Nat.le_of_ble_eq_true rfl⟩) (fun r9 u9 h9 => ?_)
    obtain ⟨rfl, rfl⟩ := h9
    refine ja_if_ne K (tgt := 25) (jin (c9) (jN S) = true) dX0_parent_12 (by decide) (jbI_nz _) (fun h12 => ?_) (fun h12 => ?_)
    · obtain ⟨x0, hx0, rfl⟩ := jin_of (n := 60) (by simpa using h4) (by omega)
      have vx0 := jv_nI (n := x0) (by omega)
      obtain ⟨c0, hc0, rfl⟩ := jin_of (n := jN S) (by simpa using h12) (by omega)
      have vc0 := jv_nI (n := c0) (by omega)
      refine ja_aload_n K 0 dX0_parent_25 rfl ?_
      refine ja_iload_n K 1 dX0_parent_26 rfl ?_
      refine ja_iload_n K 2 dX0_parent_27 rfl ?_
      refine ja_callVI K (q0 := 0) (qc := (RX0, TX0, 13)) (st := []) [.int (nI (x0)), .int (nI (c0))] (jc_parentAt l D q cI cZ (u) (x0) (c0) (by omega) (by omega) (jU S (x0) (c0)) (rU _ _ (by omega) (by omega))) (cwV 2 K.1.2.2.2.2 (gX0_X0_parentAt _) rfl rfl rfl (by decide +kernel) (by rw [hR9]; exact ⟨Nat.le_of_ble_eq_true rfl, Nat.le_of_ble_eq_true rfl⟩)) rfl rfl rfl rfl rfl (Nat.le_of_ble_eq_true rfl) dX0_parent_28 (by rw [hR9]; exact ⟨Nat.le_of_ble_eq_true rfl, Nat.le_of_ble_eq_true rfl⟩) (fun r9 u9 h9 => ?_)
      obtain ⟨rfl, rfl⟩ := h9
      exact ja_iretX K (u) rfl (by rfl) (Nat.zero_le _) (Nat.zero_le _) dX0_parent_31 hQ9 rfl ⟨by simp at h4; simp [h4, h12], by rw [vx0, vc0], rfl⟩
    · exact ja_throwS K (names := jnm) (text := "no such place or node") (u) hst9 hEx9 hZ9 (by decide +kernel) (by decide +kernel) (List.mem_cons_of_mem _ kcX0_77) (List.mem_cons_of_mem _ kini_IOB) (by decide +kernel) (fun w h => List.mem_cons_of_mem _ (jvO1 w h)) jvO2 jvO3 dX0_parent_15 dX0_parent_18 dX0_parent_19 dX0_parent_21 dX0_parent_24 (by rw [hR9]; exact Nat.le_of_ble_eq_true rfl) (by rw [hR9]; exact Nat.le_of_ble_eq_true rfl) (by rw [hR9]; exact Nat.le_of_ble_eq_true rfl) (by rw [hR9]; exact Nat.le_of_ble_eq_true rfl) (Nat.le_of_ble_eq_true rfl) (Nat.le_of_ble_eq_true rfl) hQ9 rfl ⟨rfl, rfl, by simp [h4, h12]⟩
end
section
set_option maxRecDepth 100000 in
set_option maxHeartbeats 4000000 in
theorem jc_letter (l : Launch) (hst9 : l.stackTraces = false) (D : va_G) (q : Nat → Nat) (cI cZ : ClassId) (S : JS) (u : JX) (hW9 : jWf S) (hS9 : jxR1 S u) (i9 c9 : Int32) : jkX l yX0_letter wsX0_letter ({ frames := 6, cells := 1, slots := 6, locals := 90 }) D vwCl (jxt cI cZ) jzs jtx (jxc q cI cZ) [.ref (q 0), .int i9, .int c9] (jxc q cI cZ u) (fun r u1 => (jin i9 (jK S) && jin c9 (jN S)) = true ∧ nI (jlf S (jv i9) (jv c9)) = r ∧ u = u1) (fun E u1 => u = u1 ∧ E = jEO ∧ (jin i9 (jK S) && jin c9 (jN S)) = false) := by
  refine jkX_of (cc := cX0_letter) (maxL := 3) (ret := (some .int)) (by decide) rfl (Nat.le_of_ble_eq_true rfl) ?_
  intro p e R s m args below meth c Q A K hn9 hR9 hEx9 hZ9 hQ9
  obtain ⟨rN, rT, rM, rU, rK, rP, rA, rL, rB⟩ := id hS9
  obtain ⟨wn, wt, wu, wk, wp, wl, wb⟩ := id hW9
  have hu9 : ∀ w ∈ u_ws RX0 TX0 13, w ∈ wsX0_letter := fun w h => List.mem_cons_of_mem _ (ku_X0 w h)
  show jaW p l e R s m args below meth c 0 0 Q D vwCl A 3 (jxc q cI cZ u) [(0, .ref (q 0)), (1, .int (i9)), (2, .int (c9))] 0 []
  refine ja_aload_n K 0 dX0_letter_0 rfl ?_
  refine ja_iload_n K 1 dX0_letter_1 rfl ?_
  refine ja_callVI K (q0 := 0) (qc := (RX0, TX0, 13)) (st := []) [.int (i9)] (jc_isSite l D q cI cZ S (u) hW9 hS9 (i9)) (cwV 1 K.1.2.2.2.2 (gX0_X0_isSite _) rfl rfl rfl (by decide +kernel) (by rw [hR9]; exact ⟨Nat.le_of_ble_eq_true rfl, Nat.le_of_ble_eq_true rfl⟩)) rfl rfl rfl rfl rfl (Nat.le_of_ble_eq_true rfl) dX0_letter_2 (by rw [hR9]; exact ⟨Nat.le_of_ble_eq_true rfl, Nat.le_of_ble_eq_true rfl⟩) (fun r9 u9 h9 => ?_)
  obtain ⟨rfl, rfl⟩ := h9
  refine ja_if_eq K (tgt := 16) (jin (i9) (jK S) = false) dX0_letter_5 (by decide) (jbI_ne _) (fun h5 => ?_) (fun h5 => ?_)
  · exact ja_throwS K (names := jnm) (text := "no such site or node") (u) hst9 hEx9 hZ9 (by decide +kernel) (by decide +kernel) (List.mem_cons_of_mem _ kcX0_77) (List.mem_cons_of_mem _ kini_IOB) (by decide +kernel) (fun w h => List.mem_cons_of_mem _ (jvO1 w h)) jvO2 jvO3 dX0_letter_16 dX0_letter_19 dX0_letter_20 dX0_letter_22 dX0_letter_25 (by rw [hR9]; exact Nat.le_of_ble_eq_true rfl) (by rw [hR9]; exact Nat.le_of_ble_eq_true rfl) (by rw [hR9]; exact Nat.le_of_ble_eq_true rfl) (by rw [hR9]; exact Nat.le_of_ble_eq_true rfl) (Nat.le_of_ble_eq_true rfl) (Nat.le_of_ble_eq_true rfl) hQ9 rfl ⟨rfl, rfl, by simp [h5]⟩
  · refine ja_aload_n K 0 dX0_letter_8 rfl ?_
    refine ja_iload_n K 2 dX0_letter_9 rfl ?_
    refine ja_callVI K (q0 := 0) (qc := (RX0, TX0, 13)) (st := []) [.int (c9)] (jc_isNode l D q cI cZ S (u) hW9 hS9 (c9)) (cwV 1 K.1.2.2.2.2 (gX0_X0_isNode _) rfl rfl rfl (by decide +kernel) (by rw [hR9]; exact ⟨Nat.le_of_ble_eq_true rfl, Nat.le_of_ble_eq_true rfl⟩)) rfl rfl rfl rfl rfl (Nat.le_of_ble_eq_true rfl) dX0_letter_10 (by rw [hR9]; exact ⟨Nat.le_of_ble_eq_true rfl, Nat.le_of_ble_eq_true rfl⟩) (fun r9 u9 h9 => ?_)
    obtain ⟨rfl, rfl⟩ := h9
    refine ja_if_ne K (tgt := 26) (jin (c9) (jN S) = true) dX0_letter_13 (by decide) (jbI_nz _) (fun h13 => ?_) (fun h13 => ?_)
    · obtain ⟨i, hi, rfl⟩ := jin_of (n := jK S) (by simpa using h5) (by omega)
      have vi := jv_nI (n := i) (by omega)
      obtain ⟨c0, hc0, rfl⟩ := jin_of (n := jN S) (by simpa using h13) (by omega)
      have vc0 := jv_nI (n := c0) (by omega)
      refine ja_aload_n K 0 dX0_letter_26 rfl ?_
      refine ja_iload_n K 1 dX0_letter_27 rfl ?_
      refine ja_iload_n K 2 dX0_letter_28 rfl ?_
      refine ja_callVI K (q0 := 0) (qc := (RX0, TX0, 13)) (st := []) [.int (nI (i)), .int (nI (c0))] (jc_letterAt l D q cI cZ S (u) hW9 hS9 (i) (c0) (by omega) (by omega)) (cwV 2 K.1.2.2.2.2 (gX0_X0_letterAt _) rfl rfl rfl (by decide +kernel) (by rw [hR9]; exact ⟨Nat.le_of_ble_eq_true rfl, Nat.le_of_ble_eq_true rfl⟩)) rfl rfl rfl rfl rfl (Nat.le_of_ble_eq_true rfl) dX0_letter_29 (by rw [hR9]; exact ⟨Nat.le_of_ble_eq_true rfl, Nat.le_of_ble_eq_true rfl⟩) (fun r9 u9 h9 => ?_)
      obtain ⟨rfl, rfl⟩ := h9
      exact ja_iretX K (u) rfl (by rfl) (Nat.zero_le _) (Nat.zero_le _) dX0_letter_32 hQ9 rfl ⟨by simp at h5; simp [h5, h13], by rw [vi, vc0]; rfl, rfl⟩
    · exact ja_throwS K (names := jnm) (text := "no such site or node") (u) hst9 hEx9 hZ9 (by decide +kernel) (by decide +kernel) (List.mem_cons_of_mem _ kcX0_77) (List.mem_cons_of_mem _ kini_IOB) (by decide +kernel) (fun w h => List.mem_cons_of_mem _ (jvO1 w h)) jvO2 jvO3 dX0_letter_16 dX0_letter_19 dX0_letter_20 dX0_letter_22 dX0_letter_25 (by rw [hR9]; exact Nat.le_of_ble_eq_true rfl) (by rw [hR9]; exact Nat.le_of_ble_eq_true rfl) (by rw [hR9]; exact Nat.le_of_ble_eq_true rfl) (by rw [hR9]; exact Nat.le_of_ble_eq_true rfl) (Nat.le_of_ble_eq_true rfl) (Nat.le_of_ble_eq_true rfl) hQ9 rfl ⟨rfl, rfl, by simp [h5, h13]⟩
end
section
set_option maxRecDepth 100000 in
set_option maxHeartbeats 4000000 in
theorem jc_meet (l : Launch) (hst9 : l.stackTraces = false) (D : va_G) (q : Nat → Nat) (cI cZ : ClassId) (S : JS) (u : JX) (hW9 : jWf S) (hS9 : jxR1 S u) (x9 a9 b9 : Int32) : jkX l yX0_meet wsX0_meet ({ frames := 6, cells := 1, slots := 6, locals := 90 }) D vwCl (jxt cI cZ) jzs jtx (jxc q cI cZ) [.ref (q 0), .int x9, .int a9, .int b9] (jxc q cI cZ u) (fun r u1 => (jin x9 60 && jin a9 (jN S) && jin b9 (jN S)) = true ∧ jeI (jmeet (jU S (jv x9)) (jv a9) (jv b9)) = r ∧ u = u1) (fun E u1 => u = u1 ∧ E = jEO ∧ (jin x9 60 && jin a9 (jN S) && jin b9 (jN S)) = false) := by
  refine jkX_of (cc := cX0_meet) (maxL := 6) (ret := (some .int)) (by decide) rfl (Nat.le_of_ble_eq_true rfl) ?_
  intro p e R s m args below meth c Q A K hn9 hR9 hEx9 hZ9 hQ9
  obtain ⟨rN, rT, rM, rU, rK, rP, rA, rL, rB⟩ := id hS9
  obtain ⟨wn, wt, wu, wk, wp, wl, wb⟩ := id hW9
  have hu9 : ∀ w ∈ u_ws RX0 TX0 13, w ∈ wsX0_meet := fun w h => List.mem_cons_of_mem _ (ku_X0 w h)
  show jaW p l e R s m args below meth c 0 0 Q D vwCl A 6 (jxc q cI cZ u) [(0, .ref (q 0)), (1, .int (x9)), (2, .int (a9)), (3, .int (b9))] 0 []
  refine ja_iload_n K 1 dX0_meet_0 rfl ?_
  refine ja_callSI K (st := []) [.int (x9)] (jc_isPlace l D q cI cZ (u) (x9)) (va_cwS 1 K.1.2.2.2.2 (gX0_X0_isPlace _) rfl rfl rfl (by decide +kernel) (by rw [hR9]; exact ⟨Nat.le_of_ble_eq_true rfl, Nat.le_of_ble_eq_true rfl⟩)) rfl rfl rfl (Nat.le_of_ble_eq_true rfl) dX0_meet_1 (by rw [hR9]; exact ⟨Nat.le_of_ble_eq_true rfl, Nat.le_of_ble_eq_true rfl⟩) (fun r9 u9 h9 => ?_)
  obtain ⟨rfl, rfl⟩ := h9
  refine ja_if_eq K (tgt := 23) (jin (x9) 60 = false) dX0_meet_4 (by decide) (jbI_ne _) (fun h4 => ?_) (fun h4 => ?_)
  · exact ja_throwS K (names := jnm) (text := "no such place or node") (u) hst9 hEx9 hZ9 (by decide +kernel) (by decide +kernel) (List.mem_cons_of_mem _ kcX0_77) (List.mem_cons_of_mem _ kini_IOB) (by decide +kernel) (fun w h => List.mem_cons_of_mem _ (jvO1 w h)) jvO2 jvO3 dX0_meet_23 dX0_meet_26 dX0_meet_27 dX0_meet_29 dX0_meet_32 (by rw [hR9]; exact Nat.le_of_ble_eq_true rfl) (by rw [hR9]; exact Nat.le_of_ble_eq_true rfl) (by rw [hR9]; exact Nat.le_of_ble_eq_true rfl) (by rw [hR9]; exact Nat.le_of_ble_eq_true rfl) (Nat.le_of_ble_eq_true rfl) (Nat.le_of_ble_eq_true rfl) hQ9 rfl ⟨rfl, rfl, by simp [h4]⟩
  · refine ja_aload_n K 0 dX0_meet_7 rfl ?_
    refine ja_iload_n K 2 dX0_meet_8 rfl ?_
    refine ja_callVI K (q0 := 0) (qc := (RX0, TX0, 13)) (st := []) [.int (a9)] (jc_isNode l D q cI cZ S (u) hW9 hS9 (a9)) (cwV 1 K.1.2.2.2.2 (gX0_X0_isNode _) rfl rfl rfl (by decide +kernel) (by rw [hR9]; exact ⟨Nat.le_of_ble_eq_true rfl, Nat.le_of_ble_eq_true rfl⟩)) rfl rfl rfl rfl rfl (Nat.le_of_ble_eq_true rfl) dX0_meet_9 (by rw [hR9]; exact ⟨Nat.le_of_ble_eq_true rfl, Nat.le_of_ble_eq_true rfl⟩) (fun r9 u9 h9 => ?_)
    obtain ⟨rfl, rfl⟩ := h9
    refine ja_if_eq K (tgt := 23) (jin (a9) (jN S) = false) dX0_meet_12 (by decide) (jbI_ne _) (fun h12 => ?_) (fun h12 => ?_)
    · exact ja_throwS K (names := jnm) (text := "no such place or node") (u) hst9 hEx9 hZ9 (by decide +kernel) (by decide +kernel) (List.mem_cons_of_mem _ kcX0_77) (List.mem_cons_of_mem _ kini_IOB) (by decide +kernel) (fun w h => List.mem_cons_of_mem _ (jvO1 w h)) jvO2 jvO3 dX0_meet_23 dX0_meet_26 dX0_meet_27 dX0_meet_29 dX0_meet_32 (by rw [hR9]; exact Nat.le_of_ble_eq_true rfl) (by rw [hR9]; exact Nat.le_of_ble_eq_true rfl) (by rw [hR9]; exact Nat.le_of_ble_eq_true rfl) (by rw [hR9]; exact Nat.le_of_ble_eq_true rfl) (Nat.le_of_ble_eq_true rfl) (Nat.le_of_ble_eq_true rfl) hQ9 rfl ⟨rfl, rfl, by simp [h4, h12]⟩
    · refine ja_aload_n K 0 dX0_meet_15 rfl ?_
      refine ja_iload_n K 3 dX0_meet_16 rfl ?_
      refine ja_callVI K (q0 := 0) (qc := (RX0, TX0, 13)) (st := []) [.int (b9)] (jc_isNode l D q cI cZ S (u) hW9 hS9 (b9)) (cwV 1 K.1.2.2.2.2 (gX0_X0_isNode _) rfl rfl rfl (by decide +kernel) (by rw [hR9]; exact ⟨Nat.le_of_ble_eq_true rfl, Nat.le_of_ble_eq_true rfl⟩)) rfl rfl rfl rfl rfl (Nat.le_of_ble_eq_true rfl) dX0_meet_17 (by rw [hR9]; exact ⟨Nat.le_of_ble_eq_true rfl, Nat.le_of_ble_eq_true rfl⟩) (fun r9 u9 h9 => ?_)
      obtain ⟨rfl, rfl⟩ := h9
      refine ja_if_ne K (tgt := 33) (jin (b9) (jN S) = true) dX0_meet_20 (by decide) (jbI_nz _) (fun h20 => ?_) (fun h20 => ?_)
      · obtain ⟨x0, hx0, rfl⟩ := jin_of (n := 60) (by simpa using h4) (by omega)
        have vx0 := jv_nI (n := x0) (by omega)
        obtain ⟨a0, ha0, rfl⟩ := jin_of (n := jN S) (by simpa using h12) (by omega)
        have va0 := jv_nI (n := a0) (by omega)
        obtain ⟨b0, hb0, rfl⟩ := jin_of (n := jN S) (by simpa using h20) (by omega)
        have vb0 := jv_nI (n := b0) (by omega)
        refine ja_iload_n K 2 dX0_meet_33 rfl ?_
        refine ja_istore K (lv1 := [(0, .ref (q 0)), (1, .int (nI (x0))), (2, .int (nI (a0))), (3, .int (nI (b0))), (4, .int (nI (a0)))]) dX0_meet_34 (by decide) rfl rfl ?_
        refine ja_iconst K (nI 0) dX0_meet_36 (by decide) ?_
        refine ja_istore K (lv1 := [(0, .ref (q 0)), (1, .int (nI (x0))), (2, .int (nI (a0))), (3, .int (nI (b0))), (4, .int (nI (a0))), (5, .int (nI 0))]) dX0_meet_37 (by decide) rfl rfl ?_
        have L39 : ∀ (k : Nat) (d0 : Nat) (o : Option Nat), (k + d0 = 14 ∧ (∀ y, o = some y → y < jN S) ∧ jpF (jU S x0) (fun y => jhold (jU S x0) y b0) d0 o = jmeet (jU S x0) a0 b0) → jaW p l e R s m args below meth c 0 0 Q D vwCl A 6 (jxc q cI cZ u) [(0, .ref (q 0)), (1, .int (nI (x0))), (2, .int (nI (a0))), (3, .int (nI (b0))), (4, .int (jeI (o))), (5, .int (nI (k)))] 39 [] := by
          refine jl_3 (fun (k : Nat) (d0 : Nat) (o : Option Nat) => d0) (fun (k : Nat) (d0 : Nat) (o : Option Nat) => k + d0 = 14 ∧ (∀ y, o = some y → y < jN S) ∧ jpF (jU S x0) (fun y => jhold (jU S x0) y b0) d0 o = jmeet (jU S x0) a0 b0) _ ?_
          intro k d0 o hI39 IH39
          refine ja_iload K 5 dX0_meet_39 rfl ?_
          refine ja_bipush K (nI 14) dX0_meet_41 (by decide) ?_
          refine ja_icmp_ge K (tgt := 81) (14 ≤ k) dX0_meet_43 (by decide) (nI_leI (by omega) (by omega)) (fun h43 => ?_) (fun h43 => ?_)
          · obtain rfl : d0 = 0 := by omega
            refine ja_iconst K (-1) dX0_meet_81 (by decide) ?_
            exact ja_iretX K (u) rfl (by rfl) (Nat.zero_le _) (Nat.zero_le _) dX0_meet_82 hQ9 rfl ⟨by simp at h4 h12; simp [h4, h12, h20], by rw [vx0, va0, vb0, ← hI39.2.2]; simp [jpF, jeI], rfl⟩
          · obtain ⟨d, rfl⟩ : ∃ d1, d0 = d1 + 1 := ⟨d0 - 1, by omega⟩
            refine ja_iload K 4 dX0_meet_46 rfl ?_
            refine ja_iconst K (-1) dX0_meet_48 (by decide) ?_
            refine ja_icmp_eq K (tgt := 81) (o = none) dX0_meet_49 (by decide) (jeI_m1 (o := o) (fun p9 h9 => by have := hI39.2.1 p9 h9; omega)) (fun h49 => ?_) (fun h49 => ?_)
            · subst h49
              refine ja_iconst K (-1) dX0_meet_81 (by decide) ?_
              exact ja_iretX K (u) rfl (by rfl) (Nat.zero_le _) (Nat.zero_le _) dX0_meet_82 hQ9 rfl ⟨by simp at h4 h12; simp [h4, h12, h20], by rw [vx0, va0, vb0, ← hI39.2.2]; simp [jpF, jeI], rfl⟩
            · obtain ⟨y49, rfl⟩ := Option.ne_none_iff_exists'.mp h49
              have by49 := hI39.2.1 y49 rfl
              refine ja_aload_n K 0 dX0_meet_52 rfl ?_
              refine ja_iload_n K 1 dX0_meet_53 rfl ?_
              refine ja_iload K 4 dX0_meet_54 rfl ?_
              refine ja_iload_n K 3 dX0_meet_56 rfl ?_
              refine ja_callVI K (q0 := 0) (qc := (RX0, TX0, 13)) (st := []) [.int (nI (x0)), .int (nI (y49)), .int (nI (b0))] (jc_isAtOrAbove l D q cI cZ S (u) hW9 hS9 (x0) (y49) (b0) (by omega) (by omega) (by omega)) (cwV 3 K.1.2.2.2.2 (gX0_X0_isAtOrAbove _) rfl rfl rfl (by decide +kernel) (by rw [hR9]; exact ⟨Nat.le_of_ble_eq_true rfl, Nat.le_of_ble_eq_true rfl⟩)) rfl rfl rfl rfl rfl (Nat.le_of_ble_eq_true rfl) dX0_meet_57 (by rw [hR9]; exact ⟨Nat.le_of_ble_eq_true rfl, Nat.le_of_ble_eq_true rfl⟩) (fun r9 u9 h9 => ?_)
              obtain ⟨rfl, rfl⟩ := h9
              refine ja_if_eq K (tgt := 66) (jhold (jU S (x0)) (y49) (b0) = false) dX0_meet_60 (by decide) (jbI_ne _) (fun h60 => ?_) (fun h60 => ?_)
              · refine ja_aload_n K 0 dX0_meet_66 rfl ?_
                refine ja_iload_n K 1 dX0_meet_67 rfl ?_
                refine ja_iload K 4 dX0_meet_68 rfl ?_
                refine ja_callVI K (q0 := 0) (qc := (RX0, TX0, 13)) (st := []) [.int (nI (x0)), .int (nI (y49))] (jc_parentAt l D q cI cZ (u) (x0) (y49) (by omega) (by omega) (jU S (x0) (y49)) (rU _ _ (by omega) (by omega))) (cwV 2 K.1.2.2.2.2 (gX0_X0_parentAt _) rfl rfl rfl (by decide +kernel) (by rw [hR9]; exact ⟨Nat.le_of_ble_eq_true rfl, Nat.le_of_ble_eq_true rfl⟩)) rfl rfl rfl rfl rfl (Nat.le_of_ble_eq_true rfl) dX0_meet_70 (by rw [hR9]; exact ⟨Nat.le_of_ble_eq_true rfl, Nat.le_of_ble_eq_true rfl⟩) (fun r9 u9 h9 => ?_)
                obtain ⟨rfl, rfl⟩ := h9
                refine ja_istore K (lv1 := [(0, .ref (q 0)), (1, .int (nI (x0))), (2, .int (nI (a0))), (3, .int (nI (b0))), (4, .int (jeI (jU S (x0) (y49)))), (5, .int (nI (k)))]) dX0_meet_73 (by decide) rfl rfl ?_
                refine ja_iinc K (lv1 := [(0, .ref (q 0)), (1, .int (nI (x0))), (2, .int (nI (a0))), (3, .int (nI (b0))), (4, .int (jeI (jU S (x0) (y49)))), (5, .int (nI ((k + 1))))]) 5 (nI ((k + 1))) dX0_meet_75 rfl (ja_inc _) (by decide) rfl rfl ?_
                refine ja_goto K (tgt := 39) dX0_meet_78 (by decide) ?_
                have k9 := IH39 (k + 1) d (jU S x0 y49) ⟨by omega, fun z hz => (wu _ _ z hz).2.1, by rw [← hI39.2.2]; simp [jpF, h60]⟩ (by omega)
                exact k9
              · refine ja_iload K 4 dX0_meet_63 rfl ?_
                exact ja_iretX K (u) rfl (by rfl) (Nat.zero_le _) (Nat.zero_le _) dX0_meet_65 hQ9 rfl ⟨by simp at h4 h12; simp [h4, h12, h20], by rw [vx0, va0, vb0, ← hI39.2.2]; simp at h60; simp [jpF, h60, jeI], rfl⟩
        exact L39 0 14 (some a0) ⟨rfl, fun y h => (by cases h; exact ha0), rfl⟩
      · exact ja_throwS K (names := jnm) (text := "no such place or node") (u) hst9 hEx9 hZ9 (by decide +kernel) (by decide +kernel) (List.mem_cons_of_mem _ kcX0_77) (List.mem_cons_of_mem _ kini_IOB) (by decide +kernel) (fun w h => List.mem_cons_of_mem _ (jvO1 w h)) jvO2 jvO3 dX0_meet_23 dX0_meet_26 dX0_meet_27 dX0_meet_29 dX0_meet_32 (by rw [hR9]; exact Nat.le_of_ble_eq_true rfl) (by rw [hR9]; exact Nat.le_of_ble_eq_true rfl) (by rw [hR9]; exact Nat.le_of_ble_eq_true rfl) (by rw [hR9]; exact Nat.le_of_ble_eq_true rfl) (Nat.le_of_ble_eq_true rfl) (Nat.le_of_ble_eq_true rfl) hQ9 rfl ⟨rfl, rfl, by simp [h4, h12, h20]⟩
end
section
set_option maxRecDepth 100000 in
set_option maxHeartbeats 4000000 in
theorem jc_cut (l : Launch) (hst9 : l.stackTraces = false) (D : va_G) (q : Nat → Nat) (cI cZ : ClassId) (S : JS) (u : JX) (hW9 : jWf S) (hS9 : jxR1 S u) (z : Int32) : jkX l yX0_cut wsX0_cut ({ frames := 6, cells := 1, slots := 6, locals := 90 }) D vwCl (jxt cI cZ) jzs jtx (jxc q cI cZ) [.ref (q 0), .int z] (jxc q cI cZ u) (fun r u1 => (∃ x0, jcut S z = some x0 ∧ nI x0 = r) ∧ u = u1) (fun E u1 => u = u1 ∧ E = jEO ∧ jcut S z = none) := by
  refine jkX_of (cc := cX0_cut) (maxL := 4) (ret := (some .int)) (by decide) rfl (Nat.le_of_ble_eq_true rfl) ?_
  intro p e R s m args below meth c Q A K hn9 hR9 hEx9 hZ9 hQ9
  obtain ⟨rN, rT, rM, rU, rK, rP, rA, rL, rB⟩ := id hS9
  obtain ⟨wn, wt, wu, wk, wp, wl, wb⟩ := id hW9
  have hu9 : ∀ w ∈ u_ws RX0 TX0 13, w ∈ wsX0_cut := fun w h => List.mem_cons_of_mem _ (ku_X0 w h)
  show jaW p l e R s m args below meth c 0 0 Q D vwCl A 4 (jxc q cI cZ u) [(0, .ref (q 0)), (1, .int (z))] 0 []
  refine ja_iconst K (nI 0) dX0_cut_0 (by decide) ?_
  refine ja_istore_n K (lv1 := [(0, .ref (q 0)), (1, .int (z)), (2, .int (nI 0))]) dX0_cut_1 (by decide) rfl rfl ?_
  refine ja_iconst K (nI 0) dX0_cut_2 (by decide) ?_
  refine ja_istore_n K (lv1 := [(0, .ref (q 0)), (1, .int (z)), (2, .int (nI 0)), (3, .int (nI 0))]) dX0_cut_3 (by decide) rfl rfl ?_
  have L4 : ∀ (x : Nat), (x ≤ 60 ∧ jcf S z (60 - x) x = jcut S z) → jaW p l e R s m args below meth c 0 0 Q D vwCl A 4 (jxc q cI cZ u) [(0, .ref (q 0)), (1, .int (z)), (2, .int (nI ((jct (jsr S) x)))), (3, .int (nI (x)))] 4 [] := by
    refine jl_1 (fun (x : Nat) => 60 - x) (fun (x : Nat) => x ≤ 60 ∧ jcf S z (60 - x) x = jcut S z) _ ?_
    intro x hI4 IH4
    refine ja_iload_n K 3 dX0_cut_4 rfl ?_
    refine ja_bipush K (nI 60) dX0_cut_5 (by decide) ?_
    refine ja_icmp_ge K (tgt := 34) (60 ≤ x) dX0_cut_7 (by decide) (nI_leI (by omega) (by omega)) (fun h7 => ?_) (fun h7 => ?_)
    · refine ja_iload_n K 2 dX0_cut_34 rfl ?_
      refine ja_iload_n K 1 dX0_cut_35 rfl ?_
      refine ja_icmp_eq K (tgt := 49) (nI ((jct (jsr S) x)) = z) dX0_cut_36 (by decide) Iff.rfl (fun h36 => ?_) (fun h36 => ?_)
      · refine ja_bipush K (nI 60) dX0_cut_49 (by decide) ?_
        exact ja_iretX K (u) rfl (by rfl) (Nat.zero_le _) (Nat.zero_le _) dX0_cut_51 hQ9 rfl ⟨⟨60, by rw [← hI4.2, show 60 - x = 0 by omega]; simp only [jcf]; rw [if_pos (by rw [← h36, show x = 60 by omega])], rfl⟩, rfl⟩
      · exact ja_throwS K (names := jnm) (text := "no such run") (u) hst9 hEx9 hZ9 (by decide +kernel) (by decide +kernel) (List.mem_cons_of_mem _ kcX0_77) (List.mem_cons_of_mem _ kini_IOB) (by decide +kernel) (fun w h => List.mem_cons_of_mem _ (jvO1 w h)) jvO2 jvO3 dX0_cut_39 dX0_cut_42 dX0_cut_43 dX0_cut_45 dX0_cut_48 (by rw [hR9]; exact Nat.le_of_ble_eq_true rfl) (by rw [hR9]; exact Nat.le_of_ble_eq_true rfl) (by rw [hR9]; exact Nat.le_of_ble_eq_true rfl) (by rw [hR9]; exact Nat.le_of_ble_eq_true rfl) (Nat.le_of_ble_eq_true rfl) (Nat.le_of_ble_eq_true rfl) hQ9 rfl ⟨rfl, rfl, by rw [← hI4.2, show 60 - x = 0 by omega]; simp only [jcf]; rw [if_neg (by rw [show (60 : Nat) = x by omega]; exact h36)]⟩
    · refine ja_aload_n K 0 dX0_cut_10 rfl ?_
      refine ja_iload_n K 3 dX0_cut_11 rfl ?_
      refine ja_callVI K (q0 := 0) (qc := (RX0, TX0, 13)) (st := []) [.int (nI (x))] (jc_startsRun l D q cI cZ S (u) hW9 hS9 (x) (by omega)) (cwV 1 K.1.2.2.2.2 (gX0_X0_startsRun _) rfl rfl rfl (by decide +kernel) (by rw [hR9]; exact ⟨Nat.le_of_ble_eq_true rfl, Nat.le_of_ble_eq_true rfl⟩)) rfl rfl rfl rfl rfl (Nat.le_of_ble_eq_true rfl) dX0_cut_12 (by rw [hR9]; exact ⟨Nat.le_of_ble_eq_true rfl, Nat.le_of_ble_eq_true rfl⟩) (fun r9 u9 h9 => ?_)
      obtain ⟨rfl, rfl⟩ := h9
      refine ja_if_eq K (tgt := 28) (jsr S (x) = false) dX0_cut_15 (by decide) (jbI_ne _) (fun h15 => ?_) (fun h15 => ?_)
      · refine ja_iinc K (lv1 := [(0, .ref (q 0)), (1, .int (z)), (2, .int (nI ((jct (jsr S) x)))), (3, .int (nI ((x + 1))))]) 3 (nI ((x + 1))) dX0_cut_28 rfl (ja_inc _) (by decide) rfl rfl ?_
        refine ja_goto K (tgt := 4) dX0_cut_31 (by decide) ?_
        have e90 : jct (jsr S) (x + 1) = (jct (jsr S) x) := by simp [jct, h15]
        have k9 := IH4 (x + 1) ⟨by omega, by rw [← hI4.2, show 60 - x = (60 - (x + 1)) + 1 by omega]; simp only [jcf]; rw [if_neg (by simp [h15])]⟩ (by omega)
        rw [e90] at k9
        exact k9
      · refine ja_iload_n K 2 dX0_cut_18 rfl ?_
        refine ja_iload_n K 1 dX0_cut_19 rfl ?_
        refine ja_icmp_ne K (tgt := 25) (¬ nI ((jct (jsr S) x)) = z) dX0_cut_20 (by decide) Iff.rfl (fun h20 => ?_) (fun h20 => ?_)
        · refine ja_iinc K (lv1 := [(0, .ref (q 0)), (1, .int (z)), (2, .int (nI (((jct (jsr S) x) + 1)))), (3, .int (nI (x)))]) 2 (nI (((jct (jsr S) x) + 1))) dX0_cut_25 rfl (ja_inc _) (by decide) rfl rfl ?_
          refine ja_iinc K (lv1 := [(0, .ref (q 0)), (1, .int (z)), (2, .int (nI (((jct (jsr S) x) + 1)))), (3, .int (nI ((x + 1))))]) 3 (nI ((x + 1))) dX0_cut_28 rfl (ja_inc _) (by decide) rfl rfl ?_
          refine ja_goto K (tgt := 4) dX0_cut_31 (by decide) ?_
          have e90 : jct (jsr S) (x + 1) = ((jct (jsr S) x) + 1) := by simp [jct, h15]
          have k9 := IH4 (x + 1) ⟨by omega, by rw [← hI4.2, show 60 - x = (60 - (x + 1)) + 1 by omega]; simp only [jcf]; rw [if_neg (by simp [h20])]⟩ (by omega)
          rw [e90] at k9
          exact k9
        · refine ja_iload_n K 3 dX0_cut_23 rfl ?_
          exact ja_iretX K (u) rfl (by rfl) (Nat.zero_le _) (Nat.zero_le _) dX0_cut_24 hQ9 rfl ⟨⟨x, by rw [← hI4.2, show 60 - x = (59 - x) + 1 by omega]; simp only [jcf]; rw [if_pos ⟨by simpa using h15, by simpa using h20⟩], rfl⟩, rfl⟩
  exact L4 0 ⟨Nat.zero_le _, rfl⟩
end
section
/-! The making smaller on the component's side: its stages, as values. -/
def jxPh (S : JS) (i x : Nat) (u : JX) : Prop := jxN u = nI (jN S) ∧ (∀ i, i < jN S → jxT u i = nI (jT S i)) ∧ (∀ i, i < jN S → jxM u i = jbI (jM S i)) ∧ (∀ x1 c, x1 < 60 → c < 14 → jxU u (x1 * 14 + c) = jeI (if x1 < x then jU (jsmall S) x1 c else jU S x1 c)) ∧ jxK u = nI (jK S) ∧ (∀ i, i < jK S → jxP u i = nI (jP S i)) ∧ (∀ i, i < jK S → jxA u i = nI (jA S i)) ∧ (∀ i1 c, i1 < 8 → c < 14 → jxL u (i1 * 14 + c) = jeI (if i1 < i then jL (jsmall S) i1 c else jL S i1 c)) ∧ (∀ c, c < 14 → jxB u c = jeI (jB (jsmall S) c)) ∧ (∀ x1, x1 < 60 → ∃ B, jxG u x1 = nI B ∧ jbt S x1 B)
def jcmo (S : JS) (i : Nat) (own o : Option Nat) : Option Nat := match own with
  | some a => some a
  | none => match o with
    | none => none
    | some y => if jmatS S (jP S i) y then none else jL S i y
def jcmP (S : JS) (i y : Nat) : Bool := jmatS S (jP S i) y || (jL S i y).isSome
theorem jcome_eq (S : JS) (i c : Nat) : jcome S i c = jcmo S i (jL S i c) (jpF (jU S (jP S i)) (jcmP S i) 14 (jU S (jP S i) c)) := by
  simp only [jcome, jcmo, jcmP]
  cases jL S i c <;> rfl
theorem jcmo_step {S : JS} {i d y : Nat} (hm : jmatS S (jP S i) y = false) : jcmo S i (jL S i y) (jpF (jU S (jP S i)) (jcmP S i) d (jU S (jP S i) y)) = jcmo S i none (jpF (jU S (jP S i)) (jcmP S i) (d + 1) (some y)) := by
  cases e : jL S i y with
  | none => simp [jpF, jcmP, hm, e]
  | some a => simp [jpF, jcmP, hm, e, jcmo]
def jrowU (S : JS) (x : Nat) : Nat → Nat → Option Nat
  | 0, _ => none
  | c + 1, k => if jmatS S x c = true ∧ jrk S c = k then (jnear S x c).map (jrk S) else jrowU S x c k
def jrowL (S : JS) (i : Nat) : Nat → Nat → Option Nat
  | 0, _ => none
  | c + 1, k => if jmatS S (jP S i) c = true ∧ jrk S c = k then jcome S i c else jrowL S i c k
theorem jinv_lt {P : Nat → Bool} {m k : Nat} (hP : P m = true) (hk : jct P m = k) : jinv P m k = none := jinv_none (by omega)
theorem jrowU_eq {S : JS} {x : Nat} (hx : x < 60) (m k : Nat) : jrowU S x m k = (jinv (jstay S) m k).bind (jupN S x) := by
  induction m with
  | zero => rfl
  | succ m ih =>
    simp only [jrowU, jinv]
    by_cases hm : jmatS S x m = true
    · have hs := jstay_of hx hm
      by_cases q : jrk S m = k
      · rw [if_pos ⟨hm, q⟩, if_pos (by simp [hs]; exact q)]
        simp [jupN, hm]
      · rw [if_neg (fun h => q h.2), if_neg (by simp [hs]; exact q), ih]
    · rw [if_neg (fun h => hm h.1)]
      by_cases q : (jstay S m && jct (jstay S) m == k) = true
      · rw [if_pos q, ih]
        simp only [Bool.and_eq_true, beq_iff_eq] at q
        rw [jinv_lt q.1 q.2]
        simp [jupN, hm]
      · rw [if_neg q, ih]
theorem jrowL_eq {S : JS} {i : Nat} (hi : jP S i < 60) (m k : Nat) : jrowL S i m k = (jinv (jstay S) m k).bind (jmuN S i) := by
  induction m with
  | zero => rfl
  | succ m ih =>
    simp only [jrowL, jinv]
    by_cases hm : jmatS S (jP S i) m = true
    · have hs := jstay_of hi hm
      by_cases q : jrk S m = k
      · rw [if_pos ⟨hm, q⟩, if_pos (by simp [hs]; exact q)]
        simp [jmuN, hm]
      · rw [if_neg (fun h => q h.2), if_neg (by simp [hs]; exact q), ih]
    · rw [if_neg (fun h => hm h.1)]
      by_cases q : (jstay S m && jct (jstay S) m == k) = true
      · rw [if_pos q, ih]
        simp only [Bool.and_eq_true, beq_iff_eq] at q
        rw [jinv_lt q.1 q.2]
        simp [jmuN, hm]
      · rw [if_neg q, ih]
theorem jsm_U {S : JS} {x k : Nat} (hx : x < 60) : jU (jsmall S) x k = jrowU S x (jN S) k := by
  rw [jrowU_eq hx]
  show (if x < 60 then (jold S k).bind (jupN S x) else none) = _
  rw [if_pos hx]
  rfl
theorem jsm_L {S : JS} (h : jWf S) {i k : Nat} (hi : i < jK S) : jL (jsmall S) i k = jrowL S i (jN S) k := by
  rw [jrowL_eq (h.2.2.2.2.1 i hi).1]
  show (if i < jK S then (jold S k).bind (jmuN S i) else none) = _
  rw [if_pos hi]
  rfl
theorem jsm_B {S : JS} {c : Nat} (hc : c < jN S) (hs : jstay S c = true) : jB (jsmall S) c = some (jrk S c) := by
  show (if c < jN S ∧ jstay S c = true then some (jrk S c) else none) = _
  rw [if_pos ⟨hc, hs⟩]
theorem jsm_Bn {S : JS} {c : Nat} (hs : ¬ (c < jN S ∧ jstay S c = true)) : jB (jsmall S) c = none := by
  show (if c < jN S ∧ jstay S c = true then some (jrk S c) else none) = _
  rw [if_neg hs]
theorem jrk_lt {S : JS} (h : jWf S) {c : Nat} (hc : c < jN S) (hs : jstay S c = true) : jrk S c < 14 := by
  have a := jct_lt2 hc hs
  have b : jct (jstay S) (jN S) ≤ jN S := jct_le _ _
  have := h.1
  show jct (jstay S) c < 14
  omega
theorem jrk_le (S : JS) (c : Nat) : jrk S c ≤ c := jct_le _ _
/-- who stays, by bits -/
theorem jstayB {S : JS} (h : jWf S) {B : Nat} (hB : ∀ c, B.testBit c = (decide (c < jN S) && jstay S c)) : (∀ c, c ≤ jN S → jct (fun c1 => B.testBit c1) c = jrk S c) ∧ jct (fun c1 => B.testBit c1) 14 = jrk S (jN S) := by
  have a : ∀ c, c ≤ jN S → jct (fun c1 => B.testBit c1) c = jrk S c := fun c hc => jct_congr (fun k hk => by rw [hB]; simp; omega)
  refine ⟨a, ?_⟩
  rw [jct_trunc h.1 (fun k h1 _ => by rw [hB]; simp; omega)]
  exact a _ (Nat.le_refl _)
theorem jbt_at {S : JS} {x B c : Nat} (h : jbt S x B) (hc : c < jN S) : B.testBit c = jmatS S x c := by rw [h.2 c]; simp [hc]
/-- what the way up leaves behind it: a number below the height -/
theorem jup_h {S : JS} (h : jWf S) {x c y : Nat} (e : jU S x c = some y) (hc : c < jN S) : jht (jN S) (jT S) y < 13 := by
  have a := jht_up (jup_S h x) e
  have b := jht_lt (t := jT S) hc
  have := h.1
  omega
theorem jPh_L {S : JS} (h : jWf S) {i : Nat} {u : JX} {mu : Nat → Int32} (H : jxPh S i 0 u) (hi : i < jK S) (hm : ∀ k, k < 112 → mu k = if i * 14 ≤ k ∧ k < i * 14 + 14 then jeI (jrowL S i (jN S) (k - i * 14)) else jxL u k) (ro : Nat → Int32) : jxPh S (i + 1) 0 (jxsL (jxsR u ro) mu) := by
  obtain ⟨rN, rT, rM, rU, rK, rP, rA, rL, rB, rG⟩ := H
  refine ⟨rN, rT, rM, rU, rK, rP, rA, fun i1 c1 h1 h2 => ?_, rB, rG⟩
  show mu (i1 * 14 + c1) = _
  rw [hm _ (by omega)]
  by_cases q : i1 = i
  · subst q
    rw [if_pos (by omega), if_pos (by omega), jsm_L h hi, show i1 * 14 + c1 - i1 * 14 = c1 by omega]
  · rw [if_neg (by omega), rL i1 c1 h1 h2]
    by_cases q2 : i1 < i
    · rw [if_pos q2, if_pos (by omega)]
    · rw [if_neg q2, if_neg (by omega)]
theorem jPh_U {S : JS} {k x : Nat} {u : JX} {pa : Nat → Int32} (H : jxPh S k x u) (hx : x < 60) (hm : ∀ k, k < 840 → pa k = if x * 14 ≤ k ∧ k < x * 14 + 14 then jeI (jrowU S x (jN S) (k - x * 14)) else jxU u k) (ro : Nat → Int32) : jxPh S k (x + 1) (jxsU (jxsR u ro) pa) := by
  obtain ⟨rN, rT, rM, rU, rK, rP, rA, rL, rB, rG⟩ := H
  refine ⟨rN, rT, rM, fun x1 c1 h1 h2 => ?_, rK, rP, rA, rL, rB, rG⟩
  show pa (x1 * 14 + c1) = _
  rw [hm _ (by omega)]
  by_cases q : x1 = x
  · subst q
    rw [if_pos (by omega), if_pos (by omega), jsm_U hx, show x1 * 14 + c1 - x1 * 14 = c1 by omega]
  · rw [if_neg (by omega), rU x1 c1 h1 h2]
    by_cases q2 : x1 < x
    · rw [if_pos q2, if_pos (by omega)]
    · rw [if_neg q2, if_neg (by omega)]
theorem jcpy {f g : Nat → Int32} {d k : Nat} : va_cpy f g 0 d 14 k = if d ≤ k ∧ k < d + 14 then f (k - d) else g k := by
  simp only [va_cpy, Nat.zero_add]
theorem jcpy_row {f g F : Nat → Int32} {d k : Nat} (hf : ∀ j, j < 14 → f j = F j) : va_cpy f g 0 d 14 k = if d ≤ k ∧ k < d + 14 then F (k - d) else g k := by
  rw [jcpy]
  by_cases q : d ≤ k ∧ k < d + 14
  · rw [if_pos q, if_pos q, hf _ (by omega)]
  · rw [if_neg q, if_neg q]
/-- nodes that move down -/
def jxPn (S : JS) (i : Nat) (u : JX) : Prop := (∀ k, k < jrk S i → jxT u k = nI (jT (jsmall S) k)) ∧ (∀ k, k < jrk S i → jxM u k = jbI (jM (jsmall S) k)) ∧ (∀ k, i ≤ k → k < jN S → jxT u k = nI (jT S k)) ∧ (∀ k, i ≤ k → k < jN S → jxM u k = jbI (jM S k))
theorem jPn_0 {S : JS} {u : JX} (h1 : ∀ i, i < jN S → jxT u i = nI (jT S i)) (h2 : ∀ i, i < jN S → jxM u i = jbI (jM S i)) : jxPn S 0 u := ⟨fun k hk => absurd hk (Nat.not_lt_zero _), fun k hk => absurd hk (Nat.not_lt_zero _), fun k _ hk => h1 k hk, fun k _ hk => h2 k hk⟩
theorem jPn_stay {S : JS} {i : Nat} {u : JX} (h : jxPn S i u) (hi : i < jN S) (hs : jstay S i = true) {ti mi : Int32} (ht : ti = nI (jT S i)) (hm : mi = jbI (jM S i)) : jxPn S (i + 1) (jxsM (jxsT u (upd (jxT u) (jrk S i) ti)) (upd (jxM u) (jrk S i) mi)) := by
  obtain ⟨a, b, c, d⟩ := h
  subst ht
  subst hm
  have r1 : jrk S (i + 1) = jrk S i + 1 := by show jct (jstay S) i + _ = _; simp [hs]; rfl
  have ro := jold_of hi hs
  have le := jrk_le S i
  refine ⟨fun k hk => ?_, fun k hk => ?_, fun k h1 h2 => ?_, fun k h1 h2 => ?_⟩
  · show upd (jxT u) (jrk S i) (nI (jT S i)) k = _
    by_cases q : k = jrk S i
    · subst q
      rw [pk_us]
      show _ = nI (((jold S (jrk S i)).map (jT S)).getD 0)
      rw [ro]; rfl
    · rw [pk_un q]; exact a k (by omega)
  · show upd (jxM u) (jrk S i) (jbI (jM S i)) k = _
    by_cases q : k = jrk S i
    · subst q
      rw [pk_us]
      show _ = jbI (((jold S (jrk S i)).map (jM S)).getD false)
      rw [ro]; rfl
    · rw [pk_un q]; exact b k (by omega)
  · show upd (jxT u) (jrk S i) (nI (jT S i)) k = _
    rw [pk_un (by omega)]; exact c k (by omega) h2
  · show upd (jxM u) (jrk S i) (jbI (jM S i)) k = _
    rw [pk_un (by omega)]; exact d k (by omega) h2
theorem jPn_go {S : JS} {i : Nat} {u : JX} (h : jxPn S i u) (hs : jstay S i = false) : jxPn S (i + 1) u := by
  obtain ⟨a, b, c, d⟩ := h
  have r1 : jrk S (i + 1) = jrk S i := by show jct (jstay S) i + _ = _; simp [hs]; rfl
  exact ⟨fun k hk => a k (by omega), fun k hk => b k (by omega), fun k h1 h2 => c k (by omega) h2, fun k h1 h2 => d k (by omega) h2⟩
theorem jrowU_at {S : JS} {x c : Nat} (h : jmatS S x c = true) : jrowU S x (c + 1) (jrk S c) = (jnear S x c).map (jrk S) := by simp only [jrowU]; rw [if_pos ⟨h, trivial⟩]
theorem jrowU_ne {S : JS} {x c k : Nat} (h : ¬ k = jrk S c) : jrowU S x (c + 1) k = jrowU S x c k := by simp only [jrowU]; rw [if_neg (fun q => h q.2.symm)]
theorem jrowU_no {S : JS} {x c k : Nat} (h : jmatS S x c = false) : jrowU S x (c + 1) k = jrowU S x c k := by simp only [jrowU]; rw [if_neg (by simp [h])]
theorem jrowL_at {S : JS} {i c : Nat} (h : jmatS S (jP S i) c = true) : jrowL S i (c + 1) (jrk S c) = jcome S i c := by simp only [jrowL]; rw [if_pos ⟨h, trivial⟩]
theorem jrowL_ne {S : JS} {i c k : Nat} (h : ¬ k = jrk S c) : jrowL S i (c + 1) k = jrowL S i c k := by simp only [jrowL]; rw [if_neg (fun q => h q.2.symm)]
theorem jrowL_no {S : JS} {i c k : Nat} (h : jmatS S (jP S i) c = false) : jrowL S i (c + 1) k = jrowL S i c k := by simp only [jrowL]; rw [if_neg (by simp [h])]
theorem jPh_end {S : JS} (h : jWf S) {i x : Nat} {u : JX} {ta sa : Nat → Int32} (H : jxPh S i x u) (hi : jK S ≤ i) (hx : 60 ≤ x) (hn : jxPn S (jN S) (jxsM (jxsT u ta) sa)) : jxR1 (jsmall S) (jxsN (jxsM (jxsT u ta) sa) (nI (jrk S (jN S)))) := by
  obtain ⟨rN, rT, rM, rU, rK, rP, rA, rL, rB, rG⟩ := H
  refine ⟨rfl, fun k hk => hn.1 k hk, fun k hk => hn.2.1 k hk, fun x1 c1 h1 h2 => ?_, rK, rP, rA, fun i1 c1 h1 h2 => ?_, rB⟩
  · have h9 := rU x1 c1 h1 h2
    rw [if_pos (by omega)] at h9
    exact h9
  · have h9 := rL i1 c1 h1 h2
    by_cases q : i1 < i
    · rw [if_pos q] at h9; exact h9
    · rw [if_neg q] at h9
      have e1 : jL S i1 c1 = none := by
        cases e : jL S i1 c1 with
        | none => rfl
        | some a => have := (h.2.2.2.2.2.1 i1 c1 a e).1; omega
      have e2 : jL (jsmall S) i1 c1 = none := by
        cases e : jL (jsmall S) i1 c1 with
        | none => rfl
        | some a => have := ((jsmall_wf h).2.2.2.2.2.1 i1 c1 a e).1; have e3 : jK (jsmall S) = jK S := rfl; omega
      rw [e1] at h9
      rw [e2]
      exact h9
end
section
/-! System.arraycopy of ints, packed -/
section JA4
variable {p : Program} {l : Launch} {e : Env} {R : Room} {s : State} {m : MethodId} {args : Array Value} {below : List Frame} {meth : Method} {c : Code} {cells slots : Nat} {Q : State → Prop}
variable {D : va_G} {cl : List vw_C} {tys : List (ClassId × FieldType)} {A : Nat → Prop} {nL : Nat} {cc : ByteArray} {Ts : List Cond} {own : String} {ret : Option FieldType} {ws : va_W} {lv : List (Nat × Value)} {pc : Nat} {st : List Value}
theorem ja_copy (K : jaC p s m args meth c D cl tys cc nL Ts own ret A) {index : Nat} (hl1 : Cond.methodLink own index arraycopyName ∈ Ts) (hl2 : Cond.native arraycopyName ∈ Ts) (hl3 : Cond.static arraycopyName ∈ Ts) (hl4 : Cond.initialized "java/lang/System" ∈ Ts) (q0 q1 t0 : Nat) {a a0 : Nat} {cA : ClassId} {n0 n1 : Nat} {f g : Nat → Int32} {ws1 : va_W} (ha0 : ws[q0]? = some (a0, .inl (cA, n0, .inl f))) (ha1 : ws[q1]? = some (a, .inl (cA, n1, .inl g))) (ht0 : tys[t0]? = some (cA, .int)) {sp dp n : Int32} (sp0 dp0 k0 : Nat) (h1 : sp = nI sp0) (h2 : dp = nI dp0) (h3 : n = nI k0) (h4 : sp0 + k0 ≤ n0) (h5 : dp0 + k0 ≤ n1) (hn0 : n0 < 2 ^ 31) (hn1 : n1 < 2 ^ 31) (hframes : 1 ≤ R.frames) (hlocals : (st.map fun v => v.category).sum + (nativeFrameWords "java/lang/System" "arraycopy" 5 + 11) ≤ R.locals) (hd : decode cc pc = .ok (.invokestatic index, 3)) (hw : ws.set q1 (a, .inl (cA, n1, .inl (va_cpy f g sp0 dp0 k0))) = ws1) (k : jaW p l e R s m args below meth c cells slots Q D cl A nL ws1 lv (pc + 3) st) : jaW p l e R s m args below meth c cells slots Q D cl A nL ws lv pc (Value.int n :: Value.int dp :: Value.ref a :: Value.int sp :: Value.ref a0 :: st) := by
  subst h1
  subst h2
  subst h3
  intro H L ls hP hD hS hl
  have e1 : (nI sp0).toNatClampNeg = sp0 := nI_clamp (by omega)
  have e2 : (nI dp0).toNatClampNeg = dp0 := nI_clamp (by omega)
  have e3 : (nI k0).toNatClampNeg = k0 := nI_clamp (by omega)
  refine va_copyi K.1.1 K.1.2.1 (K.1.2.2.1.trans hl.1.symm) K.1.2.2.2.1 (K.1.2.2.2.2 _ hl1) (K.1.2.2.2.2 _ hl2) (K.1.2.2.2.2 _ hl3) (K.1.2.2.2.2 _ hl4) K.2.1 hP hD hS q0 q1 t0 t0 ha0 ha1 ht0 ht0 rfl (nI_pos (by omega)) (nI_pos (by omega)) (nI_pos (by omega)) (by rw [e1, e3]; exact h4) (by rw [e2, e3]; exact h5) (fun i _ => rfl) hframes hlocals hd ?_
  rw [e1, e2, e3, hw]
  exact fun H1 L1 hP1 hD1 hS1 => k H1 L1 ls hP1 hD1 hS1 hl
end JA4
end
section
set_option maxRecDepth 100000 in
set_option maxHeartbeats 4000000 in
theorem jc_renumber (l : Launch) (D : va_G) (q : Nat → Nat) (cI cZ : ClassId) (u : JX) (B : Nat) (hB : B < 16384) : jkI l yX0_renumber wsX0_renumber ({ frames := 0, cells := 0, slots := 0, locals := 0 }) D vwCl (jxt cI cZ) (jxc q cI cZ) [.ref (q 0), .int (nI B)] (jxc q cI cZ u) (fun r u1 => nI (jct (fun c1 => B.testBit c1) 14) = r ∧ ∃ nb, u1 = jxsB u nb ∧ ∀ c1, c1 < 14 → nb c1 = jeI (if B.testBit c1 = true then some (jct (fun c1 => B.testBit c1) c1) else none)) := by
  refine jkI_of (cc := cX0_renumber) (maxL := 4) (ret := (some .int)) (by decide) rfl (Nat.le_of_ble_eq_true rfl) ?_
  intro p e R s m args below meth c Q A K hn9 hR9 hQ9
  have hu9 : ∀ w ∈ u_ws RX0 TX0 13, w ∈ wsX0_renumber := fun w h => List.mem_cons_of_mem _ (ku_X0 w h)
  show jaW p l e R s m args below meth c 0 0 Q D vwCl A 4 (jxc q cI cZ u) [(0, .ref (q 0)), (1, .int (nI (B)))] 0 []
  refine ja_iconst K (nI 0) dX0_renumber_0 (by decide) ?_
  refine ja_istore_n K (lv1 := [(0, .ref (q 0)), (1, .int (nI (B))), (2, .int (nI 0))]) dX0_renumber_1 (by decide) rfl rfl ?_
  refine ja_iconst K (nI 0) dX0_renumber_2 (by decide) ?_
  refine ja_istore_n K (lv1 := [(0, .ref (q 0)), (1, .int (nI (B))), (2, .int (nI 0)), (3, .int (nI 0))]) dX0_renumber_3 (by decide) rfl rfl ?_
  have L4 : ∀ (i : Nat) (nb : Nat → Int32), (i ≤ 14 ∧ ∀ c1, c1 < i → nb c1 = jeI (if B.testBit c1 = true then some (jct (fun c1 => B.testBit c1) c1) else none)) → jaW p l e R s m args below meth c 0 0 Q D vwCl A 4 (jxc q cI cZ (jxsB u nb)) [(0, .ref (q 0)), (1, .int (nI (B))), (2, .int (nI ((jct (fun c1 => B.testBit c1) i)))), (3, .int (nI (i)))] 4 [] := by
    refine jl_2 (fun (i : Nat) (nb : Nat → Int32) => 14 - i) (fun (i : Nat) (nb : Nat → Int32) => i ≤ 14 ∧ ∀ c1, c1 < i → nb c1 = jeI (if B.testBit c1 = true then some (jct (fun c1 => B.testBit c1) c1) else none)) _ ?_
    intro i nb hI4 IH4
    refine ja_iload_n K 3 dX0_renumber_4 rfl ?_
    refine ja_bipush K (nI 14) dX0_renumber_5 (by decide) ?_
    refine ja_icmp_ge K (tgt := 45) (14 ≤ i) dX0_renumber_7 (by decide) (nI_leI (by omega) (by omega)) (fun h7 => ?_) (fun h7 => ?_)
    · refine ja_iload_n K 2 dX0_renumber_45 rfl ?_
      exact ja_iret K (jxsB u nb) rfl (Nat.zero_le _) (Nat.zero_le _) dX0_renumber_46 hQ9 rfl ⟨by rw [show i = 14 by omega], nb, rfl, fun c1 h1 => hI4.2 c1 (by omega)⟩
    · refine ja_iload_n K 1 dX0_renumber_10 rfl ?_
      refine ja_iload_n K 3 dX0_renumber_11 rfl ?_
      refine ja_ishr K ((nI (B) >>> (nI (i) &&& 31))) dX0_renumber_12 rfl ?_
      refine ja_iconst K (nI 1) dX0_renumber_13 (by decide) ?_
      refine ja_iand K (((nI (B) >>> (nI (i) &&& 31)) &&& nI 1)) dX0_renumber_14 rfl ?_
      refine ja_iconst K (nI 1) dX0_renumber_15 (by decide) ?_
      refine ja_icmp_ne K (tgt := 32) (¬ B.testBit i = true) dX0_renumber_16 (by decide) (not_congr (jbit_get hB (by omega))) (fun h16 => ?_) (fun h16 => ?_)
      · refine ja_aload_n K 0 dX0_renumber_32 rfl ?_
        refine ja_get K hu9 0 rfl rfl 8 (by decide) (List.mem_cons_of_mem _ kfX0_36) rfl rfl dX0_renumber_33 ?_
        refine ja_iload_n K 3 dX0_renumber_36 rfl ?_
        refine ja_iconst K (-1) dX0_renumber_37 (by decide) ?_
        refine ja_iast K (ws1 := jxc q cI cZ (jxsB u (upd nb i (-1)))) 7 0 rfl rfl (i) rfl (by omega) (by decide) dX0_renumber_38 rfl ?_
        refine ja_iinc K (lv1 := [(0, .ref (q 0)), (1, .int (nI (B))), (2, .int (nI ((jct (fun c1 => B.testBit c1) i)))), (3, .int (nI ((i + 1))))]) 3 (nI ((i + 1))) dX0_renumber_39 rfl (ja_inc _) (by decide) rfl rfl ?_
        refine ja_goto K (tgt := 4) dX0_renumber_42 (by decide) ?_
        have e90 : jct (fun c1 => B.testBit c1) (i + 1) = (jct (fun c1 => B.testBit c1) i) := by simp only [jct]; simp [h16]
        have k9 := IH4 (i + 1) (upd nb i ((-1))) ⟨by omega, fun c1 h1 => by
          by_cases q1 : c1 = i
          · subst q1; rw [pk_us]; simp [h16, jeI]
          · rw [pk_un q1]; exact hI4.2 c1 (by omega)⟩ (by omega)
        rw [e90] at k9
        exact k9
      · replace h16 := Decidable.of_not_not h16
        refine ja_aload_n K 0 dX0_renumber_19 rfl ?_
        refine ja_get K hu9 0 rfl rfl 8 (by decide) (List.mem_cons_of_mem _ kfX0_36) rfl rfl dX0_renumber_20 ?_
        refine ja_iload_n K 3 dX0_renumber_23 rfl ?_
        refine ja_iload_n K 2 dX0_renumber_24 rfl ?_
        refine ja_iast K (ws1 := jxc q cI cZ (jxsB u (upd nb i (nI ((jct (fun c1 => B.testBit c1) i)))))) 7 0 rfl rfl (i) rfl (by omega) (by decide) dX0_renumber_25 rfl ?_
        refine ja_iinc K (lv1 := [(0, .ref (q 0)), (1, .int (nI (B))), (2, .int (nI (((jct (fun c1 => B.testBit c1) i) + 1)))), (3, .int (nI (i)))]) 2 (nI (((jct (fun c1 => B.testBit c1) i) + 1))) dX0_renumber_26 rfl (ja_inc _) (by decide) rfl rfl ?_
        refine ja_goto K (tgt := 39) dX0_renumber_29 (by decide) ?_
        refine ja_iinc K (lv1 := [(0, .ref (q 0)), (1, .int (nI (B))), (2, .int (nI (((jct (fun c1 => B.testBit c1) i) + 1)))), (3, .int (nI ((i + 1))))]) 3 (nI ((i + 1))) dX0_renumber_39 rfl (ja_inc _) (by decide) rfl rfl ?_
        refine ja_goto K (tgt := 4) dX0_renumber_42 (by decide) ?_
        have e90 : jct (fun c1 => B.testBit c1) (i + 1) = ((jct (fun c1 => B.testBit c1) i) + 1) := by simp only [jct]; simp [h16]
        have k9 := IH4 (i + 1) (upd nb i (jeI (some (jct (fun c1 => B.testBit c1) i)))) ⟨by omega, fun c1 h1 => by
          by_cases q1 : c1 = i
          · subst q1; rw [pk_us]; simp [h16, jeI]
          · rw [pk_un q1]; exact hI4.2 c1 (by omega)⟩ (by omega)
        rw [e90] at k9
        exact k9
  exact L4 0 (jxB u) ⟨Nat.zero_le _, fun c1 h1 => absurd h1 (Nat.not_lt_zero _)⟩
end
section
set_option maxRecDepth 100000 in
set_option maxHeartbeats 4000000 in
theorem jc_nearest (l : Launch) (D : va_G) (q : Nat → Nat) (cI cZ : ClassId) (S : JS) (u : JX) (hW9 : jWf S)   (k9 x c0 : Nat) (hS9 : jxPh S k9 x u) (hx : x < 60) (hc : c0 < jN S) : jkI l yX0_nearestMatteringAbove wsX0_nearestMatteringAbove ({ frames := 1, cells := 0, slots := 0, locals := 22 }) D vwCl (jxt cI cZ) (jxc q cI cZ) [.ref (q 0), .int (nI x), .int (nI c0)] (jxc q cI cZ u) (fun r u1 => jeI (jnear S x c0) = r ∧ u = u1) := by
  refine jkI_of (cc := cX0_nearestMatteringAbove) (maxL := 5) (ret := (some .int)) (by decide) rfl (Nat.le_of_ble_eq_true rfl) ?_
  intro p e R s m args below meth c Q A K hn9 hR9 hQ9
  obtain ⟨rN, rT, rM, rU, rK, rP, rA, rL, rB, rG⟩ := id hS9
  obtain ⟨wn, wt, wu, wk, wp, wl, wb⟩ := id hW9
  have hu9 : ∀ w ∈ u_ws RX0 TX0 13, w ∈ wsX0_nearestMatteringAbove := fun w h => List.mem_cons_of_mem _ (ku_X0 w h)
  obtain ⟨B, hG, hB⟩ := rG x hx
  show jaW p l e R s m args below meth c 0 0 Q D vwCl A 5 (jxc q cI cZ u) [(0, .ref (q 0)), (1, .int (nI (x))), (2, .int (nI (c0)))] 0 []
  refine ja_aload_n K 0 dX0_nearestMatteringAbove_0 rfl ?_
  refine ja_iload_n K 1 dX0_nearestMatteringAbove_1 rfl ?_
  refine ja_iload_n K 2 dX0_nearestMatteringAbove_2 rfl ?_
  refine ja_callVI K (q0 := 0) (qc := (RX0, TX0, 13)) (st := []) [.int (nI (x)), .int (nI (c0))] (jc_parentAt l D q cI cZ (u) (x) (c0) (by omega) (by omega) (jU S (x) (c0)) (by have h9 := rU (x) (c0) (by omega) (by omega); rw [if_neg (by omega)] at h9; exact h9)) (cwV 2 K.1.2.2.2.2 (gX0_X0_parentAt _) rfl rfl rfl (by decide +kernel) (by rw [hR9]; exact ⟨Nat.le_of_ble_eq_true rfl, Nat.le_of_ble_eq_true rfl⟩)) rfl rfl rfl rfl rfl (Nat.le_of_ble_eq_true rfl) dX0_nearestMatteringAbove_3 (by rw [hR9]; exact ⟨Nat.le_of_ble_eq_true rfl, Nat.le_of_ble_eq_true rfl⟩) (fun r9 u9 h9 => ?_)
  obtain ⟨rfl, rfl⟩ := h9
  refine ja_istore_n K (lv1 := [(0, .ref (q 0)), (1, .int (nI (x))), (2, .int (nI (c0))), (3, .int (jeI (jU S (x) (c0))))]) dX0_nearestMatteringAbove_6 (by decide) rfl rfl ?_
  refine ja_iconst K (nI 0) dX0_nearestMatteringAbove_7 (by decide) ?_
  refine ja_istore K (lv1 := [(0, .ref (q 0)), (1, .int (nI (x))), (2, .int (nI (c0))), (3, .int (jeI (jU S (x) (c0)))), (4, .int (nI 0))]) dX0_nearestMatteringAbove_8 (by decide) rfl rfl ?_
  have L10 : ∀ (k : Nat) (d0 : Nat) (o : Option Nat), (k + d0 = 14 ∧ (∀ y, o = some y → y < jN S ∧ jht (jN S) (jT S) y + k < 14) ∧ jpF (jU S x) (jmatS S x) d0 o = jnear S x c0) → jaW p l e R s m args below meth c 0 0 Q D vwCl A 5 (jxc q cI cZ u) [(0, .ref (q 0)), (1, .int (nI (x))), (2, .int (nI (c0))), (3, .int (jeI (o))), (4, .int (nI (k)))] 10 [] := by
    refine jl_3 (fun (k : Nat) (d0 : Nat) (o : Option Nat) => d0) (fun (k : Nat) (d0 : Nat) (o : Option Nat) => k + d0 = 14 ∧ (∀ y, o = some y → y < jN S ∧ jht (jN S) (jT S) y + k < 14) ∧ jpF (jU S x) (jmatS S x) d0 o = jnear S x c0) _ ?_
    intro k d0 o hI10 IH10
    refine ja_iload K 4 dX0_nearestMatteringAbove_10 rfl ?_
    refine ja_bipush K (nI 14) dX0_nearestMatteringAbove_12 (by decide) ?_
    refine ja_icmp_ge K (tgt := 44) (14 ≤ k) dX0_nearestMatteringAbove_14 (by decide) (nI_leI (by omega) (by omega)) (fun h14 => ?_) (fun h14 => ?_)
    · obtain rfl : d0 = 0 := by omega
      obtain rfl : o = none := by
        cases o with
        | none => rfl
        | some y => have := (hI10.2.1 y rfl).2; omega
      refine ja_iload_n K 3 dX0_nearestMatteringAbove_44 rfl ?_
      exact ja_iret K (u) rfl (Nat.zero_le _) (Nat.zero_le _) dX0_nearestMatteringAbove_45 hQ9 rfl ⟨by rw [← hI10.2.2]; first | (simp [jpF, jeI]; done) | (simp [jpF, h28, jeI]), rfl⟩
    · obtain ⟨d, rfl⟩ : ∃ d1, d0 = d1 + 1 := ⟨d0 - 1, by omega⟩
      refine ja_iload_n K 3 dX0_nearestMatteringAbove_17 rfl ?_
      refine ja_iconst K (-1) dX0_nearestMatteringAbove_18 (by decide) ?_
      refine ja_icmp_eq K (tgt := 44) (o = none) dX0_nearestMatteringAbove_19 (by decide) (jeI_m1 (o := o) (fun p9 h9 => by have := hI10.2.1 p9 h9; omega)) (fun h19 => ?_) (fun h19 => ?_)
      · subst h19
        refine ja_iload_n K 3 dX0_nearestMatteringAbove_44 rfl ?_
        exact ja_iret K (u) rfl (Nat.zero_le _) (Nat.zero_le _) dX0_nearestMatteringAbove_45 hQ9 rfl ⟨by rw [← hI10.2.2]; first | (simp [jpF, jeI]; done) | (simp [jpF, h28, jeI]), rfl⟩
      · obtain ⟨y19, rfl⟩ := Option.ne_none_iff_exists'.mp h19
        have by19 := hI10.2.1 y19 rfl
        refine ja_aload_n K 0 dX0_nearestMatteringAbove_22 rfl ?_
        refine ja_iload_n K 1 dX0_nearestMatteringAbove_23 rfl ?_
        refine ja_iload_n K 3 dX0_nearestMatteringAbove_24 rfl ?_
        refine ja_callVI K (q0 := 0) (qc := (RX0, TX0, 13)) (st := []) [.int (nI (x)), .int (nI (y19))] (jc_matters l D q cI cZ (u) (x) (y19) B (by omega) (by omega) hB.1 hG) (cwV 2 K.1.2.2.2.2 (gX0_X0_matters _) rfl rfl rfl (by decide +kernel) (by rw [hR9]; exact ⟨Nat.le_of_ble_eq_true rfl, Nat.le_of_ble_eq_true rfl⟩)) rfl rfl rfl rfl rfl (Nat.le_of_ble_eq_true rfl) dX0_nearestMatteringAbove_25 (by rw [hR9]; exact ⟨Nat.le_of_ble_eq_true rfl, Nat.le_of_ble_eq_true rfl⟩) (fun r9 u9 h9 => ?_)
        rw [jbt_at hB (by omega)] at h9
        obtain ⟨rfl, rfl⟩ := h9
        refine ja_if_ne K (tgt := 44) (jmatS S (x) (y19) = true) dX0_nearestMatteringAbove_28 (by decide) (jbI_nz _) (fun h28 => ?_) (fun h28 => ?_)
        · refine ja_iload_n K 3 dX0_nearestMatteringAbove_44 rfl ?_
          exact ja_iret K (u) rfl (Nat.zero_le _) (Nat.zero_le _) dX0_nearestMatteringAbove_45 hQ9 rfl ⟨by rw [← hI10.2.2]; first | (simp [jpF, jeI]; done) | (simp [jpF, h28, jeI]), rfl⟩
        · simp only [Bool.not_eq_true] at h28
          refine ja_aload_n K 0 dX0_nearestMatteringAbove_31 rfl ?_
          refine ja_iload_n K 1 dX0_nearestMatteringAbove_32 rfl ?_
          refine ja_iload_n K 3 dX0_nearestMatteringAbove_33 rfl ?_
          refine ja_callVI K (q0 := 0) (qc := (RX0, TX0, 13)) (st := []) [.int (nI (x)), .int (nI (y19))] (jc_parentAt l D q cI cZ (u) (x) (y19) (by omega) (by omega) (jU S (x) (y19)) (by have h9 := rU (x) (y19) (by omega) (by omega); rw [if_neg (by omega)] at h9; exact h9)) (cwV 2 K.1.2.2.2.2 (gX0_X0_parentAt _) rfl rfl rfl (by decide +kernel) (by rw [hR9]; exact ⟨Nat.le_of_ble_eq_true rfl, Nat.le_of_ble_eq_true rfl⟩)) rfl rfl rfl rfl rfl (Nat.le_of_ble_eq_true rfl) dX0_nearestMatteringAbove_34 (by rw [hR9]; exact ⟨Nat.le_of_ble_eq_true rfl, Nat.le_of_ble_eq_true rfl⟩) (fun r9 u9 h9 => ?_)
          obtain ⟨rfl, rfl⟩ := h9
          refine ja_istore_n K (lv1 := [(0, .ref (q 0)), (1, .int (nI (x))), (2, .int (nI (c0))), (3, .int (jeI (jU S (x) (y19)))), (4, .int (nI (k)))]) dX0_nearestMatteringAbove_37 (by decide) rfl rfl ?_
          refine ja_iinc K (lv1 := [(0, .ref (q 0)), (1, .int (nI (x))), (2, .int (nI (c0))), (3, .int (jeI (jU S (x) (y19)))), (4, .int (nI ((k + 1))))]) 4 (nI ((k + 1))) dX0_nearestMatteringAbove_38 rfl (ja_inc _) (by decide) rfl rfl ?_
          refine ja_goto K (tgt := 10) dX0_nearestMatteringAbove_41 (by decide) ?_
          have k9 := IH10 (k + 1) d (jU S x y19) ⟨by omega, fun z hz => ⟨(wu _ _ z hz).2.1, by have := jht_up (jup_S hW9 x) hz; omega⟩, by rw [← hI10.2.2]; simp [jpF, h28]⟩ (by omega)
          exact k9
  exact L10 0 14 (jU S x c0) ⟨rfl, fun y h => ⟨(wu _ _ y h).2.1, by have := jup_h hW9 h hc; omega⟩, rfl⟩
end
section
set_option maxRecDepth 100000 in
set_option maxHeartbeats 4000000 in
theorem jc_mcoming (l : Launch) (D : va_G) (q : Nat → Nat) (cI cZ : ClassId) (S : JS) (u : JX) (hW9 : jWf S)   (i c0 : Nat) (hS9 : jxPh S i 0 u) (hi : i < jK S) (hc : c0 < jN S) : jkI l yX0_mutationComingTo wsX0_mutationComingTo ({ frames := 1, cells := 0, slots := 0, locals := 22 }) D vwCl (jxt cI cZ) (jxc q cI cZ) [.ref (q 0), .int (nI i), .int (nI c0)] (jxc q cI cZ u) (fun r u1 => jeI (jcome S i c0) = r ∧ u = u1) := by
  refine jkI_of (cc := cX0_mutationComingTo) (maxL := 7) (ret := (some .int)) (by decide) rfl (Nat.le_of_ble_eq_true rfl) ?_
  intro p e R s m args below meth c Q A K hn9 hR9 hQ9
  obtain ⟨rN, rT, rM, rU, rK, rP, rA, rL, rB, rG⟩ := id hS9
  obtain ⟨wn, wt, wu, wk, wp, wl, wb⟩ := id hW9
  have hu9 : ∀ w ∈ u_ws RX0 TX0 13, w ∈ wsX0_mutationComingTo := fun w h => List.mem_cons_of_mem _ (ku_X0 w h)
  have bp := (wp i hi).1
  obtain ⟨B, hG, hB⟩ := rG (jP S i) bp
  show jaW p l e R s m args below meth c 0 0 Q D vwCl A 7 (jxc q cI cZ u) [(0, .ref (q 0)), (1, .int (nI (i))), (2, .int (nI (c0)))] 0 []
  refine ja_aload_n K 0 dX0_mutationComingTo_0 rfl ?_
  refine ja_get K hu9 0 rfl rfl 5 (by decide) (List.mem_cons_of_mem _ kfX0_27) rfl rfl dX0_mutationComingTo_1 ?_
  refine ja_iload_n K 1 dX0_mutationComingTo_4 rfl ?_
  refine ja_iald K (v := nI ((jP S (i)))) 4 0 rfl rfl (i) rfl (by omega) (by decide) (rP _ (by omega)) dX0_mutationComingTo_5 ?_
  refine ja_istore_n K (lv1 := [(0, .ref (q 0)), (1, .int (nI (i))), (2, .int (nI (c0))), (3, .int (nI ((jP S (i)))))]) dX0_mutationComingTo_6 (by decide) rfl rfl ?_
  refine ja_aload_n K 0 dX0_mutationComingTo_7 rfl ?_
  refine ja_get K hu9 0 rfl rfl 7 (by decide) (List.mem_cons_of_mem _ kfX0_33) rfl rfl dX0_mutationComingTo_8 ?_
  refine ja_iload_n K 1 dX0_mutationComingTo_11 rfl ?_
  refine ja_bipush K (nI 14) dX0_mutationComingTo_12 (by decide) ?_
  refine ja_imul K (nI ((i * 14))) dX0_mutationComingTo_14 (pk_mul _ _) ?_
  refine ja_iload_n K 2 dX0_mutationComingTo_15 rfl ?_
  refine ja_iadd K (nI (((i * 14) + c0))) dX0_mutationComingTo_16 (nI_add _ _) ?_
  refine ja_iald K (v := jeI (jL S i (c0))) 6 0 rfl rfl (((i * 14) + c0)) rfl (by omega) (by decide) (by have h9 := rL i (c0) (by omega) (by omega); rw [if_neg (by omega)] at h9; exact h9) dX0_mutationComingTo_17 ?_
  refine ja_istore K (lv1 := [(0, .ref (q 0)), (1, .int (nI (i))), (2, .int (nI (c0))), (3, .int (nI ((jP S (i))))), (4, .int (jeI (jL S i (c0))))]) dX0_mutationComingTo_18 (by decide) rfl rfl ?_
  refine ja_aload_n K 0 dX0_mutationComingTo_20 rfl ?_
  refine ja_iload_n K 3 dX0_mutationComingTo_21 rfl ?_
  refine ja_iload_n K 2 dX0_mutationComingTo_22 rfl ?_
  refine ja_callVI K (q0 := 0) (qc := (RX0, TX0, 13)) (st := []) [.int (nI ((jP S (i)))), .int (nI (c0))] (jc_parentAt l D q cI cZ (u) ((jP S (i))) (c0) (by omega) (by omega) (jU S ((jP S (i))) (c0)) (by have h9 := rU ((jP S (i))) (c0) (by omega) (by omega); rw [if_neg (by omega)] at h9; exact h9)) (cwV 2 K.1.2.2.2.2 (gX0_X0_parentAt _) rfl rfl rfl (by decide +kernel) (by rw [hR9]; exact ⟨Nat.le_of_ble_eq_true rfl, Nat.le_of_ble_eq_true rfl⟩)) rfl rfl rfl rfl rfl (Nat.le_of_ble_eq_true rfl) dX0_mutationComingTo_23 (by rw [hR9]; exact ⟨Nat.le_of_ble_eq_true rfl, Nat.le_of_ble_eq_true rfl⟩) (fun r9 u9 h9 => ?_)
  obtain ⟨rfl, rfl⟩ := h9
  refine ja_istore K (lv1 := [(0, .ref (q 0)), (1, .int (nI (i))), (2, .int (nI (c0))), (3, .int (nI ((jP S (i))))), (4, .int (jeI (jL S i (c0)))), (5, .int (jeI (jU S ((jP S (i))) (c0))))]) dX0_mutationComingTo_26 (by decide) rfl rfl ?_
  refine ja_iconst K (nI 0) dX0_mutationComingTo_28 (by decide) ?_
  refine ja_istore K (lv1 := [(0, .ref (q 0)), (1, .int (nI (i))), (2, .int (nI (c0))), (3, .int (nI ((jP S (i))))), (4, .int (jeI (jL S i (c0)))), (5, .int (jeI (jU S ((jP S (i))) (c0)))), (6, .int (nI 0))]) dX0_mutationComingTo_29 (by decide) rfl rfl ?_
  have L31 : ∀ (k : Nat) (d0 : Nat) (ow : Option Nat) (o : Option Nat), (k + d0 = 14 ∧ (∀ y, ow = some y → y < 4) ∧ (∀ y, o = some y → y < jN S) ∧ jcmo S i ow (jpF (jU S (jP S i)) (jcmP S i) d0 o) = jcome S i c0) → jaW p l e R s m args below meth c 0 0 Q D vwCl A 7 (jxc q cI cZ u) [(0, .ref (q 0)), (1, .int (nI (i))), (2, .int (nI (c0))), (3, .int (nI ((jP S i)))), (4, .int (jeI (ow))), (5, .int (jeI (o))), (6, .int (nI (k)))] 31 [] := by
    refine jl_4 (fun (k : Nat) (d0 : Nat) (ow : Option Nat) (o : Option Nat) => d0) (fun (k : Nat) (d0 : Nat) (ow : Option Nat) (o : Option Nat) => k + d0 = 14 ∧ (∀ y, ow = some y → y < 4) ∧ (∀ y, o = some y → y < jN S) ∧ jcmo S i ow (jpF (jU S (jP S i)) (jcmP S i) d0 o) = jcome S i c0) _ ?_
    intro k d0 ow o hI31 IH31
    refine ja_iload K 6 dX0_mutationComingTo_31 rfl ?_
    refine ja_bipush K (nI 14) dX0_mutationComingTo_33 (by decide) ?_
    refine ja_icmp_ge K (tgt := 89) (14 ≤ k) dX0_mutationComingTo_35 (by decide) (nI_leI (by omega) (by omega)) (fun h35 => ?_) (fun h35 => ?_)
    · obtain rfl : d0 = 0 := by omega
      refine ja_iload K 4 dX0_mutationComingTo_89 rfl ?_
      exact ja_iret K (u) rfl (Nat.zero_le _) (Nat.zero_le _) dX0_mutationComingTo_91 hQ9 rfl ⟨by rw [← hI31.2.2.2]; first | rfl | (simp [jpF, jcmo, jeI]; done) | (simp [jpF, jcmP, h57, jcmo, jeI]; done) | (cases ow <;> simp [jpF, jcmo, jeI]), rfl⟩
    · obtain ⟨d, rfl⟩ : ∃ d1, d0 = d1 + 1 := ⟨d0 - 1, by omega⟩
      refine ja_iload K 4 dX0_mutationComingTo_38 rfl ?_
      refine ja_iconst K (-1) dX0_mutationComingTo_40 (by decide) ?_
      refine ja_icmp_ne K (tgt := 89) (¬ ow = none) dX0_mutationComingTo_41 (by decide) (not_congr (jeI_m1 (o := ow) (fun p9 h9 => by have := hI31.2.1 p9 h9; omega))) (fun h41 => ?_) (fun h41 => ?_)
      · obtain ⟨y41, rfl⟩ := Option.ne_none_iff_exists'.mp h41
        have by41 := hI31.2.1 y41 rfl
        refine ja_iload K 4 dX0_mutationComingTo_89 rfl ?_
        exact ja_iret K (u) rfl (Nat.zero_le _) (Nat.zero_le _) dX0_mutationComingTo_91 hQ9 rfl ⟨by rw [← hI31.2.2.2]; first | rfl | (simp [jpF, jcmo, jeI]; done) | (simp [jpF, jcmP, h57, jcmo, jeI]; done) | (cases ow <;> simp [jpF, jcmo, jeI]), rfl⟩
      · replace h41 := Classical.not_not.mp h41
        subst h41
        refine ja_iload K 5 dX0_mutationComingTo_44 rfl ?_
        refine ja_iconst K (-1) dX0_mutationComingTo_46 (by decide) ?_
        refine ja_icmp_eq K (tgt := 89) (o = none) dX0_mutationComingTo_47 (by decide) (jeI_m1 (o := o) (fun p9 h9 => by have := hI31.2.2.1 p9 h9; omega)) (fun h47 => ?_) (fun h47 => ?_)
        · subst h47
          refine ja_iload K 4 dX0_mutationComingTo_89 rfl ?_
          exact ja_iret K (u) rfl (Nat.zero_le _) (Nat.zero_le _) dX0_mutationComingTo_91 hQ9 rfl ⟨by rw [← hI31.2.2.2]; first | rfl | (simp [jpF, jcmo, jeI]; done) | (simp [jpF, jcmP, h57, jcmo, jeI]; done) | (cases ow <;> simp [jpF, jcmo, jeI]), rfl⟩
        · obtain ⟨y47, rfl⟩ := Option.ne_none_iff_exists'.mp h47
          have by47 := hI31.2.2.1 y47 rfl
          refine ja_aload_n K 0 dX0_mutationComingTo_50 rfl ?_
          refine ja_iload_n K 3 dX0_mutationComingTo_51 rfl ?_
          refine ja_iload K 5 dX0_mutationComingTo_52 rfl ?_
          refine ja_callVI K (q0 := 0) (qc := (RX0, TX0, 13)) (st := []) [.int (nI ((jP S i))), .int (nI (y47))] (jc_matters l D q cI cZ (u) ((jP S i)) (y47) B (by omega) (by omega) hB.1 hG) (cwV 2 K.1.2.2.2.2 (gX0_X0_matters _) rfl rfl rfl (by decide +kernel) (by rw [hR9]; exact ⟨Nat.le_of_ble_eq_true rfl, Nat.le_of_ble_eq_true rfl⟩)) rfl rfl rfl rfl rfl (Nat.le_of_ble_eq_true rfl) dX0_mutationComingTo_54 (by rw [hR9]; exact ⟨Nat.le_of_ble_eq_true rfl, Nat.le_of_ble_eq_true rfl⟩) (fun r9 u9 h9 => ?_)
          rw [jbt_at hB (by omega)] at h9
          obtain ⟨rfl, rfl⟩ := h9
          refine ja_if_ne K (tgt := 89) (jmatS S ((jP S i)) (y47) = true) dX0_mutationComingTo_57 (by decide) (jbI_nz _) (fun h57 => ?_) (fun h57 => ?_)
          · refine ja_iload K 4 dX0_mutationComingTo_89 rfl ?_
            exact ja_iret K (u) rfl (Nat.zero_le _) (Nat.zero_le _) dX0_mutationComingTo_91 hQ9 rfl ⟨by rw [← hI31.2.2.2]; first | rfl | (simp [jpF, jcmo, jeI]; done) | (simp [jpF, jcmP, h57, jcmo, jeI]; done) | (cases ow <;> simp [jpF, jcmo, jeI]), rfl⟩
          · simp only [Bool.not_eq_true] at h57
            refine ja_aload_n K 0 dX0_mutationComingTo_60 rfl ?_
            refine ja_get K hu9 0 rfl rfl 7 (by decide) (List.mem_cons_of_mem _ kfX0_33) rfl rfl dX0_mutationComingTo_61 ?_
            refine ja_iload_n K 1 dX0_mutationComingTo_64 rfl ?_
            refine ja_bipush K (nI 14) dX0_mutationComingTo_65 (by decide) ?_
            refine ja_imul K (nI ((i * 14))) dX0_mutationComingTo_67 (pk_mul _ _) ?_
            refine ja_iload K 5 dX0_mutationComingTo_68 rfl ?_
            refine ja_iadd K (nI (((i * 14) + y47))) dX0_mutationComingTo_70 (nI_add _ _) ?_
            refine ja_iald K (v := jeI (jL S i (y47))) 6 0 rfl rfl (((i * 14) + y47)) rfl (by omega) (by decide) (by have h9 := rL i (y47) (by omega) (by omega); rw [if_neg (by omega)] at h9; exact h9) dX0_mutationComingTo_71 ?_
            refine ja_istore K (lv1 := [(0, .ref (q 0)), (1, .int (nI (i))), (2, .int (nI (c0))), (3, .int (nI ((jP S i)))), (4, .int (jeI (jL S i (y47)))), (5, .int (nI (y47))), (6, .int (nI (k)))]) dX0_mutationComingTo_72 (by decide) rfl rfl ?_
            refine ja_aload_n K 0 dX0_mutationComingTo_74 rfl ?_
            refine ja_iload_n K 3 dX0_mutationComingTo_75 rfl ?_
            refine ja_iload K 5 dX0_mutationComingTo_76 rfl ?_
            refine ja_callVI K (q0 := 0) (qc := (RX0, TX0, 13)) (st := []) [.int (nI ((jP S i))), .int (nI (y47))] (jc_parentAt l D q cI cZ (u) ((jP S i)) (y47) (by omega) (by omega) (jU S ((jP S i)) (y47)) (by have h9 := rU ((jP S i)) (y47) (by omega) (by omega); rw [if_neg (by omega)] at h9; exact h9)) (cwV 2 K.1.2.2.2.2 (gX0_X0_parentAt _) rfl rfl rfl (by decide +kernel) (by rw [hR9]; exact ⟨Nat.le_of_ble_eq_true rfl, Nat.le_of_ble_eq_true rfl⟩)) rfl rfl rfl rfl rfl (Nat.le_of_ble_eq_true rfl) dX0_mutationComingTo_78 (by rw [hR9]; exact ⟨Nat.le_of_ble_eq_true rfl, Nat.le_of_ble_eq_true rfl⟩) (fun r9 u9 h9 => ?_)
            obtain ⟨rfl, rfl⟩ := h9
            refine ja_istore K (lv1 := [(0, .ref (q 0)), (1, .int (nI (i))), (2, .int (nI (c0))), (3, .int (nI ((jP S i)))), (4, .int (jeI (jL S i (y47)))), (5, .int (jeI (jU S ((jP S i)) (y47)))), (6, .int (nI (k)))]) dX0_mutationComingTo_81 (by decide) rfl rfl ?_
            refine ja_iinc K (lv1 := [(0, .ref (q 0)), (1, .int (nI (i))), (2, .int (nI (c0))), (3, .int (nI ((jP S i)))), (4, .int (jeI (jL S i (y47)))), (5, .int (jeI (jU S ((jP S i)) (y47)))), (6, .int (nI ((k + 1))))]) 6 (nI ((k + 1))) dX0_mutationComingTo_83 rfl (ja_inc _) (by decide) rfl rfl ?_
            refine ja_goto K (tgt := 31) dX0_mutationComingTo_86 (by decide) ?_
            have k9 := IH31 (k + 1) d (jL S i y47) (jU S (jP S i) y47) ⟨by omega, fun y h => (wl _ _ y h).2.2, fun y h => (wu _ _ y h).2.1, by rw [← hI31.2.2.2]; exact jcmo_step h57⟩ (by omega)
            exact k9
  exact L31 0 14 (jL S i c0) (jU S (jP S i) c0) ⟨rfl, fun y h => (wl _ _ y h).2.2, fun y h => (wu _ _ y h).2.1, (jcome_eq S i c0).symm⟩
end
section
set_option maxRecDepth 100000 in
set_option maxHeartbeats 4000000 in
theorem jc_moveParents (l : Launch) (D : va_G) (q : Nat → Nat) (cI cZ : ClassId) (S : JS) (u : JX) (hW9 : jWf S)   (k9 x : Nat) (hS9 : jxPh S k9 x u) (hx : x < 60) : jkV l yX0_moveParents wsX0_moveParents ({ frames := 2, cells := 0, slots := 0, locals := 46 }) D vwCl (jxt cI cZ) (jxc q cI cZ) [.ref (q 0), .int (nI x)] (jxc q cI cZ u) (fun u1 => jxPh S k9 (x + 1) u1) := by
  refine jkV_of (cc := cX0_moveParents) (maxL := 4) (ret := none) (by decide) rfl (Nat.le_of_ble_eq_true rfl) ?_
  intro p e R s m args below meth c Q A K hn9 hR9 hQ9
  obtain ⟨rN, rT, rM, rU, rK, rP, rA, rL, rB, rG⟩ := id hS9
  obtain ⟨wn, wt, wu, wk, wp, wl, wb⟩ := id hW9
  have hu9 : ∀ w ∈ u_ws RX0 TX0 13, w ∈ wsX0_moveParents := fun w h => List.mem_cons_of_mem _ (ku_X0 w h)
  obtain ⟨B, hG, hB⟩ := rG x hx
  show jaW p l e R s m args below meth c 0 0 Q D vwCl A 4 (jxc q cI cZ u) [(0, .ref (q 0)), (1, .int (nI (x)))] 0 []
  refine ja_aload_n K 0 dX0_moveParents_0 rfl ?_
  refine ja_get K hu9 0 rfl rfl 12 (by decide) (List.mem_cons_of_mem _ kfX0_48) rfl rfl dX0_moveParents_1 ?_
  refine ja_iconst K (-1) dX0_moveParents_4 (by decide) ?_
  refine jx_fillR K (by rw [hR9]; exact ⟨Nat.le_of_ble_eq_true rfl, Nat.le_of_ble_eq_true rfl⟩) (Nat.le_of_ble_eq_true rfl) dX0_moveParents_5 (by rw [hR9]; exact ⟨Nat.le_of_ble_eq_true rfl, Nat.le_of_ble_eq_true rfl⟩) (fun g5 hg5 => ?_)
  refine ja_iconst K (nI 0) dX0_moveParents_8 (by decide) ?_
  refine ja_istore_n K (lv1 := [(0, .ref (q 0)), (1, .int (nI (x))), (2, .int (nI 0))]) dX0_moveParents_9 (by decide) rfl rfl ?_
  have L10 : ∀ (n0 : Nat) (ro : Nat → Int32), (n0 ≤ jN S ∧ ∀ k, k < 14 → ro k = jeI (jrowU S x n0 k)) → jaW p l e R s m args below meth c 0 0 Q D vwCl A 4 (jxc q cI cZ (jxsR u ro)) [(0, .ref (q 0)), (1, .int (nI (x))), (2, .int (nI (n0)))] 10 [] := by
    refine jl_2 (fun (n0 : Nat) (ro : Nat → Int32) => jN S - n0) (fun (n0 : Nat) (ro : Nat → Int32) => n0 ≤ jN S ∧ ∀ k, k < 14 → ro k = jeI (jrowU S x n0 k)) _ ?_
    intro n0 ro hI10 IH10
    refine ja_iload_n K 2 dX0_moveParents_10 rfl ?_
    refine ja_aload_n K 0 dX0_moveParents_11 rfl ?_
    refine ja_get K hu9 0 rfl rfl 0 (by decide) (List.mem_cons_of_mem _ kfX0_7) rfl (congrArg (fun z9 => some (Value.int z9)) rN) dX0_moveParents_12 ?_
    refine ja_icmp_ge K (tgt := 66) ((jN S) ≤ n0) dX0_moveParents_15 (by decide) (nI_leI (by omega) (by omega)) (fun h15 => ?_) (fun h15 => ?_)
    · refine ja_aload_n K 0 dX0_moveParents_66 rfl ?_
      refine ja_get K hu9 0 rfl rfl 12 (by decide) (List.mem_cons_of_mem _ kfX0_48) rfl rfl dX0_moveParents_67 ?_
      refine ja_iconst K (nI 0) dX0_moveParents_70 (by decide) ?_
      refine ja_aload_n K 0 dX0_moveParents_71 rfl ?_
      refine ja_get K hu9 0 rfl rfl 3 (by decide) (List.mem_cons_of_mem _ kfX0_21) rfl rfl dX0_moveParents_72 ?_
      refine ja_iload_n K 1 dX0_moveParents_75 rfl ?_
      refine ja_bipush K (nI 14) dX0_moveParents_76 (by decide) ?_
      refine ja_imul K (nI ((x * 14))) dX0_moveParents_78 (pk_mul _ _) ?_
      refine ja_bipush K (nI 14) dX0_moveParents_79 (by decide) ?_
      refine ja_copy K (ws1 := jxc q cI cZ (jxsU (jxsR u ro) (va_cpy (jxR (jxsR u ro)) (jxU (jxsR u ro)) 0 (x * 14) 14))) (st := []) (List.mem_cons_of_mem _ klX0_192) (List.mem_cons_of_mem _ karc_n) (List.mem_cons_of_mem _ karc_s) (List.mem_cons_of_mem _ kini_sys) 11 3 0 rfl rfl rfl 0 (x * 14) 14 rfl rfl rfl (by omega) (by omega) (by decide) (by decide) (by rw [hR9]; exact Nat.le_of_ble_eq_true rfl) (by rw [hR9]; exact Nat.le_of_ble_eq_true rfl) dX0_moveParents_81 rfl ?_
      exact ja_vret K (jxsU (jxsR u ro) (va_cpy (jxR (jxsR u ro)) (jxU (jxsR u ro)) 0 (x * 14) 14)) rfl (Nat.zero_le _) (Nat.zero_le _) dX0_moveParents_84 hQ9 rfl (jPh_U hS9 hx (fun k hk => jcpy_row (F := fun j => jeI (jrowU S x (jN S) j)) (fun j hj => by have h9 := hI10.2 j hj; rw [show n0 = jN S by omega] at h9; exact h9)) ro)
    · refine ja_aload_n K 0 dX0_moveParents_18 rfl ?_
      refine ja_iload_n K 1 dX0_moveParents_19 rfl ?_
      refine ja_iload_n K 2 dX0_moveParents_20 rfl ?_
      refine ja_callVI K (q0 := 0) (qc := (RX0, TX0, 13)) (st := []) [.int (nI (x)), .int (nI (n0))] (jc_matters l D q cI cZ (jxsR u ro) (x) (n0) B (by omega) (by omega) hB.1 hG) (cwV 2 K.1.2.2.2.2 (gX0_X0_matters _) rfl rfl rfl (by decide +kernel) (by rw [hR9]; exact ⟨Nat.le_of_ble_eq_true rfl, Nat.le_of_ble_eq_true rfl⟩)) rfl rfl rfl rfl rfl (Nat.le_of_ble_eq_true rfl) dX0_moveParents_21 (by rw [hR9]; exact ⟨Nat.le_of_ble_eq_true rfl, Nat.le_of_ble_eq_true rfl⟩) (fun r9 u9 h9 => ?_)
      rw [jbt_at hB (by omega)] at h9
      obtain ⟨rfl, rfl⟩ := h9
      refine ja_if_eq K (tgt := 60) (jmatS S (x) (n0) = false) dX0_moveParents_24 (by decide) (jbI_ne _) (fun h24 => ?_) (fun h24 => ?_)
      · refine ja_iinc K (lv1 := [(0, .ref (q 0)), (1, .int (nI (x))), (2, .int (nI ((n0 + 1))))]) 2 (nI ((n0 + 1))) dX0_moveParents_60 rfl (ja_inc _) (by decide) rfl rfl ?_
        refine ja_goto K (tgt := 10) dX0_moveParents_63 (by decide) ?_
        exact IH10 (n0 + 1) ro ⟨by omega, fun k hk => by rw [hI10.2 k hk, jrowU_no h24]⟩ (by omega)
      · have hm : jmatS S x n0 = true := by simpa using h24
        have hs := jstay_of hx hm
        have hr := jrk_lt hW9 (c := n0) (by omega) hs
        refine ja_aload_n K 0 dX0_moveParents_27 rfl ?_
        refine ja_iload_n K 1 dX0_moveParents_28 rfl ?_
        refine ja_iload_n K 2 dX0_moveParents_29 rfl ?_
        refine ja_callVI K (q0 := 0) (qc := (RX0, TX0, 13)) (st := []) [.int (nI (x)), .int (nI (n0))] (jc_nearest l D q cI cZ S (jxsR u ro) hW9 k9 (x) (n0) hS9 (by omega) (by omega)) (cwV 2 K.1.2.2.2.2 (gX0_X0_nearestMatteringAbove _) rfl rfl rfl (by decide +kernel) (by rw [hR9]; exact ⟨Nat.le_of_ble_eq_true rfl, Nat.le_of_ble_eq_true rfl⟩)) rfl rfl rfl rfl rfl (Nat.le_of_ble_eq_true rfl) dX0_moveParents_30 (by rw [hR9]; exact ⟨Nat.le_of_ble_eq_true rfl, Nat.le_of_ble_eq_true rfl⟩) (fun r9 u9 h9 => ?_)
        obtain ⟨rfl, rfl⟩ := h9
        refine ja_istore_n K (lv1 := [(0, .ref (q 0)), (1, .int (nI (x))), (2, .int (nI (n0))), (3, .int (jeI (jnear S (x) (n0))))]) dX0_moveParents_33 (by decide) rfl rfl ?_
        refine ja_aload_n K 0 dX0_moveParents_34 rfl ?_
        refine ja_get K hu9 0 rfl rfl 12 (by decide) (List.mem_cons_of_mem _ kfX0_48) rfl rfl dX0_moveParents_35 ?_
        refine ja_aload_n K 0 dX0_moveParents_38 rfl ?_
        refine ja_get K hu9 0 rfl rfl 8 (by decide) (List.mem_cons_of_mem _ kfX0_36) rfl rfl dX0_moveParents_39 ?_
        refine ja_iload_n K 2 dX0_moveParents_42 rfl ?_
        refine ja_iald K (v := nI ((jrk S n0))) 7 0 rfl rfl (n0) rfl (by omega) (by decide) (by have h9 := rB n0 (by omega); rw [jsm_B (by omega) hs] at h9; exact h9) dX0_moveParents_43 ?_
        refine ja_iload_n K 3 dX0_moveParents_44 rfl ?_
        refine ja_iconst K (-1) dX0_moveParents_45 (by decide) ?_
        refine ja_icmp_ne K (tgt := 53) (¬ jnear S (x) (n0) = none) dX0_moveParents_46 (by decide) (not_congr (jeI_m1 (o := jnear S (x) (n0)) (fun p9 h9 => by have := (jnear_of hW9 h9); omega))) (fun h46 => ?_) (fun h46 => ?_)
        · obtain ⟨y46, ey46⟩ := Option.ne_none_iff_exists'.mp h46
          try rw [ey46]
          have by46 := (jnear_of hW9 ey46)
          have hs2 := jstay_of hx by46.2.1
          have hr2 := jrk_lt hW9 by46.1 hs2
          refine ja_aload_n K 0 dX0_moveParents_53 rfl ?_
          refine ja_get K hu9 0 rfl rfl 8 (by decide) (List.mem_cons_of_mem _ kfX0_36) rfl rfl dX0_moveParents_54 ?_
          refine ja_iload_n K 3 dX0_moveParents_57 rfl ?_
          refine ja_iald K (v := nI ((jrk S y46))) 7 0 rfl rfl (y46) rfl (by omega) (by decide) (by have h9 := rB y46 (by omega); rw [jsm_B by46.1 hs2] at h9; exact h9) dX0_moveParents_58 ?_
          refine ja_iast K (ws1 := jxc q cI cZ (jxsR u (upd ro (jrk S n0) (nI ((jrk S y46)))))) 11 0 rfl rfl ((jrk S n0)) rfl (by omega) (by decide) dX0_moveParents_59 rfl ?_
          refine ja_iinc K (lv1 := [(0, .ref (q 0)), (1, .int (nI (x))), (2, .int (nI ((n0 + 1)))), (3, .int (nI (y46)))]) 2 (nI ((n0 + 1))) dX0_moveParents_60 rfl (ja_inc _) (by decide) rfl rfl ?_
          refine ja_goto K (tgt := 10) dX0_moveParents_63 (by decide) ?_
          refine ja_locals (lv1 := [(0, .ref (q 0)), (1, .int (nI (x))), (2, .int (nI ((n0 + 1))))]) [0, 1, 2] rfl ?_
          exact IH10 (n0 + 1) (upd ro (jrk S n0) (nI (jrk S y46))) ⟨by omega, fun k hk => by
            by_cases q1 : k = jrk S n0
            · subst q1; rw [pk_us, jrowU_at hm]; rw [ey46]; rfl
            · rw [pk_un q1, hI10.2 k hk, jrowU_ne q1]⟩ (by omega)
        · replace h46 := Classical.not_not.mp h46
          have h46n : jnear S x n0 = none := h46
          refine ja_iconst K (-1) dX0_moveParents_49 (by decide) ?_
          refine ja_goto K (tgt := 59) dX0_moveParents_50 (by decide) ?_
          refine ja_iast K (ws1 := jxc q cI cZ (jxsR u (upd ro (jrk S n0) (-1)))) 11 0 rfl rfl ((jrk S n0)) rfl (by omega) (by decide) dX0_moveParents_59 rfl ?_
          refine ja_iinc K (lv1 := [(0, .ref (q 0)), (1, .int (nI (x))), (2, .int (nI ((n0 + 1)))), (3, .int (jeI (jnear S (x) (n0))))]) 2 (nI ((n0 + 1))) dX0_moveParents_60 rfl (ja_inc _) (by decide) rfl rfl ?_
          refine ja_goto K (tgt := 10) dX0_moveParents_63 (by decide) ?_
          refine ja_locals (lv1 := [(0, .ref (q 0)), (1, .int (nI (x))), (2, .int (nI ((n0 + 1))))]) [0, 1, 2] rfl ?_
          exact IH10 (n0 + 1) (upd ro (jrk S n0) (-1)) ⟨by omega, fun k hk => by
            by_cases q1 : k = jrk S n0
            · subst q1; rw [pk_us, jrowU_at hm]; rw [h46n]; rfl
            · rw [pk_un q1, hI10.2 k hk, jrowU_ne q1]⟩ (by omega)
  exact L10 0 g5 ⟨Nat.zero_le _, fun k hk => hg5 k hk⟩
end
section
set_option maxRecDepth 100000 in
set_option maxHeartbeats 4000000 in
theorem jc_moveMutations (l : Launch) (D : va_G) (q : Nat → Nat) (cI cZ : ClassId) (S : JS) (u : JX) (hW9 : jWf S)   (i : Nat) (hS9 : jxPh S i 0 u) (hi : i < jK S) : jkV l yX0_moveMutations wsX0_moveMutations ({ frames := 2, cells := 0, slots := 0, locals := 48 }) D vwCl (jxt cI cZ) (jxc q cI cZ) [.ref (q 0), .int (nI i)] (jxc q cI cZ u) (fun u1 => jxPh S (i + 1) 0 u1) := by
  refine jkV_of (cc := cX0_moveMutations) (maxL := 4) (ret := none) (by decide) rfl (Nat.le_of_ble_eq_true rfl) ?_
  intro p e R s m args below meth c Q A K hn9 hR9 hQ9
  obtain ⟨rN, rT, rM, rU, rK, rP, rA, rL, rB, rG⟩ := id hS9
  obtain ⟨wn, wt, wu, wk, wp, wl, wb⟩ := id hW9
  have hu9 : ∀ w ∈ u_ws RX0 TX0 13, w ∈ wsX0_moveMutations := fun w h => List.mem_cons_of_mem _ (ku_X0 w h)
  have bp := (wp i hi).1
  obtain ⟨B, hG, hB⟩ := rG (jP S i) bp
  show jaW p l e R s m args below meth c 0 0 Q D vwCl A 4 (jxc q cI cZ u) [(0, .ref (q 0)), (1, .int (nI (i)))] 0 []
  refine ja_aload_n K 0 dX0_moveMutations_0 rfl ?_
  refine ja_get K hu9 0 rfl rfl 5 (by decide) (List.mem_cons_of_mem _ kfX0_27) rfl rfl dX0_moveMutations_1 ?_
  refine ja_iload_n K 1 dX0_moveMutations_4 rfl ?_
  refine ja_iald K (v := nI ((jP S (i)))) 4 0 rfl rfl (i) rfl (by omega) (by decide) (rP _ (by omega)) dX0_moveMutations_5 ?_
  refine ja_istore_n K (lv1 := [(0, .ref (q 0)), (1, .int (nI (i))), (2, .int (nI ((jP S (i)))))]) dX0_moveMutations_6 (by decide) rfl rfl ?_
  refine ja_aload_n K 0 dX0_moveMutations_7 rfl ?_
  refine ja_get K hu9 0 rfl rfl 12 (by decide) (List.mem_cons_of_mem _ kfX0_48) rfl rfl dX0_moveMutations_8 ?_
  refine ja_iconst K (-1) dX0_moveMutations_11 (by decide) ?_
  refine jx_fillR K (by rw [hR9]; exact ⟨Nat.le_of_ble_eq_true rfl, Nat.le_of_ble_eq_true rfl⟩) (Nat.le_of_ble_eq_true rfl) dX0_moveMutations_12 (by rw [hR9]; exact ⟨Nat.le_of_ble_eq_true rfl, Nat.le_of_ble_eq_true rfl⟩) (fun g12 hg12 => ?_)
  refine ja_iconst K (nI 0) dX0_moveMutations_15 (by decide) ?_
  refine ja_istore_n K (lv1 := [(0, .ref (q 0)), (1, .int (nI (i))), (2, .int (nI ((jP S (i))))), (3, .int (nI 0))]) dX0_moveMutations_16 (by decide) rfl rfl ?_
  have L17 : ∀ (n0 : Nat) (ro : Nat → Int32), (n0 ≤ jN S ∧ ∀ k, k < 14 → ro k = jeI (jrowL S i n0 k)) → jaW p l e R s m args below meth c 0 0 Q D vwCl A 4 (jxc q cI cZ (jxsR u ro)) [(0, .ref (q 0)), (1, .int (nI (i))), (2, .int (nI ((jP S i)))), (3, .int (nI (n0)))] 17 [] := by
    refine jl_2 (fun (n0 : Nat) (ro : Nat → Int32) => jN S - n0) (fun (n0 : Nat) (ro : Nat → Int32) => n0 ≤ jN S ∧ ∀ k, k < 14 → ro k = jeI (jrowL S i n0 k)) _ ?_
    intro n0 ro hI17 IH17
    refine ja_iload_n K 3 dX0_moveMutations_17 rfl ?_
    refine ja_aload_n K 0 dX0_moveMutations_18 rfl ?_
    refine ja_get K hu9 0 rfl rfl 0 (by decide) (List.mem_cons_of_mem _ kfX0_7) rfl (congrArg (fun z9 => some (Value.int z9)) rN) dX0_moveMutations_19 ?_
    refine ja_icmp_ge K (tgt := 57) ((jN S) ≤ n0) dX0_moveMutations_22 (by decide) (nI_leI (by omega) (by omega)) (fun h22 => ?_) (fun h22 => ?_)
    · refine ja_aload_n K 0 dX0_moveMutations_57 rfl ?_
      refine ja_get K hu9 0 rfl rfl 12 (by decide) (List.mem_cons_of_mem _ kfX0_48) rfl rfl dX0_moveMutations_58 ?_
      refine ja_iconst K (nI 0) dX0_moveMutations_61 (by decide) ?_
      refine ja_aload_n K 0 dX0_moveMutations_62 rfl ?_
      refine ja_get K hu9 0 rfl rfl 7 (by decide) (List.mem_cons_of_mem _ kfX0_33) rfl rfl dX0_moveMutations_63 ?_
      refine ja_iload_n K 1 dX0_moveMutations_66 rfl ?_
      refine ja_bipush K (nI 14) dX0_moveMutations_67 (by decide) ?_
      refine ja_imul K (nI ((i * 14))) dX0_moveMutations_69 (pk_mul _ _) ?_
      refine ja_bipush K (nI 14) dX0_moveMutations_70 (by decide) ?_
      refine ja_copy K (ws1 := jxc q cI cZ (jxsL (jxsR u ro) (va_cpy (jxR (jxsR u ro)) (jxL (jxsR u ro)) 0 (i * 14) 14))) (st := []) (List.mem_cons_of_mem _ klX0_192) (List.mem_cons_of_mem _ karc_n) (List.mem_cons_of_mem _ karc_s) (List.mem_cons_of_mem _ kini_sys) 11 6 0 rfl rfl rfl 0 (i * 14) 14 rfl rfl rfl (by omega) (by omega) (by decide) (by decide) (by rw [hR9]; exact Nat.le_of_ble_eq_true rfl) (by rw [hR9]; exact Nat.le_of_ble_eq_true rfl) dX0_moveMutations_72 rfl ?_
      exact ja_vret K (jxsL (jxsR u ro) (va_cpy (jxR (jxsR u ro)) (jxL (jxsR u ro)) 0 (i * 14) 14)) rfl (Nat.zero_le _) (Nat.zero_le _) dX0_moveMutations_75 hQ9 rfl (jPh_L hW9 hS9 hi (fun k hk => jcpy_row (F := fun j => jeI (jrowL S i (jN S) j)) (fun j hj => by have h9 := hI17.2 j hj; rw [show n0 = jN S by omega] at h9; exact h9)) ro)
    · refine ja_aload_n K 0 dX0_moveMutations_25 rfl ?_
      refine ja_iload_n K 2 dX0_moveMutations_26 rfl ?_
      refine ja_iload_n K 3 dX0_moveMutations_27 rfl ?_
      refine ja_callVI K (q0 := 0) (qc := (RX0, TX0, 13)) (st := []) [.int (nI ((jP S i))), .int (nI (n0))] (jc_matters l D q cI cZ (jxsR u ro) ((jP S i)) (n0) B (by omega) (by omega) hB.1 hG) (cwV 2 K.1.2.2.2.2 (gX0_X0_matters _) rfl rfl rfl (by decide +kernel) (by rw [hR9]; exact ⟨Nat.le_of_ble_eq_true rfl, Nat.le_of_ble_eq_true rfl⟩)) rfl rfl rfl rfl rfl (Nat.le_of_ble_eq_true rfl) dX0_moveMutations_28 (by rw [hR9]; exact ⟨Nat.le_of_ble_eq_true rfl, Nat.le_of_ble_eq_true rfl⟩) (fun r9 u9 h9 => ?_)
      rw [jbt_at hB (by omega)] at h9
      obtain ⟨rfl, rfl⟩ := h9
      refine ja_if_eq K (tgt := 51) (jmatS S ((jP S i)) (n0) = false) dX0_moveMutations_31 (by decide) (jbI_ne _) (fun h31 => ?_) (fun h31 => ?_)
      · refine ja_iinc K (lv1 := [(0, .ref (q 0)), (1, .int (nI (i))), (2, .int (nI ((jP S i)))), (3, .int (nI ((n0 + 1))))]) 3 (nI ((n0 + 1))) dX0_moveMutations_51 rfl (ja_inc _) (by decide) rfl rfl ?_
        refine ja_goto K (tgt := 17) dX0_moveMutations_54 (by decide) ?_
        exact IH17 (n0 + 1) ro ⟨by omega, fun k hk => by rw [hI17.2 k hk, jrowL_no h31]⟩ (by omega)
      · have hm : jmatS S (jP S i) n0 = true := by simpa using h31
        have hs := jstay_of bp hm
        have hr := jrk_lt hW9 (c := n0) (by omega) hs
        refine ja_aload_n K 0 dX0_moveMutations_34 rfl ?_
        refine ja_get K hu9 0 rfl rfl 12 (by decide) (List.mem_cons_of_mem _ kfX0_48) rfl rfl dX0_moveMutations_35 ?_
        refine ja_aload_n K 0 dX0_moveMutations_38 rfl ?_
        refine ja_get K hu9 0 rfl rfl 8 (by decide) (List.mem_cons_of_mem _ kfX0_36) rfl rfl dX0_moveMutations_39 ?_
        refine ja_iload_n K 3 dX0_moveMutations_42 rfl ?_
        refine ja_iald K (v := nI ((jrk S n0))) 7 0 rfl rfl (n0) rfl (by omega) (by decide) (by have h9 := rB n0 (by omega); rw [jsm_B (by omega) hs] at h9; exact h9) dX0_moveMutations_43 ?_
        refine ja_aload_n K 0 dX0_moveMutations_44 rfl ?_
        refine ja_iload_n K 1 dX0_moveMutations_45 rfl ?_
        refine ja_iload_n K 3 dX0_moveMutations_46 rfl ?_
        refine ja_callVI K (q0 := 0) (qc := (RX0, TX0, 13)) (st := [.int (nI ((jrk S n0))), .ref (q 11)]) [.int (nI (i)), .int (nI (n0))] (jc_mcoming l D q cI cZ S (jxsR u ro) hW9 (i) (n0) hS9 (by omega) (by omega)) (cwV 2 K.1.2.2.2.2 (gX0_X0_mutationComingTo _) rfl rfl rfl (by decide +kernel) (by rw [hR9]; exact ⟨Nat.le_of_ble_eq_true rfl, Nat.le_of_ble_eq_true rfl⟩)) rfl rfl rfl rfl rfl (Nat.le_of_ble_eq_true rfl) dX0_moveMutations_47 (by rw [hR9]; exact ⟨Nat.le_of_ble_eq_true rfl, Nat.le_of_ble_eq_true rfl⟩) (fun r9 u9 h9 => ?_)
        obtain ⟨rfl, rfl⟩ := h9
        refine ja_iast K (ws1 := jxc q cI cZ (jxsR u (upd ro (jrk S n0) (jeI (jcome S (i) (n0)))))) 11 0 rfl rfl ((jrk S n0)) rfl (by omega) (by decide) dX0_moveMutations_50 rfl ?_
        refine ja_iinc K (lv1 := [(0, .ref (q 0)), (1, .int (nI (i))), (2, .int (nI ((jP S i)))), (3, .int (nI ((n0 + 1))))]) 3 (nI ((n0 + 1))) dX0_moveMutations_51 rfl (ja_inc _) (by decide) rfl rfl ?_
        refine ja_goto K (tgt := 17) dX0_moveMutations_54 (by decide) ?_
        exact IH17 (n0 + 1) (upd ro (jrk S n0) (jeI (jcome S i n0))) ⟨by omega, fun k hk => by
          by_cases q1 : k = jrk S n0
          · subst q1; rw [pk_us, jrowL_at hm]
          · rw [pk_un q1, hI17.2 k hk, jrowL_ne q1]⟩ (by omega)
  exact L17 0 g12 ⟨Nat.zero_le _, fun k hk => hg12 k hk⟩
end
section
set_option maxRecDepth 100000 in
set_option maxHeartbeats 4000000 in
theorem jc_moveNodes (l : Launch) (D : va_G) (q : Nat → Nat) (cI cZ : ClassId) (S : JS) (u : JX) (hW9 : jWf S)   (k9 x9 : Nat) (hS9 : jxPh S k9 x9 u) : jkV l yX0_moveNodes wsX0_moveNodes ({ frames := 0, cells := 0, slots := 0, locals := 0 }) D vwCl (jxt cI cZ) (jxc q cI cZ) [.ref (q 0)] (jxc q cI cZ u) (fun u1 => ∃ ta sa, u1 = jxsM (jxsT u ta) sa ∧ jxPn S (jN S) (jxsM (jxsT u ta) sa)) := by
  refine jkV_of (cc := cX0_moveNodes) (maxL := 3) (ret := none) (by decide) rfl (Nat.le_of_ble_eq_true rfl) ?_
  intro p e R s m args below meth c Q A K hn9 hR9 hQ9
  obtain ⟨rN, rT, rM, rU, rK, rP, rA, rL, rB, rG⟩ := id hS9
  obtain ⟨wn, wt, wu, wk, wp, wl, wb⟩ := id hW9
  have hu9 : ∀ w ∈ u_ws RX0 TX0 13, w ∈ wsX0_moveNodes := fun w h => List.mem_cons_of_mem _ (ku_X0 w h)
  show jaW p l e R s m args below meth c 0 0 Q D vwCl A 3 (jxc q cI cZ u) [(0, .ref (q 0))] 0 []
  refine ja_iconst K (nI 0) dX0_moveNodes_0 (by decide) ?_
  refine ja_istore_n K (lv1 := [(0, .ref (q 0)), (1, .int (nI 0))]) dX0_moveNodes_1 (by decide) rfl rfl ?_
  have L2 : ∀ (i : Nat) (ta : Nat → Int32) (sa : Nat → Int32), (i ≤ jN S ∧ jxPn S i (jxsM (jxsT u ta) sa)) → jaW p l e R s m args below meth c 0 0 Q D vwCl A 3 (jxc q cI cZ (jxsM (jxsT u ta) sa)) [(0, .ref (q 0)), (1, .int (nI (i)))] 2 [] := by
    refine jl_3 (fun (i : Nat) (ta : Nat → Int32) (sa : Nat → Int32) => jN S - i) (fun (i : Nat) (ta : Nat → Int32) (sa : Nat → Int32) => i ≤ jN S ∧ jxPn S i (jxsM (jxsT u ta) sa)) _ ?_
    intro i ta sa hI2 IH2
    refine ja_iload_n K 1 dX0_moveNodes_2 rfl ?_
    refine ja_aload_n K 0 dX0_moveNodes_3 rfl ?_
    refine ja_get K hu9 0 rfl rfl 0 (by decide) (List.mem_cons_of_mem _ kfX0_7) rfl (congrArg (fun z9 => some (Value.int z9)) rN) dX0_moveNodes_4 ?_
    refine ja_icmp_ge K (tgt := 52) ((jN S) ≤ i) dX0_moveNodes_7 (by decide) (nI_leI (by omega) (by omega)) (fun h7 => ?_) (fun h7 => ?_)
    · exact ja_vret K (jxsM (jxsT u ta) sa) rfl (Nat.zero_le _) (Nat.zero_le _) dX0_moveNodes_52 hQ9 rfl ⟨ta, sa, rfl, by rw [← (show i = jN S by omega)]; exact hI2.2⟩
    · refine ja_aload_n K 0 dX0_moveNodes_10 rfl ?_
      refine ja_get K hu9 0 rfl rfl 8 (by decide) (List.mem_cons_of_mem _ kfX0_36) rfl rfl dX0_moveNodes_11 ?_
      refine ja_iload_n K 1 dX0_moveNodes_14 rfl ?_
      refine ja_iald K (v := jeI (jB (jsmall S) i)) 7 0 rfl rfl (i) rfl (by omega) (by decide) (rB _ (by omega)) dX0_moveNodes_15 ?_
      refine ja_istore_n K (lv1 := [(0, .ref (q 0)), (1, .int (nI (i))), (2, .int (jeI (jB (jsmall S) i)))]) dX0_moveNodes_16 (by decide) rfl rfl ?_
      refine ja_iload_n K 2 dX0_moveNodes_17 rfl ?_
      refine ja_iconst K (-1) dX0_moveNodes_18 (by decide) ?_
      refine ja_icmp_eq K (tgt := 46) (jB (jsmall S) i = none) dX0_moveNodes_19 (by decide) (jeI_m1 (o := jB (jsmall S) i) (fun p9 h9 => by have := ((jsmall_wf hW9).2.2.2.2.2.2 _ _ h9); omega)) (fun h19 => ?_) (fun h19 => ?_)
      · have hs : jstay S i = false := by
          cases q1 : jstay S i with
          | false => rfl
          | true => rw [jsm_B (by omega) q1] at h19; cases h19
        refine ja_iinc K (lv1 := [(0, .ref (q 0)), (1, .int (nI ((i + 1)))), (2, .int (jeI (jB (jsmall S) i)))]) 1 (nI ((i + 1))) dX0_moveNodes_46 rfl (ja_inc _) (by decide) rfl rfl ?_
        refine ja_goto K (tgt := 2) dX0_moveNodes_49 (by decide) ?_
        refine ja_locals (lv1 := [(0, .ref (q 0)), (1, .int (nI ((i + 1))))]) [0, 1] rfl ?_
        exact IH2 (i + 1) ta sa ⟨by omega, jPn_go hI2.2 hs⟩ (by omega)
      · obtain ⟨y19, ey19⟩ := Option.ne_none_iff_exists'.mp h19
        try rw [ey19]
        have by19 := ((jsmall_wf hW9).2.2.2.2.2.2 _ _ ey19)
        have hs : jstay S i = true := by
          cases q1 : jstay S i with
          | true => rfl
          | false => rw [jsm_Bn (by simp [q1])] at ey19; cases ey19
        obtain rfl : jrk S i = y19 := by rw [jsm_B (by omega) hs] at ey19; exact Option.some.inj ey19
        refine ja_aload_n K 0 dX0_moveNodes_22 rfl ?_
        refine ja_get K hu9 0 rfl rfl 1 (by decide) (List.mem_cons_of_mem _ kfX0_13) rfl rfl dX0_moveNodes_23 ?_
        refine ja_iload_n K 2 dX0_moveNodes_26 rfl ?_
        refine ja_aload_n K 0 dX0_moveNodes_27 rfl ?_
        refine ja_get K hu9 0 rfl rfl 1 (by decide) (List.mem_cons_of_mem _ kfX0_13) rfl rfl dX0_moveNodes_28 ?_
        refine ja_iload_n K 1 dX0_moveNodes_31 rfl ?_
        refine ja_iald K (v := nI ((jT S i))) 1 0 rfl rfl (i) rfl (by omega) (by decide) (hI2.2.2.2.1 i (Nat.le_refl _) (by omega)) dX0_moveNodes_32 ?_
        refine ja_iast K (ws1 := jxc q cI cZ (jxsM (jxsT u (upd ta (jrk S i) (nI (jT S i)))) sa)) 1 0 rfl rfl (jrk S i) rfl (by omega) (by decide) dX0_moveNodes_33 rfl ?_
        refine ja_aload_n K 0 dX0_moveNodes_34 rfl ?_
        refine ja_get K hu9 0 rfl rfl 2 (by decide) (List.mem_cons_of_mem _ kfX0_17) rfl rfl dX0_moveNodes_35 ?_
        refine ja_iload_n K 2 dX0_moveNodes_38 rfl ?_
        refine ja_aload_n K 0 dX0_moveNodes_39 rfl ?_
        refine ja_get K hu9 0 rfl rfl 2 (by decide) (List.mem_cons_of_mem _ kfX0_17) rfl rfl dX0_moveNodes_40 ?_
        refine ja_iload_n K 1 dX0_moveNodes_43 rfl ?_
        refine ja_zald K (v := jbI (jM S i)) 2 1 rfl rfl (i) rfl (by omega) (by decide) (hI2.2.2.2.2 i (Nat.le_refl _) (by omega)) dX0_moveNodes_44 ?_
        refine ja_zast K (ws1 := jxc q cI cZ (jxsM (jxsT u (upd ta (jrk S i) (nI (jT S i)))) (upd sa (jrk S i) (jbI (jM S i))))) 2 1 rfl rfl (jrk S i) (jbI_nar _) rfl (by omega) (by decide) dX0_moveNodes_45 rfl ?_
        refine ja_iinc K (lv1 := [(0, .ref (q 0)), (1, .int (nI ((i + 1)))), (2, .int (nI ((jrk S i))))]) 1 (nI ((i + 1))) dX0_moveNodes_46 rfl (ja_inc _) (by decide) rfl rfl ?_
        refine ja_goto K (tgt := 2) dX0_moveNodes_49 (by decide) ?_
        refine ja_locals (lv1 := [(0, .ref (q 0)), (1, .int (nI ((i + 1))))]) [0, 1] rfl ?_
        exact IH2 (i + 1) (upd ta (jrk S i) (nI (jT S i))) (upd sa (jrk S i) (jbI (jM S i))) ⟨by omega, jPn_stay hI2.2 (by omega) hs rfl rfl⟩ (by omega)
  exact L2 0 (jxT u) (jxM u) ⟨Nat.zero_le _, jPn_0 rT rM⟩
end
section
set_option maxRecDepth 100000 in
set_option maxHeartbeats 4000000 in
theorem jc_simplify (l : Launch) (D : va_G) (q : Nat → Nat) (cI cZ : ClassId) (S : JS) (u : JX) (hW9 : jWf S) (hS9 : jxR1 S u)  : jkI l yX0_simplify wsX0_simplify ({ frames := 3, cells := 0, slots := 0, locals := 71 }) D vwCl (jxt cI cZ) (jxc q cI cZ) [.ref (q 0)] (jxc q cI cZ u) (fun r u1 => nI (jrk S (jN S)) = r ∧ jxR1 (jsmall S) u1) := by
  refine jkI_of (cc := cX0_simplify) (maxL := 4) (ret := (some .int)) (by decide) rfl (Nat.le_of_ble_eq_true rfl) ?_
  intro p e R s m args below meth c Q A K hn9 hR9 hQ9
  obtain ⟨rN, rT, rM, rU, rK, rP, rA, rL, rB⟩ := id hS9
  obtain ⟨wn, wt, wu, wk, wp, wl, wb⟩ := id hW9
  have hu9 : ∀ w ∈ u_ws RX0 TX0 13, w ∈ wsX0_simplify := fun w h => List.mem_cons_of_mem _ (ku_X0 w h)
  show jaW p l e R s m args below meth c 0 0 Q D vwCl A 4 (jxc q cI cZ u) [(0, .ref (q 0))] 0 []
  refine ja_iconst K (nI 0) dX0_simplify_0 (by decide) ?_
  refine ja_istore_n K (lv1 := [(0, .ref (q 0)), (1, .int (nI 0))]) dX0_simplify_1 (by decide) rfl rfl ?_
  refine ja_iconst K (nI 0) dX0_simplify_2 (by decide) ?_
  refine ja_istore_n K (lv1 := [(0, .ref (q 0)), (1, .int (nI 0)), (2, .int (nI 0))]) dX0_simplify_3 (by decide) rfl rfl ?_
  have L4 : ∀ (x : Nat) (v : JX) (B : Nat), (x ≤ 60 ∧ jxR1 S v ∧ (∀ y, y < x → ∃ B1, jxG v y = nI B1 ∧ jbt S y B1) ∧ B < 16384 ∧ ∀ c1, B.testBit c1 = (decide (c1 < jN S) && jany (fun y => jmatS S y c1) x)) → jaW p l e R s m args below meth c 0 0 Q D vwCl A 4 (jxc q cI cZ v) [(0, .ref (q 0)), (1, .int (nI (B))), (2, .int (nI (x)))] 4 [] := by
    refine jl_3 (fun (x : Nat) (v : JX) (B : Nat) => 60 - x) (fun (x : Nat) (v : JX) (B : Nat) => x ≤ 60 ∧ jxR1 S v ∧ (∀ y, y < x → ∃ B1, jxG v y = nI B1 ∧ jbt S y B1) ∧ B < 16384 ∧ ∀ c1, B.testBit c1 = (decide (c1 < jN S) && jany (fun y => jmatS S y c1) x)) _ ?_
    intro x v B hI4 IH4
    obtain ⟨rN, rT, rM, rU, rK, rP, rA, rL, rB⟩ := id hI4.2.1
    refine ja_iload_n K 2 dX0_simplify_4 rfl ?_
    refine ja_bipush K (nI 60) dX0_simplify_5 (by decide) ?_
    refine ja_icmp_ge K (tgt := 36) (60 ≤ x) dX0_simplify_7 (by decide) (nI_leI (by omega) (by omega)) (fun h7 => ?_) (fun h7 => ?_)
    · refine ja_aload_n K 0 dX0_simplify_36 rfl ?_
      refine ja_iload_n K 1 dX0_simplify_37 rfl ?_
      refine ja_callVI K (q0 := 0) (qc := (RX0, TX0, 13)) (st := []) [.int (nI (B))] (jc_renumber l D q cI cZ (v) (B) hI4.2.2.2.1) (cwV 1 K.1.2.2.2.2 (gX0_X0_renumber _) rfl rfl rfl (by decide +kernel) (by rw [hR9]; exact ⟨Nat.le_of_ble_eq_true rfl, Nat.le_of_ble_eq_true rfl⟩)) rfl rfl rfl rfl rfl (Nat.le_of_ble_eq_true rfl) dX0_simplify_38 (by rw [hR9]; exact ⟨Nat.le_of_ble_eq_true rfl, Nat.le_of_ble_eq_true rfl⟩) (fun r9 u9 h9 => ?_)
      obtain ⟨h8, nb, rfl, hnb⟩ := h9
      have hst : ∀ c1, B.testBit c1 = (decide (c1 < jN S) && jstay S c1) := fun c1 => by rw [hI4.2.2.2.2 c1, show x = 60 by omega]; rfl
      rw [(jstayB hW9 hst).2] at h8
      subst h8
      have hPh : jxPh S 0 0 (jxsB v nb) := ⟨rN, rT, rM, fun x1 c1 h1 h2 => by rw [if_neg (Nat.not_lt_zero _)]; exact rU x1 c1 h1 h2, rK, rP, rA, fun i1 c1 h1 h2 => by rw [if_neg (Nat.not_lt_zero _)]; exact rL i1 c1 h1 h2, fun c1 h1 => by
        show nb c1 = _
        rw [hnb c1 h1, hst c1]
        by_cases q1 : c1 < jN S ∧ jstay S c1 = true
        · rw [if_pos (by simp [q1.1, q1.2]), jsm_B q1.1 q1.2, (jstayB hW9 hst).1 c1 (by omega)]
        · rw [if_neg (by simpa using q1), jsm_Bn q1], fun x1 h1 => hI4.2.2.1 x1 (by omega)⟩
      refine ja_istore_n K (lv1 := [(0, .ref (q 0)), (1, .int (nI (B))), (2, .int (nI ((jrk S (jN S)))))]) dX0_simplify_41 (by decide) rfl rfl ?_
      refine ja_iconst K (nI 0) dX0_simplify_42 (by decide) ?_
      refine ja_istore_n K (lv1 := [(0, .ref (q 0)), (1, .int (nI (B))), (2, .int (nI ((jrk S (jN S))))), (3, .int (nI 0))]) dX0_simplify_43 (by decide) rfl rfl ?_
      have L44 : ∀ (i : Nat) (v1 : JX), (i ≤ jK S ∧ jxPh S i 0 v1) → jaW p l e R s m args below meth c 0 0 Q D vwCl A 4 (jxc q cI cZ v1) [(0, .ref (q 0)), (1, .int (nI (B))), (2, .int (nI ((jrk S (jN S))))), (3, .int (nI (i)))] 44 [] := by
        refine jl_2 (fun (i : Nat) (v1 : JX) => jK S - i) (fun (i : Nat) (v1 : JX) => i ≤ jK S ∧ jxPh S i 0 v1) _ ?_
        intro i v1 hI44 IH44
        obtain ⟨rN, rT, rM, rU, rK, rP, rA, rL, rB, rG⟩ := id hI44.2
        refine ja_iload_n K 3 dX0_simplify_44 rfl ?_
        refine ja_aload_n K 0 dX0_simplify_45 rfl ?_
        refine ja_get K hu9 0 rfl rfl 4 (by decide) (List.mem_cons_of_mem _ kfX0_24) rfl (congrArg (fun z9 => some (Value.int z9)) rK) dX0_simplify_46 ?_
        refine ja_icmp_ge K (tgt := 63) ((jK S) ≤ i) dX0_simplify_49 (by decide) (nI_leI (by omega) (by omega)) (fun h49 => ?_) (fun h49 => ?_)
        · refine ja_iconst K (nI 0) dX0_simplify_63 (by decide) ?_
          refine ja_istore_n K (lv1 := [(0, .ref (q 0)), (1, .int (nI (B))), (2, .int (nI ((jrk S (jN S))))), (3, .int (nI 0))]) dX0_simplify_64 (by decide) rfl rfl ?_
          have L65 : ∀ (x1 : Nat) (v2 : JX), (x1 ≤ 60 ∧ jxPh S i x1 v2) → jaW p l e R s m args below meth c 0 0 Q D vwCl A 4 (jxc q cI cZ v2) [(0, .ref (q 0)), (1, .int (nI (B))), (2, .int (nI ((jrk S (jN S))))), (3, .int (nI (x1)))] 65 [] := by
            refine jl_2 (fun (x1 : Nat) (v2 : JX) => 60 - x1) (fun (x1 : Nat) (v2 : JX) => x1 ≤ 60 ∧ jxPh S i x1 v2) _ ?_
            intro x1 v2 hI65 IH65
            obtain ⟨rN, rT, rM, rU, rK, rP, rA, rL, rB, rG⟩ := id hI65.2
            refine ja_iload_n K 3 dX0_simplify_65 rfl ?_
            refine ja_bipush K (nI 60) dX0_simplify_66 (by decide) ?_
            refine ja_icmp_ge K (tgt := 82) (60 ≤ x1) dX0_simplify_68 (by decide) (nI_leI (by omega) (by omega)) (fun h68 => ?_) (fun h68 => ?_)
            · refine ja_aload_n K 0 dX0_simplify_82 rfl ?_
              refine ja_callVV K (q0 := 0) (qc := (RX0, TX0, 13)) (st := []) [] (jc_moveNodes l D q cI cZ S (v2) hW9 i x1 hI65.2) (cwV 0 K.1.2.2.2.2 (gX0_X0_moveNodes _) rfl rfl rfl (by decide +kernel) (by rw [hR9]; exact ⟨Nat.le_of_ble_eq_true rfl, Nat.le_of_ble_eq_true rfl⟩)) rfl rfl rfl rfl rfl (Nat.le_of_ble_eq_true rfl) dX0_simplify_83 (by rw [hR9]; exact ⟨Nat.le_of_ble_eq_true rfl, Nat.le_of_ble_eq_true rfl⟩) (fun u9 h9 => ?_)
              obtain ⟨ta, sa, rfl, hPn⟩ := h9
              refine ja_aload_n K 0 dX0_simplify_86 rfl ?_
              refine ja_iload_n K 2 dX0_simplify_87 rfl ?_
              refine ja_put K (ws1 := jxc q cI cZ (jxsN (jxsM (jxsT v2 ta) sa) (nI ((jrk S (jN S)))))) hu9 0 rfl rfl 0 (by decide) (List.mem_cons_of_mem _ kfX0_7) rfl tyX0 tyX0_ok nmX0 rfl rfl rfl rfl (Nat.le_of_ble_eq_true rfl) dX0_simplify_88 rfl ?_
              refine ja_iload_n K 2 dX0_simplify_91 rfl ?_
              exact ja_iret K (jxsN (jxsM (jxsT v2 ta) sa) (nI ((jrk S (jN S))))) rfl (Nat.zero_le _) (Nat.zero_le _) dX0_simplify_92 hQ9 rfl ⟨rfl, jPh_end hW9 hI65.2 (by omega) (by omega) hPn⟩
            · refine ja_aload_n K 0 dX0_simplify_71 rfl ?_
              refine ja_iload_n K 3 dX0_simplify_72 rfl ?_
              refine ja_callVV K (q0 := 0) (qc := (RX0, TX0, 13)) (st := []) [.int (nI (x1))] (jc_moveParents l D q cI cZ S (v2) hW9 i (x1) hI65.2 (by omega)) (cwV 1 K.1.2.2.2.2 (gX0_X0_moveParents _) rfl rfl rfl (by decide +kernel) (by rw [hR9]; exact ⟨Nat.le_of_ble_eq_true rfl, Nat.le_of_ble_eq_true rfl⟩)) rfl rfl rfl rfl rfl (Nat.le_of_ble_eq_true rfl) dX0_simplify_73 (by rw [hR9]; exact ⟨Nat.le_of_ble_eq_true rfl, Nat.le_of_ble_eq_true rfl⟩) (fun u9 h9 => ?_)
              obtain ⟨u73, rfl⟩ : ∃ z, z = u9 := ⟨_, rfl⟩
              have h73 := h9
              refine ja_iinc K (lv1 := [(0, .ref (q 0)), (1, .int (nI (B))), (2, .int (nI ((jrk S (jN S))))), (3, .int (nI ((x1 + 1))))]) 3 (nI ((x1 + 1))) dX0_simplify_76 rfl (ja_inc _) (by decide) rfl rfl ?_
              refine ja_goto K (tgt := 65) dX0_simplify_79 (by decide) ?_
              exact IH65 (x1 + 1) u73 ⟨by omega, h73⟩ (by omega)
          exact L65 0 v1 ⟨Nat.zero_le _, hI44.2⟩
        · refine ja_aload_n K 0 dX0_simplify_52 rfl ?_
          refine ja_iload_n K 3 dX0_simplify_53 rfl ?_
          refine ja_callVV K (q0 := 0) (qc := (RX0, TX0, 13)) (st := []) [.int (nI (i))] (jc_moveMutations l D q cI cZ S (v1) hW9 (i) hI44.2 (by omega)) (cwV 1 K.1.2.2.2.2 (gX0_X0_moveMutations _) rfl rfl rfl (by decide +kernel) (by rw [hR9]; exact ⟨Nat.le_of_ble_eq_true rfl, Nat.le_of_ble_eq_true rfl⟩)) rfl rfl rfl rfl rfl (Nat.le_of_ble_eq_true rfl) dX0_simplify_54 (by rw [hR9]; exact ⟨Nat.le_of_ble_eq_true rfl, Nat.le_of_ble_eq_true rfl⟩) (fun u9 h9 => ?_)
          obtain ⟨u54, rfl⟩ : ∃ z, z = u9 := ⟨_, rfl⟩
          have h54 := h9
          refine ja_iinc K (lv1 := [(0, .ref (q 0)), (1, .int (nI (B))), (2, .int (nI ((jrk S (jN S))))), (3, .int (nI ((i + 1))))]) 3 (nI ((i + 1))) dX0_simplify_57 rfl (ja_inc _) (by decide) rfl rfl ?_
          refine ja_goto K (tgt := 44) dX0_simplify_60 (by decide) ?_
          exact IH44 (i + 1) u54 ⟨by omega, h54⟩ (by omega)
      exact L44 0 (jxsB v nb) ⟨Nat.zero_le _, hPh⟩
    · refine ja_aload_n K 0 dX0_simplify_10 rfl ?_
      refine ja_get K hu9 0 rfl rfl 10 (by decide) (List.mem_cons_of_mem _ kfX0_42) rfl rfl dX0_simplify_11 ?_
      refine ja_iload_n K 2 dX0_simplify_14 rfl ?_
      refine ja_aload_n K 0 dX0_simplify_15 rfl ?_
      refine ja_iload_n K 2 dX0_simplify_16 rfl ?_
      refine ja_callVI K (q0 := 0) (qc := (RX0, TX0, 13)) (st := [.int (nI (x)), .ref (q 9)]) [.int (nI (x))] (jc_findMattering l D q cI cZ S (v) hW9 hI4.2.1 (x) (by omega)) (cwV 1 K.1.2.2.2.2 (gX0_X0_findMattering _) rfl rfl rfl (by decide +kernel) (by rw [hR9]; exact ⟨Nat.le_of_ble_eq_true rfl, Nat.le_of_ble_eq_true rfl⟩)) rfl rfl rfl rfl rfl (Nat.le_of_ble_eq_true rfl) dX0_simplify_17 (by rw [hR9]; exact ⟨Nat.le_of_ble_eq_true rfl, Nat.le_of_ble_eq_true rfl⟩) (fun r9 u9 h9 => ?_)
      obtain ⟨B17, rfl, hB17, g17, rfl⟩ := h9
      refine ja_iast K (ws1 := jxc q cI cZ (jxsG (jxsC v g17) (upd (jxG v) x (nI B17)))) 9 0 rfl rfl (x) rfl (by omega) (by decide) dX0_simplify_20 rfl ?_
      refine ja_iload_n K 1 dX0_simplify_21 rfl ?_
      refine ja_aload_n K 0 dX0_simplify_22 rfl ?_
      refine ja_get K hu9 0 rfl rfl 10 (by decide) (List.mem_cons_of_mem _ kfX0_42) rfl rfl dX0_simplify_23 ?_
      refine ja_iload_n K 2 dX0_simplify_26 rfl ?_
      refine ja_iald K (v := nI (B17)) 9 0 rfl rfl (x) rfl (by omega) (by decide) pk_us dX0_simplify_27 ?_
      refine ja_ior K (nI ((B ||| B17))) dX0_simplify_28 (jnI_or _ _) ?_
      refine ja_istore_n K (lv1 := [(0, .ref (q 0)), (1, .int (nI ((B ||| B17)))), (2, .int (nI (x)))]) dX0_simplify_29 (by decide) rfl rfl ?_
      refine ja_iinc K (lv1 := [(0, .ref (q 0)), (1, .int (nI ((B ||| B17)))), (2, .int (nI ((x + 1))))]) 2 (nI ((x + 1))) dX0_simplify_30 rfl (ja_inc _) (by decide) rfl rfl ?_
      refine ja_goto K (tgt := 4) dX0_simplify_33 (by decide) ?_
      exact IH4 (x + 1) (jxsG (jxsC v g17) (upd (jxG v) x (nI B17))) (B ||| B17) ⟨by omega, hI4.2.1, fun y hy => by
        by_cases q1 : y = x
        · subst q1; exact ⟨B17, pk_us, hB17⟩
        · obtain ⟨B1, b1, b2⟩ := hI4.2.2.1 y (by omega)
          exact ⟨B1, (pk_un q1).trans b1, b2⟩, Nat.or_lt_two_pow (n := 14) hI4.2.2.2.1 hB17.1, fun c1 => by rw [Nat.testBit_or, hI4.2.2.2.2 c1, hB17.2 c1]; simp only [jany]; cases decide (c1 < jN S) <;> simp⟩ (by omega)
  exact L4 0 u 0 ⟨Nat.zero_le _, hS9, fun y hy => absurd hy (Nat.not_lt_zero _), by decide, fun c1 => by simp [jany]⟩
end
