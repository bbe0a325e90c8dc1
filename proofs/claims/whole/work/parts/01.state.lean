/-! The state of the system as a value, and the two pictures of it: the cells of the component (jx) and of the reference (jm). -/
def jeI : Option Nat → Int32
  | none => -1
  | some p => nI p
def jbI : Bool → Int32
  | true => 1
  | false => 0
def joN : Option Nat → Nat
  | none => 0
  | some p => p + 1
theorem jeI_none : jeI none = -1 := rfl
theorem jeI_some (p : Nat) : jeI (some p) = nI p := rfl
theorem jnI_ne {p : Nat} (h : p < 2 ^ 31) : ¬ nI p = -1 := fun q => by
  have a := nI_toInt h
  rw [q] at a
  have b : (-1 : Int32).toInt = -1 := by decide
  rw [b] at a
  omega
theorem jeI_m1 {o : Option Nat} (h : ∀ p, o = some p → p < 2 ^ 31) : jeI o = -1 ↔ o = none := by
  cases o with
  | none => simp [jeI]
  | some p => exact ⟨fun q => absurd q (jnI_ne (h p rfl)), fun q => by cases q⟩
theorem jeI_inj {o o' : Option Nat} (h : ∀ p, o = some p → p < 2 ^ 31) (h' : ∀ p, o' = some p → p < 2 ^ 31) : jeI o = jeI o' ↔ o = o' := by
  cases o with
  | none =>
    cases o' with
    | none => simp
    | some p => exact ⟨fun q => absurd q.symm (jnI_ne (h' p rfl)), fun q => by cases q⟩
  | some p =>
    cases o' with
    | none => exact ⟨fun q => absurd q (jnI_ne (h p rfl)), fun q => by cases q⟩
    | some p' =>
      refine ⟨fun q => ?_, fun q => by rw [q]⟩
      rw [(nI_eq (h p rfl) (h' p' rfl)).mp q]
theorem joN_eI (o : Option Nat) : nI (joN o) - 1 = jeI o := by
  cases o with
  | none => decide
  | some p => exact nI_pred p
theorem jeI_lt0 {o : Option Nat} (h : ∀ p, o = some p → p < 2 ^ 31) : jeI o < 0 ↔ o = none := by
  cases o with
  | none => exact ⟨fun _ => rfl, fun _ => by decide⟩
  | some p => exact ⟨fun q => absurd q (nI_pos (h p rfl)), fun q => by cases q⟩
theorem jeI_ge0 {o : Option Nat} (h : ∀ p, o = some p → p < 2 ^ 31) : 0 ≤ jeI o ↔ ¬ o = none := by
  cases o with
  | none => exact ⟨fun q => absurd q (by decide), fun q => absurd rfl q⟩
  | some p => exact ⟨fun _ q => (by cases q), fun _ => nI_pos' (h p rfl)⟩
theorem jbI_ne (b : Bool) : jbI b = 0 ↔ b = false := by cases b <;> decide
theorem jbI_nar (b : Bool) : vp_nar .boolean (jbI b) = jbI b := by cases b <;> rfl
theorem jbI_narrow (b : Bool) : narrow .boolean (.int (jbI b)) = .int (jbI b) := by cases b <;> rfl
/-- nodes, times, samples, parents (place, node), sites, their places, ancestral letters, mutations (site, node), new numbers -/
abbrev JS : Type := Nat × (Nat → Nat) × (Nat → Bool) × (Nat → Nat → Option Nat) × Nat × (Nat → Nat) × (Nat → Nat) × (Nat → Nat → Option Nat) × (Nat → Option Nat)
def jN (S : JS) : Nat := S.1
def jT (S : JS) : Nat → Nat := S.2.1
def jM (S : JS) : Nat → Bool := S.2.2.1
def jU (S : JS) : Nat → Nat → Option Nat := S.2.2.2.1
def jK (S : JS) : Nat := S.2.2.2.2.1
def jP (S : JS) : Nat → Nat := S.2.2.2.2.2.1
def jA (S : JS) : Nat → Nat := S.2.2.2.2.2.2.1
def jL (S : JS) : Nat → Nat → Option Nat := S.2.2.2.2.2.2.2.1
def jB (S : JS) : Nat → Option Nat := S.2.2.2.2.2.2.2.2
def jWf (S : JS) : Prop := jN S ≤ 14 ∧ (∀ i, i < jN S → jT S i ≤ 1000) ∧ (∀ x c p, jU S x c = some p → c < jN S ∧ p < jN S ∧ jT S c < jT S p) ∧ jK S ≤ 8 ∧ (∀ i, i < jK S → jP S i < 60 ∧ jA S i < 4) ∧ (∀ i c a, jL S i c = some a → i < jK S ∧ c < jN S ∧ a < 4) ∧ (∀ c a, jB S c = some a → a < 14)
/-- how many k below n have P -/
def jct (P : Nat → Bool) : Nat → Nat
  | 0 => 0
  | k + 1 => jct P k + (if P k then 1 else 0)
theorem jct_le (P : Nat → Bool) (n : Nat) : jct P n ≤ n := by
  induction n with
  | zero => exact Nat.le_refl _
  | succ n ih => simp only [jct]; split <;> omega
theorem jct_mono {P P' : Nat → Bool} {n : Nat} (h : ∀ k, k < n → P k = true → P' k = true) : jct P n ≤ jct P' n := by
  induction n with
  | zero => exact Nat.le_refl _
  | succ n ih =>
    have a := ih (fun k hk => h k (by omega))
    have b := h n (by omega)
    simp only [jct]
    cases hp : P n <;> cases hq : P' n <;> simp_all <;> omega
theorem jct_lt {P P' : Nat → Bool} {n j : Nat} (h : ∀ k, k < n → P k = true → P' k = true) (hj : j < n) (h1 : P j = false) (h2 : P' j = true) : jct P n < jct P' n := by
  induction n with
  | zero => omega
  | succ n ih =>
    simp only [jct]
    by_cases e : j = n
    · subst e
      have a := jct_mono (n := j) (fun k hk => h k (by omega))
      simp [h1, h2]
      omega
    · have a := ih (fun k hk => h k (by omega)) (by omega)
      have b := h n (by omega)
      cases hp : P n <;> cases hq : P' n <;> simp_all <;> omega
/-- the first on the way up, of at most k steps, that has P -/
def jpF (up : Nat → Option Nat) (P : Nat → Bool) : Nat → Option Nat → Option Nat
  | 0, _ => none
  | _ + 1, none => none
  | k + 1, some x => if P x then some x else jpF up P k (up x)
theorem jpF_none (up : Nat → Option Nat) (P : Nat → Bool) (k : Nat) : jpF up P k none = none := by cases k <;> rfl
/-- parents are younger than the next: at most n nodes, each later than the one below it -/
def jup (n : Nat) (t : Nat → Nat) (up : Nat → Option Nat) : Prop := ∀ c p, up c = some p → c < n ∧ p < n ∧ t c < t p
def jht (n : Nat) (t : Nat → Nat) (x : Nat) : Nat := jct (fun y => decide (t x < t y)) n
theorem jht_up {n : Nat} {t : Nat → Nat} {up : Nat → Option Nat} (h : jup n t up) {c p : Nat} (e : up c = some p) : jht n t p < jht n t c := by
  obtain ⟨h1, h2, h3⟩ := h c p e
  refine jct_lt (j := p) (fun k _ hk => ?_) h2 (by simp) (by simpa using h3)
  simp only [decide_eq_true_eq] at hk ⊢
  omega
theorem jht_lt {n : Nat} {t : Nat → Nat} {x : Nat} (hx : x < n) : jht n t x < n := by
  have a : jct (fun y => decide (t x < t y)) n < jct (fun _ => true) n := jct_lt (j := x) (fun _ _ _ => rfl) hx (by simp) rfl
  exact Nat.lt_of_lt_of_le a (jct_le _ _)
theorem jpF_more {n : Nat} {t : Nat → Nat} {up : Nat → Option Nat} (h : jup n t up) (P : Nat → Bool) : ∀ (k x : Nat), jht n t x < k → jpF up P (k + 1) (some x) = jpF up P k (some x) := by
  intro k
  induction k with
  | zero => intro x hx; omega
  | succ k ih =>
    intro x hx
    simp only [jpF]
    split
    · rfl
    · cases e : up x with
      | none => cases k <;> rfl
      | some p =>
        have a := jht_up h e
        exact ih p (by omega)
/-- a step of the way up, where its length doesn't matter -/
theorem jpF_step {n : Nat} {t : Nat → Nat} {up : Nat → Option Nat} (h : jup n t up) (hn : n ≤ 14) (P : Nat → Bool) (x : Nat) : jpF up P 14 (some x) = if P x then some x else jpF up P 14 (up x) := by
  show (if P x then some x else jpF up P 13 (up x)) = _
  split
  · rfl
  · cases e : up x with
    | none => rfl
    | some p =>
      have a := jht_up h e
      have b := jht_lt (t := t) (h x p e).1
      exact (jpF_more h P 13 p (by omega)).symm
theorem jpF_P {up : Nat → Option Nat} {P : Nat → Bool} : ∀ {k : Nat} {o : Option Nat} {x : Nat}, jpF up P k o = some x → P x = true := by
  intro k
  induction k with
  | zero => intro o x h; simp [jpF] at h
  | succ k ih =>
    intro o x h
    cases o with
    | none => simp [jpF] at h
    | some y =>
      simp only [jpF] at h
      split at h
      · rename_i hp
        cases h
        exact hp
      · exact ih h
theorem jpF_lt {n : Nat} {t : Nat → Nat} {up : Nat → Option Nat} (h : jup n t up) {P : Nat → Bool} : ∀ {k : Nat} {o : Option Nat} {x : Nat}, (∀ y, o = some y → y < n) → jpF up P k o = some x → x < n := by
  intro k
  induction k with
  | zero => intro o x _ h; simp [jpF] at h
  | succ k ih =>
    intro o x ho hx
    cases o with
    | none => simp [jpF] at hx
    | some y =>
      simp only [jpF] at hx
      split at hx
      · cases hx
        exact ho _ rfl
      · exact ih (fun z hz => (h y z hz).2.1) hx
def jhold (up : Nat → Option Nat) (x c : Nat) : Bool := (jpF up (fun y => y == x) 14 (some c)).isSome
def junder (n : Nat) (sm : Nat → Bool) (up : Nat → Option Nat) (x : Nat) : Nat := jct (fun c => sm c && jhold up x c) n
def jfork (n : Nat) (sm : Nat → Bool) (up : Nat → Option Nat) (x : Nat) : Nat := jct (fun c => up c == some x && decide (0 < junder n sm up c)) n
def jmat (n : Nat) (sm : Nat → Bool) (up : Nat → Option Nat) (x : Nat) : Bool := sm x || decide (1 < jfork n sm up x)
def jmeet (up : Nat → Option Nat) (a b : Nat) : Option Nat := jpF up (fun x => jhold up x b) 14 (some a)
def jlet (up : Nat → Option Nat) (mu : Nat → Option Nat) (an c : Nat) : Nat := match jpF up (fun x => (mu x).isSome) 14 (some c) with
  | none => an
  | some x => (mu x).getD 0
theorem jbI_nz (b : Bool) : (¬ jbI b = 0) ↔ b = true := by cases b <;> decide
theorem ja_inc (i : Nat) : nI i + Int32.ofInt 1 = nI (i + 1) := (nI_succ i).symm
/-- a number of something that there are n of -/
def jin (z : Int32) (n : Nat) : Bool := decide (0 ≤ z ∧ z < nI n)
theorem jin_of {z : Int32} {n : Nat} (h : jin z n = true) (hn : n < 2 ^ 31) : ∃ j, j < n ∧ z = nI j := by
  simp only [jin, decide_eq_true_eq] at h
  rcases pk_ix z hn with h1 | h1 | h1
  · rw [Int32.lt_iff_toInt_lt] at h1
    have h2 := Int32.le_iff_toInt_le.mp h.1
    omega
  · have h2 := Int32.lt_iff_toInt_lt.mp h.2
    rw [Int32.le_iff_toInt_le] at h1
    omega
  · exact h1
theorem jin_nI {j n : Nat} (hj : j < 2 ^ 31) (hn : n < 2 ^ 31) : jin (nI j) n = decide (j < n) := by
  simp only [jin]
  congr 1
  rw [nI_ltI hj hn]
  simp [nI_pos' hj]
def jrun (a b : Int32) : Bool := decide (0 ≤ a ∧ a < b ∧ b ≤ nI 60)
theorem jrun_of {a b : Int32} (h : jrun a b = true) : ∃ i j, i < j ∧ j ≤ 60 ∧ a = nI i ∧ b = nI j := by
  simp only [jrun, decide_eq_true_eq] at h
  obtain ⟨h1, h2, h3⟩ := h
  have g1 := Int32.le_iff_toInt_le.mp h1
  have g2 := Int32.lt_iff_toInt_lt.mp h2
  have g3 := Int32.le_iff_toInt_le.mp h3
  have e60 : (nI 60).toInt = 60 := nI_toInt (by omega)
  have e0 : (0 : Int32).toInt = 0 := by decide
  rw [e60] at g3
  rw [e0] at g1
  have ja : jin a 61 = true := by
    simp only [jin, decide_eq_true_eq]
    refine ⟨h1, Int32.lt_iff_toInt_lt.mpr ?_⟩
    rw [nI_toInt (by omega)]
    omega
  have jb : jin b 61 = true := by
    simp only [jin, decide_eq_true_eq]
    refine ⟨Int32.le_iff_toInt_le.mpr ?_, Int32.lt_iff_toInt_lt.mpr ?_⟩
    · rw [e0]; omega
    · rw [nI_toInt (by omega)]; omega
  obtain ⟨i, hi, rfl⟩ := jin_of ja (by omega)
  obtain ⟨j, hj, rfl⟩ := jin_of jb (by omega)
  rw [nI_toInt (by omega)] at g2 g3
  rw [nI_toInt (by omega)] at g2
  exact ⟨i, j, by omega, by omega, rfl, rfl⟩
/-- sums and lists by counting up -/
def jsm (f : Nat → Nat) : Nat → Nat
  | 0 => 0
  | k + 1 => jsm f k + f k
theorem jsm_congr {f g : Nat → Nat} {n : Nat} (h : ∀ k, k < n → f k = g k) : jsm f n = jsm g n := by
  induction n with
  | zero => rfl
  | succ n ih => simp only [jsm]; rw [ih (fun k hk => h k (by omega)), h n (by omega)]
theorem jsm_zero {f : Nat → Nat} {n : Nat} (h : ∀ k, k < n → f k = 0) : jsm f n = 0 := by
  induction n with
  | zero => rfl
  | succ n ih => simp only [jsm]; rw [ih (fun k hk => h k (by omega)), h n (by omega)]
theorem jsm_add (f g : Nat → Nat) (n : Nat) : jsm (fun k => f k + g k) n = jsm f n + jsm g n := by
  induction n with
  | zero => rfl
  | succ n ih => simp only [jsm]; rw [ih]; omega
theorem jsm_swap (f : Nat → Nat → Nat) (a b : Nat) : jsm (fun i => jsm (fun k => f i k) b) a = jsm (fun k => jsm (fun i => f i k) a) b := by
  induction a with
  | zero => exact (jsm_zero (fun _ _ => rfl)).symm
  | succ a ih =>
    simp only [jsm]
    rw [ih, ← jsm_add]
theorem jsm_le {f : Nat → Nat} {n m : Nat} (h : ∀ k, k < n → f k ≤ m) : jsm f n ≤ n * m := by
  induction n with
  | zero => simp [jsm]
  | succ n ih =>
    have a := ih (fun k hk => h k (by omega))
    have b := h n (by omega)
    simp only [jsm]
    rw [Nat.succ_mul]
    omega
theorem jct_sm (P : Nat → Bool) (n : Nat) : jct P n = jsm (fun k => if P k then 1 else 0) n := by
  induction n with
  | zero => rfl
  | succ n ih => simp only [jct, jsm]; rw [ih]
theorem jct_congr {P P' : Nat → Bool} {n : Nat} (h : ∀ k, k < n → P k = P' k) : jct P n = jct P' n := by
  induction n with
  | zero => rfl
  | succ n ih => simp only [jct]; rw [ih (fun k hk => h k (by omega)), h n (by omega)]
def jfl {α : Type} (f : Nat → List α) : Nat → List α
  | 0 => []
  | k + 1 => jfl f k ++ f k
theorem jfl_len {α : Type} (f : Nat → List α) (n : Nat) : (jfl f n).length = jsm (fun k => (f k).length) n := by
  induction n with
  | zero => rfl
  | succ n ih => simp only [jfl, jsm, List.length_append]; rw [ih]
theorem jin_t {z : Int32} {n : Nat} (h1 : ¬ z < 0) (h2 : ¬ nI n ≤ z) : jbI (jin z n) = nI 1 := by
  have a : jin z n = true := by
    simp only [jin, decide_eq_true_eq]
    rw [Int32.lt_iff_toInt_lt] at h1
    rw [Int32.le_iff_toInt_le] at h2
    rw [Int32.le_iff_toInt_le, Int32.lt_iff_toInt_lt]
    omega
  rw [a]; decide
theorem jin_f1 {z : Int32} {n : Nat} (h1 : z < 0) : jbI (jin z n) = nI 0 := by
  have a : jin z n = false := by
    simp only [jin, decide_eq_false_iff_not]
    rw [Int32.lt_iff_toInt_lt] at h1
    rw [Int32.le_iff_toInt_le]
    omega
  rw [a]; decide
theorem jin_f2 {z : Int32} {n : Nat} (h2 : nI n ≤ z) : jbI (jin z n) = nI 0 := by
  have a : jin z n = false := by
    simp only [jin, decide_eq_false_iff_not]
    rw [Int32.le_iff_toInt_le] at h2
    rw [Int32.lt_iff_toInt_lt]
    omega
  rw [a]; decide
theorem jrun_t {a b : Int32} (h1 : ¬ a < 0) (h2 : ¬ b ≤ a) (h3 : ¬ nI 60 < b) : jbI (jrun a b) = nI 1 := by
  have e : jrun a b = true := by
    simp only [jrun, decide_eq_true_eq]
    rw [Int32.lt_iff_toInt_lt] at h1 h3
    rw [Int32.le_iff_toInt_le] at h2
    rw [Int32.le_iff_toInt_le, Int32.lt_iff_toInt_lt, Int32.le_iff_toInt_le]
    omega
  rw [e]; decide
theorem jrun_f1 {a b : Int32} (h1 : a < 0) : jbI (jrun a b) = nI 0 := by
  have e : jrun a b = false := by
    simp only [jrun, decide_eq_false_iff_not]
    rw [Int32.lt_iff_toInt_lt] at h1
    rw [Int32.le_iff_toInt_le]
    omega
  rw [e]; decide
theorem jrun_f2 {a b : Int32} (h2 : b ≤ a) : jbI (jrun a b) = nI 0 := by
  have e : jrun a b = false := by
    simp only [jrun, decide_eq_false_iff_not]
    rw [Int32.le_iff_toInt_le] at h2
    rw [Int32.lt_iff_toInt_lt]
    omega
  rw [e]; decide
theorem jrun_f3 {a b : Int32} (h3 : nI 60 < b) : jbI (jrun a b) = nI 0 := by
  have e : jrun a b = false := by
    simp only [jrun, decide_eq_false_iff_not]
    rw [Int32.lt_iff_toInt_lt] at h3
    rw [Int32.le_iff_toInt_le (x := b)]
    omega
  rw [e]; decide
theorem jb1 {b : Bool} (h : b = true) : jbI b = nI 1 := by rw [h]; decide
theorem jb0 {b : Bool} (h : b = false) : jbI b = nI 0 := by rw [h]; decide
theorem ja_nz1 : narrow .boolean (.int (nI 1)) = .int (nI 1) := by first | rfl | decide
theorem ja_nz0 : narrow .boolean (.int (nI 0)) = .int (nI 0) := by first | rfl | decide
