section
/-! The state of the system as a value, and the two pictures of it: the cells of the component (jx) and of the reference (jm). -/
def jeI : Option Nat → Int32
  | none => -1
  | some p => nI p
def jbI : Bool → Int32
  | true => 1
  | false => 0
def joN : Option Nat → Nat
  | none => 0
  | some p => p + 1
theorem jeI_none : jeI none = -1 := rfl
theorem jeI_some (p : Nat) : jeI (some p) = nI p := rfl
theorem jnI_ne {p : Nat} (h : p < 2 ^ 31) : ¬ nI p = -1 := fun q => by
  have a := nI_toInt h
  rw [q] at a
  have b : (-1 : Int32).toInt = -1 := by decide
  rw [b] at a
  omega
theorem jeI_m1 {o : Option Nat} (h : ∀ p, o = some p → p < 2 ^ 31) : jeI o = -1 ↔ o = none := by
  cases o with
  | none => simp [jeI]
  | some p => exact ⟨fun q => absurd q (jnI_ne (h p rfl)), fun q => by cases q⟩
theorem jeI_inj {o o' : Option Nat} (h : ∀ p, o = some p → p < 2 ^ 31) (h' : ∀ p, o' = some p → p < 2 ^ 31) : jeI o = jeI o' ↔ o = o' := by
  cases o with
  | none =>
    cases o' with
    | none => simp
    | some p => exact ⟨fun q => absurd q.symm (jnI_ne (h' p rfl)), fun q => by cases q⟩
  | some p =>
    cases o' with
    | none => exact ⟨fun q => absurd q (jnI_ne (h p rfl)), fun q => by cases q⟩
    | some p' =>
      refine ⟨fun q => ?_, fun q => by rw [q]⟩
      rw [(nI_eq (h p rfl) (h' p' rfl)).mp q]
theorem joN_eI (o : Option Nat) : nI (joN o) - 1 = jeI o := by
  cases o with
  | none => decide
  | some p => exact nI_pred p
theorem jeI_lt0 {o : Option Nat} (h : ∀ p, o = some p → p < 2 ^ 31) : jeI o < 0 ↔ o = none := by
  cases o with
  | none => exact ⟨fun _ => rfl, fun _ => by decide⟩
  | some p => exact ⟨fun q => absurd q (nI_pos (h p rfl)), fun q => by cases q⟩
theorem jeI_ge0 {o : Option Nat} (h : ∀ p, o = some p → p < 2 ^ 31) : 0 ≤ jeI o ↔ ¬ o = none := by
  cases o with
  | none => exact ⟨fun q => absurd q (by decide), fun q => absurd rfl q⟩
  | some p => exact ⟨fun _ q => (by cases q), fun _ => nI_pos' (h p rfl)⟩
theorem jbI_ne (b : Bool) : jbI b = 0 ↔ b = false := by cases b <;> decide
theorem jbI_nar (b : Bool) : vp_nar .boolean (jbI b) = jbI b := by cases b <;> rfl
theorem jbI_narrow (b : Bool) : narrow .boolean (.int (jbI b)) = .int (jbI b) := by cases b <;> rfl
/-- nodes, times, samples, parents (place, node), sites, their places, ancestral letters, mutations (site, node), new numbers -/
abbrev JS : Type := Nat × (Nat → Nat) × (Nat → Bool) × (Nat → Nat → Option Nat) × Nat × (Nat → Nat) × (Nat → Nat) × (Nat → Nat → Option Nat) × (Nat → Option Nat)
def jN (S : JS) : Nat := S.1
def jT (S : JS) : Nat → Nat := S.2.1
def jM (S : JS) : Nat → Bool := S.2.2.1
def jU (S : JS) : Nat → Nat → Option Nat := S.2.2.2.1
def jK (S : JS) : Nat := S.2.2.2.2.1
def jP (S : JS) : Nat → Nat := S.2.2.2.2.2.1
def jA (S : JS) : Nat → Nat := S.2.2.2.2.2.2.1
def jL (S : JS) : Nat → Nat → Option Nat := S.2.2.2.2.2.2.2.1
def jB (S : JS) : Nat → Option Nat := S.2.2.2.2.2.2.2.2
def jWf (S : JS) : Prop := jN S ≤ 14 ∧ (∀ i, i < jN S → jT S i ≤ 1000) ∧ (∀ x c p, jU S x c = some p → c < jN S ∧ p < jN S ∧ jT S c < jT S p) ∧ jK S ≤ 8 ∧ (∀ i, i < jK S → jP S i < 60 ∧ jA S i < 4) ∧ (∀ i c a, jL S i c = some a → i < jK S ∧ c < jN S ∧ a < 4) ∧ (∀ c a, jB S c = some a → a < 14)
/-- the component's numbers and rows: nodeCount times samples parents siteCount sitePlaces ancestrals mutations newNumbers carried mattering tally row -/
abbrev JX : Type := Int32 × (Nat → Int32) × (Nat → Int32) × (Nat → Int32) × Int32 × (Nat → Int32) × (Nat → Int32) × (Nat → Int32) × (Nat → Int32) × (Nat → Int32) × (Nat → Int32) × (Nat → Int32) × (Nat → Int32)
def jxN (u : JX) : Int32 := u.1
def jxT (u : JX) : Nat → Int32 := u.2.1
def jxM (u : JX) : Nat → Int32 := u.2.2.1
def jxU (u : JX) : Nat → Int32 := u.2.2.2.1
def jxK (u : JX) : Int32 := u.2.2.2.2.1
def jxP (u : JX) : Nat → Int32 := u.2.2.2.2.2.1
def jxA (u : JX) : Nat → Int32 := u.2.2.2.2.2.2.1
def jxL (u : JX) : Nat → Int32 := u.2.2.2.2.2.2.2.1
def jxB (u : JX) : Nat → Int32 := u.2.2.2.2.2.2.2.2.1
def jxC (u : JX) : Nat → Int32 := u.2.2.2.2.2.2.2.2.2.1
def jxG (u : JX) : Nat → Int32 := u.2.2.2.2.2.2.2.2.2.2.1
def jxY (u : JX) : Nat → Int32 := u.2.2.2.2.2.2.2.2.2.2.2.1
def jxR (u : JX) : Nat → Int32 := u.2.2.2.2.2.2.2.2.2.2.2.2
def jxR1 (S : JS) (u : JX) : Prop := jxN u = nI (jN S) ∧ (∀ i, i < jN S → jxT u i = nI (jT S i)) ∧ (∀ i, i < jN S → jxM u i = jbI (jM S i)) ∧ (∀ x c, x < 60 → c < 14 → jxU u (x * 14 + c) = jeI (jU S x c)) ∧ jxK u = nI (jK S) ∧ (∀ i, i < jK S → jxP u i = nI (jP S i)) ∧ (∀ i, i < jK S → jxA u i = nI (jA S i)) ∧ (∀ i c, i < 8 → c < 14 → jxL u (i * 14 + c) = jeI (jL S i c)) ∧ (∀ c, c < 14 → jxB u c = jeI (jB S c))
/-- the reference's: fault nodes time sample parent sites placeOf ancestral mutation became nextParent nextMutation foundLeft foundRight foundParent foundChild -/
abbrev JM : Type := Int32 × Int32 × (Nat → Int32) × (Nat → Int32) × (Nat → Int32) × Int32 × (Nat → Int32) × (Nat → Int32) × (Nat → Int32) × (Nat → Int32) × (Nat → Int32) × (Nat → Int32) × Int32 × Int32 × Int32 × Int32
def jmF (v : JM) : Int32 := v.1
def jmN (v : JM) : Int32 := v.2.1
def jmT (v : JM) : Nat → Int32 := v.2.2.1
def jmM (v : JM) : Nat → Int32 := v.2.2.2.1
def jmU (v : JM) : Nat → Int32 := v.2.2.2.2.1
def jmK (v : JM) : Int32 := v.2.2.2.2.2.1
def jmP (v : JM) : Nat → Int32 := v.2.2.2.2.2.2.1
def jmA (v : JM) : Nat → Int32 := v.2.2.2.2.2.2.2.1
def jmL (v : JM) : Nat → Int32 := v.2.2.2.2.2.2.2.2.1
def jmB (v : JM) : Nat → Int32 := v.2.2.2.2.2.2.2.2.2.1
def jmV (v : JM) : Nat → Int32 := v.2.2.2.2.2.2.2.2.2.2.1
def jmW (v : JM) : Nat → Int32 := v.2.2.2.2.2.2.2.2.2.2.2.1
def jm1 (v : JM) : Int32 := v.2.2.2.2.2.2.2.2.2.2.2.2.1
def jm2 (v : JM) : Int32 := v.2.2.2.2.2.2.2.2.2.2.2.2.2.1
def jm3 (v : JM) : Int32 := v.2.2.2.2.2.2.2.2.2.2.2.2.2.2.1
def jm4 (v : JM) : Int32 := v.2.2.2.2.2.2.2.2.2.2.2.2.2.2.2
def jmR1 (S : JS) (v : JM) : Prop := jmN v = nI (jN S) ∧ (∀ i, i < jN S → jmT v i = nI (jT S i)) ∧ (∀ i, i < jN S → jmM v i = jbI (jM S i)) ∧ (∀ x c, x < 60 → c < jN S → jmU v (60 * c + x) = nI (joN (jU S x c))) ∧ jmK v = nI (jK S) ∧ (∀ i, i < jK S → jmP v i = nI (jP S i)) ∧ (∀ i, i < jK S → jmA v i = nI (jA S i)) ∧ (∀ i c, i < 8 → c < jN S → jmL v (14 * i + c) = nI (joN (jL S i c))) ∧ (∀ c, c < 14 → jmB v c = jeI (jB S c))
/-- how many k below n have P -/
def jct (P : Nat → Bool) : Nat → Nat
  | 0 => 0
  | k + 1 => jct P k + (if P k then 1 else 0)
theorem jct_le (P : Nat → Bool) (n : Nat) : jct P n ≤ n := by
  induction n with
  | zero => exact Nat.le_refl _
  | succ n ih => simp only [jct]; split <;> omega
theorem jct_mono {P P' : Nat → Bool} {n : Nat} (h : ∀ k, k < n → P k = true → P' k = true) : jct P n ≤ jct P' n := by
  induction n with
  | zero => exact Nat.le_refl _
  | succ n ih =>
    have a := ih (fun k hk => h k (by omega))
    have b := h n (by omega)
    simp only [jct]
    cases hp : P n <;> cases hq : P' n <;> simp_all <;> omega
theorem jct_lt {P P' : Nat → Bool} {n j : Nat} (h : ∀ k, k < n → P k = true → P' k = true) (hj : j < n) (h1 : P j = false) (h2 : P' j = true) : jct P n < jct P' n := by
  induction n with
  | zero => omega
  | succ n ih =>
    simp only [jct]
    by_cases e : j = n
    · subst e
      have a := jct_mono (n := j) (fun k hk => h k (by omega))
      simp [h1, h2]
      omega
    · have a := ih (fun k hk => h k (by omega)) (by omega)
      have b := h n (by omega)
      cases hp : P n <;> cases hq : P' n <;> simp_all <;> omega
/-- the first on the way up, of at most k steps, that has P -/
def jpF (up : Nat → Option Nat) (P : Nat → Bool) : Nat → Option Nat → Option Nat
  | 0, _ => none
  | _ + 1, none => none
  | k + 1, some x => if P x then some x else jpF up P k (up x)
theorem jpF_none (up : Nat → Option Nat) (P : Nat → Bool) (k : Nat) : jpF up P k none = none := by cases k <;> rfl
/-- parents are younger than the next: at most n nodes, each later than the one below it -/
def jup (n : Nat) (t : Nat → Nat) (up : Nat → Option Nat) : Prop := ∀ c p, up c = some p → c < n ∧ p < n ∧ t c < t p
def jht (n : Nat) (t : Nat → Nat) (x : Nat) : Nat := jct (fun y => decide (t x < t y)) n
theorem jht_up {n : Nat} {t : Nat → Nat} {up : Nat → Option Nat} (h : jup n t up) {c p : Nat} (e : up c = some p) : jht n t p < jht n t c := by
  obtain ⟨h1, h2, h3⟩ := h c p e
  refine jct_lt (j := p) (fun k _ hk => ?_) h2 (by simp) (by simpa using h3)
  simp only [decide_eq_true_eq] at hk ⊢
  omega
theorem jht_lt {n : Nat} {t : Nat → Nat} {x : Nat} (hx : x < n) : jht n t x < n := by
  have a : jct (fun y => decide (t x < t y)) n < jct (fun _ => true) n := jct_lt (j := x) (fun _ _ _ => rfl) hx (by simp) rfl
  exact Nat.lt_of_lt_of_le a (jct_le _ _)
theorem jpF_more {n : Nat} {t : Nat → Nat} {up : Nat → Option Nat} (h : jup n t up) (P : Nat → Bool) : ∀ (k x : Nat), jht n t x < k → jpF up P (k + 1) (some x) = jpF up P k (some x) := by
  intro k
  induction k with
  | zero => intro x hx; omega
  | succ k ih =>
    intro x hx
    simp only [jpF]
    split
    · rfl
    · cases e : up x with
      | none => cases k <;> rfl
      | some p =>
        have a := jht_up h e
        exact ih p (by omega)
/-- a step of the way up, where its length doesn't matter -/
theorem jpF_step {n : Nat} {t : Nat → Nat} {up : Nat → Option Nat} (h : jup n t up) (hn : n ≤ 14) (P : Nat → Bool) (x : Nat) : jpF up P 14 (some x) = if P x then some x else jpF up P 14 (up x) := by
  show (if P x then some x else jpF up P 13 (up x)) = _
  split
  · rfl
  · cases e : up x with
    | none => rfl
    | some p =>
      have a := jht_up h e
      have b := jht_lt (t := t) (h x p e).1
      exact (jpF_more h P 13 p (by omega)).symm
theorem jpF_P {up : Nat → Option Nat} {P : Nat → Bool} : ∀ {k : Nat} {o : Option Nat} {x : Nat}, jpF up P k o = some x → P x = true := by
  intro k
  induction k with
  | zero => intro o x h; simp [jpF] at h
  | succ k ih =>
    intro o x h
    cases o with
    | none => simp [jpF] at h
    | some y =>
      simp only [jpF] at h
      split at h
      · rename_i hp
        cases h
        exact hp
      · exact ih h
theorem jpF_lt {n : Nat} {t : Nat → Nat} {up : Nat → Option Nat} (h : jup n t up) {P : Nat → Bool} : ∀ {k : Nat} {o : Option Nat} {x : Nat}, (∀ y, o = some y → y < n) → jpF up P k o = some x → x < n := by
  intro k
  induction k with
  | zero => intro o x _ h; simp [jpF] at h
  | succ k ih =>
    intro o x ho hx
    cases o with
    | none => simp [jpF] at hx
    | some y =>
      simp only [jpF] at hx
      split at hx
      · cases hx
        exact ho _ rfl
      · exact ih (fun z hz => (h y z hz).2.1) hx
def jhold (up : Nat → Option Nat) (x c : Nat) : Bool := (jpF up (fun y => y == x) 14 (some c)).isSome
def junder (n : Nat) (sm : Nat → Bool) (up : Nat → Option Nat) (x : Nat) : Nat := jct (fun c => sm c && jhold up x c) n
def jfork (n : Nat) (sm : Nat → Bool) (up : Nat → Option Nat) (x : Nat) : Nat := jct (fun c => up c == some x && decide (0 < junder n sm up c)) n
def jmat (n : Nat) (sm : Nat → Bool) (up : Nat → Option Nat) (x : Nat) : Bool := sm x || decide (1 < jfork n sm up x)
def jmeet (up : Nat → Option Nat) (a b : Nat) : Option Nat := jpF up (fun x => jhold up x b) 14 (some a)
def jlet (up : Nat → Option Nat) (mu : Nat → Option Nat) (an c : Nat) : Nat := match jpF up (fun x => (mu x).isSome) 14 (some c) with
  | none => an
  | some x => (mu x).getD 0
theorem jbI_nz (b : Bool) : (¬ jbI b = 0) ↔ b = true := by cases b <;> decide
theorem ja_inc (i : Nat) : nI i + Int32.ofInt 1 = nI (i + 1) := (nI_succ i).symm
/-- a number of something that there are n of -/
def jin (z : Int32) (n : Nat) : Bool := decide (0 ≤ z ∧ z < nI n)
theorem jin_of {z : Int32} {n : Nat} (h : jin z n = true) (hn : n < 2 ^ 31) : ∃ j, j < n ∧ z = nI j := by
  simp only [jin, decide_eq_true_eq] at h
  rcases pk_ix z hn with h1 | h1 | h1
  · rw [Int32.lt_iff_toInt_lt] at h1
    have h2 := Int32.le_iff_toInt_le.mp h.1
    omega
  · have h2 := Int32.lt_iff_toInt_lt.mp h.2
    rw [Int32.le_iff_toInt_le] at h1
    omega
  · exact h1
theorem jin_nI {j n : Nat} (hj : j < 2 ^ 31) (hn : n < 2 ^ 31) : jin (nI j) n = decide (j < n) := by
  simp only [jin]
  congr 1
  rw [nI_ltI hj hn]
  simp [nI_pos' hj]
def jrun (a b : Int32) : Bool := decide (0 ≤ a ∧ a < b ∧ b ≤ nI 60)
theorem jrun_of {a b : Int32} (h : jrun a b = true) : ∃ i j, i < j ∧ j ≤ 60 ∧ a = nI i ∧ b = nI j := by
  simp only [jrun, decide_eq_true_eq] at h
  obtain ⟨h1, h2, h3⟩ := h
  have g1 := Int32.le_iff_toInt_le.mp h1
  have g2 := Int32.lt_iff_toInt_lt.mp h2
  have g3 := Int32.le_iff_toInt_le.mp h3
  have e60 : (nI 60).toInt = 60 := nI_toInt (by omega)
  have e0 : (0 : Int32).toInt = 0 := by decide
  rw [e60] at g3
  rw [e0] at g1
  have ja : jin a 61 = true := by
    simp only [jin, decide_eq_true_eq]
    refine ⟨h1, Int32.lt_iff_toInt_lt.mpr ?_⟩
    rw [nI_toInt (by omega)]
    omega
  have jb : jin b 61 = true := by
    simp only [jin, decide_eq_true_eq]
    refine ⟨Int32.le_iff_toInt_le.mpr ?_, Int32.lt_iff_toInt_lt.mpr ?_⟩
    · rw [e0]; omega
    · rw [nI_toInt (by omega)]; omega
  obtain ⟨i, hi, rfl⟩ := jin_of ja (by omega)
  obtain ⟨j, hj, rfl⟩ := jin_of jb (by omega)
  rw [nI_toInt (by omega)] at g2 g3
  rw [nI_toInt (by omega)] at g2
  exact ⟨i, j, by omega, by omega, rfl, rfl⟩
/-- sums and lists by counting up -/
def jsm (f : Nat → Nat) : Nat → Nat
  | 0 => 0
  | k + 1 => jsm f k + f k
theorem jsm_congr {f g : Nat → Nat} {n : Nat} (h : ∀ k, k < n → f k = g k) : jsm f n = jsm g n := by
  induction n with
  | zero => rfl
  | succ n ih => simp only [jsm]; rw [ih (fun k hk => h k (by omega)), h n (by omega)]
theorem jsm_zero {f : Nat → Nat} {n : Nat} (h : ∀ k, k < n → f k = 0) : jsm f n = 0 := by
  induction n with
  | zero => rfl
  | succ n ih => simp only [jsm]; rw [ih (fun k hk => h k (by omega)), h n (by omega)]
theorem jsm_add (f g : Nat → Nat) (n : Nat) : jsm (fun k => f k + g k) n = jsm f n + jsm g n := by
  induction n with
  | zero => rfl
  | succ n ih => simp only [jsm]; rw [ih]; omega
theorem jsm_swap (f : Nat → Nat → Nat) (a b : Nat) : jsm (fun i => jsm (fun k => f i k) b) a = jsm (fun k => jsm (fun i => f i k) a) b := by
  induction a with
  | zero => exact (jsm_zero (fun _ _ => rfl)).symm
  | succ a ih =>
    simp only [jsm]
    rw [ih, ← jsm_add]
theorem jsm_le {f : Nat → Nat} {n m : Nat} (h : ∀ k, k < n → f k ≤ m) : jsm f n ≤ n * m := by
  induction n with
  | zero => simp [jsm]
  | succ n ih =>
    have a := ih (fun k hk => h k (by omega))
    have b := h n (by omega)
    simp only [jsm]
    rw [Nat.succ_mul]
    omega
theorem jct_sm (P : Nat → Bool) (n : Nat) : jct P n = jsm (fun k => if P k then 1 else 0) n := by
  induction n with
  | zero => rfl
  | succ n ih => simp only [jct, jsm]; rw [ih]
theorem jct_congr {P P' : Nat → Bool} {n : Nat} (h : ∀ k, k < n → P k = P' k) : jct P n = jct P' n := by
  induction n with
  | zero => rfl
  | succ n ih => simp only [jct]; rw [ih (fun k hk => h k (by omega)), h n (by omega)]
def jfl {α : Type} (f : Nat → List α) : Nat → List α
  | 0 => []
  | k + 1 => jfl f k ++ f k
theorem jfl_len {α : Type} (f : Nat → List α) (n : Nat) : (jfl f n).length = jsm (fun k => (f k).length) n := by
  induction n with
  | zero => rfl
  | succ n ih => simp only [jfl, jsm, List.length_append]; rw [ih]
theorem jin_t {z : Int32} {n : Nat} (h1 : ¬ z < 0) (h2 : ¬ nI n ≤ z) : jbI (jin z n) = nI 1 := by
  have a : jin z n = true := by
    simp only [jin, decide_eq_true_eq]
    rw [Int32.lt_iff_toInt_lt] at h1
    rw [Int32.le_iff_toInt_le] at h2
    rw [Int32.le_iff_toInt_le, Int32.lt_iff_toInt_lt]
    omega
  rw [a]; decide
theorem jin_f1 {z : Int32} {n : Nat} (h1 : z < 0) : jbI (jin z n) = nI 0 := by
  have a : jin z n = false := by
    simp only [jin, decide_eq_false_iff_not]
    rw [Int32.lt_iff_toInt_lt] at h1
    rw [Int32.le_iff_toInt_le]
    omega
  rw [a]; decide
theorem jin_f2 {z : Int32} {n : Nat} (h2 : nI n ≤ z) : jbI (jin z n) = nI 0 := by
  have a : jin z n = false := by
    simp only [jin, decide_eq_false_iff_not]
    rw [Int32.le_iff_toInt_le] at h2
    rw [Int32.lt_iff_toInt_lt]
    omega
  rw [a]; decide
theorem jrun_t {a b : Int32} (h1 : ¬ a < 0) (h2 : ¬ b ≤ a) (h3 : ¬ nI 60 < b) : jbI (jrun a b) = nI 1 := by
  have e : jrun a b = true := by
    simp only [jrun, decide_eq_true_eq]
    rw [Int32.lt_iff_toInt_lt] at h1 h3
    rw [Int32.le_iff_toInt_le] at h2
    rw [Int32.le_iff_toInt_le, Int32.lt_iff_toInt_lt, Int32.le_iff_toInt_le]
    omega
  rw [e]; decide
theorem jrun_f1 {a b : Int32} (h1 : a < 0) : jbI (jrun a b) = nI 0 := by
  have e : jrun a b = false := by
    simp only [jrun, decide_eq_false_iff_not]
    rw [Int32.lt_iff_toInt_lt] at h1
    rw [Int32.le_iff_toInt_le]
    omega
  rw [e]; decide
theorem jrun_f2 {a b : Int32} (h2 : b ≤ a) : jbI (jrun a b) = nI 0 := by
  have e : jrun a b = false := by
    simp only [jrun, decide_eq_false_iff_not]
    rw [Int32.le_iff_toInt_le] at h2
    rw [Int32.lt_iff_toInt_lt]
    omega
  rw [e]; decide
theorem jrun_f3 {a b : Int32} (h3 : nI 60 < b) : jbI (jrun a b) = nI 0 := by
  have e : jrun a b = false := by
    simp only [jrun, decide_eq_false_iff_not]
    rw [Int32.lt_iff_toInt_lt] at h3
    rw [Int32.le_iff_toInt_le (x := b)]
    omega
  rw [e]; decide
theorem jb1 {b : Bool} (h : b = true) : jbI b = nI 1 := by rw [h]; decide
theorem jb0 {b : Bool} (h : b = false) : jbI b = nI 0 := by rw [h]; decide
theorem ja_nz1 : narrow .boolean (.int (nI 1)) = .int (nI 1) := by first | rfl | decide
theorem ja_nz0 : narrow .boolean (.int (nI 0)) = .int (nI 0) := by first | rfl | decide
end
section
/-! Numbers and lists: what the sums and the orders of both sides come to. -/
theorem jct_add (P : Nat → Bool) (m k : Nat) : jct P (m + k) = jct P m + jct (fun c => P (m + c)) k := by
  induction k with
  | zero => rfl
  | succ k ih => show jct P (m + k) + (if P (m + k) then 1 else 0) = _; rw [ih]; simp only [jct]; omega
theorem jct_trunc {P : Nat → Bool} {n m : Nat} (hn : n ≤ m) (h : ∀ k, n ≤ k → k < m → P k = false) : jct P m = jct P n := by
  obtain ⟨d, rfl⟩ : ∃ d, m = n + d := ⟨m - n, by omega⟩
  rw [jct_add]
  have a : jct (fun c => P (n + c)) d = 0 := by
    rw [jct_sm]
    exact jsm_zero (fun k hk => by simp [h (n + k) (by omega) (by omega)])
  omega
theorem jsm_trunc {f : Nat → Nat} {n m : Nat} (hn : n ≤ m) (h : ∀ k, n ≤ k → k < m → f k = 0) : jsm f m = jsm f n := by
  induction m with
  | zero => rw [Nat.le_zero.mp hn]
  | succ m ih =>
    by_cases e : n = m + 1
    · rw [e]
    · simp only [jsm]
      rw [ih (by omega) (fun k h1 h2 => h k h1 (by omega)), h m (by omega) (by omega)]
      rfl
theorem jct_rows (P : Nat → Bool) (b a : Nat) : jct P (a * b) = jsm (fun i => jct (fun c => P (i * b + c)) b) a := by
  induction a with
  | zero => rw [Nat.zero_mul]; rfl
  | succ a ih => rw [Nat.succ_mul, jct_add, ih]; rfl
theorem jct_one {P : Nat → Bool} {n j : Nat} (hj : j < n) (hP : P j = true) (h : ∀ k, k < n → P k = true → k = j) : jct P n = 1 := by
  induction n with
  | zero => omega
  | succ n ih =>
    simp only [jct]
    by_cases e : j = n
    · subst e
      have a : jct P j = 0 := by
        rw [jct_sm]
        refine jsm_zero (fun k hk => ?_)
        cases hq : P k with
        | false => rfl
        | true => have := h k (by omega) hq; omega
      rw [a, hP]
      rfl
    · have a := ih (by omega) (fun k hk => h k (by omega))
      have b : P n = false := by
        cases hq : P n with
        | false => rfl
        | true => have := h n (by omega) hq; omega
      rw [a, b]
      rfl
/-- all mutations: over the rows of the component, and over what there is -/
def jcm (S : JS) : Nat := jsm (fun i => jct (fun c => (jL S i c).isSome) (jN S)) (jK S)
theorem jcm_eq {S : JS} (h : jWf S) : jct (fun i => (jL S (i / 14) (i % 14)).isSome) 112 = jcm S := by
  obtain ⟨wn, -, -, wk, -, wl, -⟩ := h
  have e : jct (fun i => (jL S (i / 14) (i % 14)).isSome) (8 * 14) = _ := jct_rows (fun i => (jL S (i / 14) (i % 14)).isSome) 14 8
  rw [show (112 : Nat) = 8 * 14 from rfl, e]
  have e2 : jsm (fun i => jct (fun c => (jL S ((i * 14 + c) / 14) ((i * 14 + c) % 14)).isSome) 14) 8 = jsm (fun i => jct (fun c => (jL S i c).isSome) (jN S)) 8 := by
    refine jsm_congr (fun i _ => ?_)
    rw [show jct (fun c => (jL S ((i * 14 + c) / 14) ((i * 14 + c) % 14)).isSome) 14 = jct (fun c => (jL S i c).isSome) 14 from jct_congr (fun c hc => by rw [show (i * 14 + c) / 14 = i by omega, show (i * 14 + c) % 14 = c by omega])]
    refine jct_trunc wn (fun k h1 _ => ?_)
    cases hl : jL S i k with
    | none => rfl
    | some a => have := (wl i k a hl).2.1; omega
  rw [e2]
  refine jsm_trunc wk (fun i h1 _ => ?_)
  rw [jct_sm]
  refine jsm_zero (fun k _ => ?_)
  cases hl : jL S i k with
  | none => rfl
  | some a => have := (wl i k a hl).1; omega
/-- pairs of different letters, by a tally -/
def jtal (sm : Nat → Bool) (f : Nat → Nat) (n a : Nat) : Nat := jct (fun c => sm c && f c == a) n
def jprs (sm : Nat → Bool) (f : Nat → Nat) (n : Nat) : Nat := jsm (fun a => jct (fun b => sm a && sm b && f a != f b) a) n
theorem jtal_ne (sm : Nat → Bool) (f : Nat → Nat) (hf : ∀ c, sm c = true → f c < 4) (n a : Nat) : jct (fun b => sm b && a != f b) n + jtal sm f n a = jtal sm f n 0 + jtal sm f n 1 + jtal sm f n 2 + jtal sm f n 3 ∨ 4 ≤ a := by
  by_cases ha : 4 ≤ a
  · exact Or.inr ha
  · refine Or.inl ?_
    induction n with
    | zero => rfl
    | succ n ih =>
      simp only [jtal, jct] at ih ⊢
      by_cases hs : sm n = true
      · have h4 := hf n hs
        have h5 : f n = 0 ∨ f n = 1 ∨ f n = 2 ∨ f n = 3 := by omega
        have h6 : a = 0 ∨ a = 1 ∨ a = 2 ∨ a = 3 := by omega
        rcases h5 with h5 | h5 | h5 | h5 <;> rcases h6 with h6 | h6 | h6 | h6 <;> subst h6 <;> simp [hs, h5] <;> omega
      · simp only [Bool.not_eq_true] at hs
        simp [hs]
        omega
theorem jprs_eq (sm : Nat → Bool) (f : Nat → Nat) (hf : ∀ c, sm c = true → f c < 4) (n : Nat) : jprs sm f n = jtal sm f n 0 * jtal sm f n 1 + (jtal sm f n 0 + jtal sm f n 1) * jtal sm f n 2 + (jtal sm f n 0 + jtal sm f n 1 + jtal sm f n 2) * jtal sm f n 3 := by
  induction n with
  | zero => rfl
  | succ n ih =>
    have e : jprs sm f (n + 1) = jprs sm f n + jct (fun b => sm n && sm b && f n != f b) n := rfl
    have t : ∀ a, jtal sm f (n + 1) a = jtal sm f n a + (if (sm n && f n == a) = true then 1 else 0) := fun a => rfl
    rw [e, ih, t, t, t, t]
    by_cases hs : sm n = true
    · have h4 := hf n hs
      rcases jtal_ne sm f hf n (f n) with h | h
      · simp only [hs, Bool.true_and]
        generalize jct (fun b => sm b && f n != f b) n = g at h ⊢
        generalize e0 : jtal sm f n 0 = t0 at h ⊢
        generalize e1 : jtal sm f n 1 = t1 at h ⊢
        generalize e2 : jtal sm f n 2 = t2 at h ⊢
        generalize e3 : jtal sm f n 3 = t3 at h ⊢
        have h5 : f n = 0 ∨ f n = 1 ∨ f n = 2 ∨ f n = 3 := by omega
        rcases h5 with h5 | h5 | h5 | h5 <;> simp only [h5, e0, e1, e2, e3] at h ⊢ <;> simp [Nat.add_mul, Nat.mul_add] <;> omega
      · omega
    · simp only [Bool.not_eq_true] at hs
      simp only [hs]
      have z : jct (fun b => false && sm b && f n != f b) n = 0 := by
        rw [jct_sm]
        exact jsm_zero (fun k _ => by simp)
      rw [z]
      simp
/-- where an edge begins; the edges of a parent; all edges in their order -/
def jst (up : Nat → Nat → Option Nat) (x c : Nat) : Bool := (up x c).isSome && (x == 0 || up (x - 1) c != up x c)
def jeX (up : Nat → Nat → Option Nat) (p c x : Nat) : List (Nat × Nat) := if up x c == some p && jst up x c then [(x, c)] else []
def jeP (n : Nat) (up : Nat → Nat → Option Nat) (p : Nat) : List (Nat × Nat) := jfl (fun c => jfl (fun x => jeX up p c x) 60) n
def jeT (n : Nat) (t : Nat → Nat) (up : Nat → Nat → Option Nat) (k : Nat) : List (Nat × Nat) := jfl (fun p => if t p == k then jeP n up p else []) n
def jeA (n : Nat) (t : Nat → Nat) (up : Nat → Nat → Option Nat) : List (Nat × Nat) := jfl (fun k => jeT n t up k) 1001
def jlt (t : Nat → Nat) (a b : Nat) : Bool := decide (t a < t b) || (t a == t b && decide (a < b))
def jnx (t : Nat → Nat) (o : Option Nat) : Nat → Option Nat
  | 0 => none
  | m + 1 => if o.all (fun a => jlt t a m) && (jnx t o m).all (fun b => jlt t m b) then some m else jnx t o m
def jeR (n : Nat) (t : Nat → Nat) (up : Nat → Nat → Option Nat) : Nat → Option Nat → List (Nat × Nat)
  | 0, _ => []
  | _ + 1, none => []
  | k + 1, some p => jeP n up p ++ jeR n t up k (jnx t (some p) n)
def jod (n : Nat) (t : Nat → Nat) : List Nat := jfl (fun k => jfl (fun p => if t p == k then [p] else []) n) 1001
theorem jfl_mem {α : Type} {f : Nat → List α} {n : Nat} {a : α} : a ∈ jfl f n ↔ ∃ k, k < n ∧ a ∈ f k := by
  induction n with
  | zero => simp [jfl]
  | succ n ih =>
    simp only [jfl, List.mem_append, ih]
    constructor
    · rintro (⟨k, h1, h2⟩ | h)
      · exact ⟨k, by omega, h2⟩
      · exact ⟨n, by omega, h⟩
    · rintro ⟨k, h1, h2⟩
      by_cases e : k = n
      · subst e; exact Or.inr h2
      · exact Or.inl ⟨k, by omega, h2⟩
theorem jfl_pw {α : Type} {R : α → α → Prop} {f : Nat → List α} {n : Nat} (h1 : ∀ k, k < n → (f k).Pairwise R) (h2 : ∀ i j, i < j → j < n → ∀ a ∈ f i, ∀ b ∈ f j, R a b) : (jfl f n).Pairwise R := by
  induction n with
  | zero => simp [jfl]
  | succ n ih =>
    simp only [jfl, List.pairwise_append]
    refine ⟨ih (fun k hk => h1 k (by omega)) (fun i j hi hj => h2 i j hi (by omega)), h1 n (by omega), fun a ha b hb => ?_⟩
    obtain ⟨k, hk, hka⟩ := jfl_mem.mp ha
    exact h2 k n hk (by omega) a hka b hb
theorem jfl_flat {α β : Type} (g : α → List β) (f : Nat → List α) (n : Nat) : (jfl f n).flatMap g = jfl (fun k => (f k).flatMap g) n := by
  induction n with
  | zero => rfl
  | succ n ih => simp only [jfl, List.flatMap_append, ih]
theorem jfl_congr {α : Type} {f g : Nat → List α} {n : Nat} (h : ∀ k, k < n → f k = g k) : jfl f n = jfl g n := by
  induction n with
  | zero => rfl
  | succ n ih => simp only [jfl]; rw [ih (fun k hk => h k (by omega)), h n (by omega)]
theorem jod_flat (n : Nat) (t : Nat → Nat) (up : Nat → Nat → Option Nat) : (jod n t).flatMap (jeP n up) = jeA n t up := by
  simp only [jod, jeA, jeT]
  rw [jfl_flat]
  refine jfl_congr (fun k _ => ?_)
  rw [jfl_flat]
  refine jfl_congr (fun p _ => ?_)
  split <;> simp
theorem jod_mem {n : Nat} {t : Nat → Nat} (ht : ∀ i, i < n → t i ≤ 1000) {p : Nat} : p ∈ jod n t ↔ p < n := by
  simp only [jod, jfl_mem]
  constructor
  · rintro ⟨k, -, p', h1, h2⟩
    split at h2
    · simp only [List.mem_singleton] at h2
      omega
    · simp at h2
  · intro h
    exact ⟨t p, by have := ht p h; omega, p, h, by simp⟩
theorem jod_pw (n : Nat) (t : Nat → Nat) : (jod n t).Pairwise (fun a b => jlt t a b = true) := by
  refine jfl_pw (fun k _ => ?_) (fun i j hij _ a ha b hb => ?_)
  · refine jfl_pw (fun p _ => by split <;> simp) (fun i j hij _ a ha b hb => ?_)
    split at ha
    · split at hb
      · rename_i h1 h2
        simp only [List.mem_singleton] at ha hb
        subst ha; subst hb
        simp only [beq_iff_eq] at h1 h2
        simp [jlt, h1, h2, hij]
      · simp at hb
    · simp at ha
  · obtain ⟨p, -, h1⟩ := jfl_mem.mp ha
    obtain ⟨p', -, h2⟩ := jfl_mem.mp hb
    split at h1
    · split at h2
      · rename_i e1 e2
        simp only [List.mem_singleton] at h1 h2
        subst h1; subst h2
        simp only [beq_iff_eq] at e1 e2
        simp [jlt]
        omega
      · simp at h2
    · simp at h1
theorem jlt_asym {t : Nat → Nat} {a b : Nat} (h : jlt t a b = true) : jlt t b a = false := by
  simp only [jlt, Bool.or_eq_true, Bool.and_eq_true, decide_eq_true_eq, beq_iff_eq] at h
  cases hb : jlt t b a with
  | false => rfl
  | true =>
    simp only [jlt, Bool.or_eq_true, Bool.and_eq_true, decide_eq_true_eq, beq_iff_eq] at hb
    omega
theorem jlt_irr (t : Nat → Nat) (a : Nat) : jlt t a a = false := by simp [jlt]
theorem jlt_trans {t : Nat → Nat} {a b c : Nat} (h1 : jlt t a b = true) (h2 : jlt t b c = true) : jlt t a c = true := by
  simp only [jlt, Bool.or_eq_true, Bool.and_eq_true, decide_eq_true_eq, beq_iff_eq] at h1 h2 ⊢
  omega
theorem jlt_tot {t : Nat → Nat} {a b : Nat} (h : a ≠ b) : jlt t a b = true ∨ jlt t b a = true := by
  simp only [jlt, Bool.or_eq_true, Bool.and_eq_true, decide_eq_true_eq, beq_iff_eq]
  omega
/-- the least behind o, of those below m -/
theorem jnx_spec (t : Nat → Nat) (o : Option Nat) (m : Nat) : (∀ b, jnx t o m = some b → b < m ∧ o.all (fun a => jlt t a b) = true ∧ ∀ x, x < m → o.all (fun a => jlt t a x) = true → x = b ∨ jlt t b x = true) ∧ (jnx t o m = none → ∀ x, x < m → o.all (fun a => jlt t a x) = false) := by
  induction m with
  | zero => exact ⟨fun b h => by simp [jnx] at h, fun _ x hx => by omega⟩
  | succ m ih =>
    obtain ⟨i1, i2⟩ := ih
    simp only [jnx]
    cases ho : o.all (fun a => jlt t a m) with
    | false =>
      simp only [Bool.false_and, Bool.false_eq_true, if_false]
      refine ⟨fun b hb => ?_, fun hn x hx => ?_⟩
      · obtain ⟨h1, h2, h3⟩ := i1 b hb
        refine ⟨by omega, h2, fun x hx hxo => ?_⟩
        by_cases e : x = m
        · subst e; rw [ho] at hxo; cases hxo
        · exact h3 x (by omega) hxo
      · by_cases e : x = m
        · subst e; exact ho
        · exact i2 hn x (by omega)
    | true =>
      cases hn : jnx t o m with
      | none =>
        simp only [Option.all_none, Bool.and_self, if_true]
        refine ⟨fun b hb => ?_, fun h => by cases h⟩
        cases hb
        refine ⟨by omega, ho, fun x hx hxo => ?_⟩
        by_cases e : x = m
        · exact Or.inl e
        · rw [i2 hn x (by omega)] at hxo; cases hxo
      | some b0 =>
        obtain ⟨h1, h2, h3⟩ := i1 b0 hn
        cases hc : jlt t m b0 with
        | true =>
          simp only [Option.all_some, hc, Bool.and_self, if_true]
          refine ⟨fun b hb => ?_, fun h => by cases h⟩
          cases hb
          refine ⟨by omega, ho, fun x hx hxo => ?_⟩
          by_cases e : x = m
          · exact Or.inl e
          · rcases h3 x (by omega) hxo with rfl | h4
            · exact Or.inr hc
            · exact Or.inr (jlt_trans hc h4)
        | false =>
          simp only [Option.all_some, hc, Bool.and_false, Bool.false_eq_true, if_false]
          refine ⟨fun b hb => ?_, fun h => by cases h⟩
          cases hb
          refine ⟨by omega, h2, fun x hx hxo => ?_⟩
          by_cases e : x = m
          · subst e
            rcases jlt_tot (t := t) (show x ≠ b0 by omega) with h4 | h4
            · rw [hc] at h4; cases h4
            · exact Or.inr h4
          · exact h3 x (by omega) hxo
theorem jnx_next {n : Nat} {t : Nat → Nat} {o : Option Nat} {suf : List Nat} (hs : suf.Pairwise (fun a b => jlt t a b = true)) (h1 : ∀ x, x ∈ suf ↔ x < n ∧ o.all (fun a => jlt t a x) = true) : jnx t o n = suf.head? := by
  obtain ⟨i1, i2⟩ := jnx_spec t o n
  cases hj : jnx t o n with
  | none =>
    cases suf with
    | nil => rfl
    | cons a r =>
      obtain ⟨h2, h3⟩ := (h1 a).mp List.mem_cons_self
      rw [i2 hj a h2] at h3
      cases h3
  | some b =>
    obtain ⟨h2, h3, h4⟩ := i1 b hj
    cases suf with
    | nil => exact absurd ((h1 b).mpr ⟨h2, h3⟩) List.not_mem_nil
    | cons a r =>
      have hb := (h1 b).mpr ⟨h2, h3⟩
      obtain ⟨ha, hao⟩ := (h1 a).mp List.mem_cons_self
      rcases List.mem_cons.mp hb with rfl | hb
      · rfl
      · have h5 := (List.pairwise_cons.mp hs).1 b hb
        rcases h4 a ha hao with rfl | h6
        · rw [jlt_irr] at h5; cases h5
        · rw [jlt_asym h5] at h6; cases h6
theorem jeR_run {n : Nat} {t : Nat → Nat} (ht : ∀ i, i < n → t i ≤ 1000) (up : Nat → Nat → Option Nat) : ∀ (k : Nat) (pre suf : List Nat), jod n t = pre ++ suf → suf.length ≤ k → jeR n t up k suf.head? = suf.flatMap (jeP n up) := by
  intro k
  induction k with
  | zero =>
    intro pre suf _ h2
    rw [List.length_eq_zero_iff.mp (Nat.le_zero.mp h2)]
    rfl
  | succ k ih =>
    intro pre suf h1 h2
    cases suf with
    | nil => rfl
    | cons p r =>
      have pw := jod_pw n t
      rw [h1] at pw
      obtain ⟨p1, p2, p3⟩ := List.pairwise_append.mp pw
      obtain ⟨p4, p5⟩ := List.pairwise_cons.mp p2
      have e : jnx t (some p) n = r.head? := by
        refine jnx_next p5 (fun x => ?_)
        simp only [Option.all_some]
        constructor
        · intro hx
          refine ⟨(jod_mem ht).mp (h1 ▸ List.mem_append_right _ (List.mem_cons_of_mem _ hx)), p4 x hx⟩
        · rintro ⟨hx, hl⟩
          have hm : x ∈ pre ++ p :: r := h1 ▸ (jod_mem ht).mpr hx
          rcases List.mem_append.mp hm with h3 | h3
          · have h4 := p3 x h3 p List.mem_cons_self
            rw [jlt_asym h4] at hl
            cases hl
          · rcases List.mem_cons.mp h3 with rfl | h3
            · rw [jlt_irr] at hl; cases hl
            · exact h3
      simp only [List.head?_cons, jeR, List.flatMap_cons]
      rw [e, ih (pre ++ [p]) r (by rw [h1]; simp) (by simp at h2; omega)]
theorem jod_len {n : Nat} {t : Nat → Nat} (ht : ∀ i, i < n → t i ≤ 1000) : (jod n t).length = n := by
  simp only [jod, jfl_len]
  have e : jsm (fun k => jsm (fun p => (if t p == k then [p] else [] : List Nat).length) n) 1001 = jsm (fun p => jsm (fun k => (if t p == k then [p] else [] : List Nat).length) 1001) n := jsm_swap _ _ _
  rw [e]
  have e2 : jsm (fun p => jsm (fun k => (if t p == k then [p] else [] : List Nat).length) 1001) n = jsm (fun _ => 1) n := by
    refine jsm_congr (fun p hp => ?_)
    have e3 : jsm (fun k => (if t p == k then [p] else [] : List Nat).length) 1001 = jct (fun k => t p == k) 1001 := by
      rw [jct_sm]
      exact jsm_congr (fun k _ => by split <;> simp)
    rw [e3]
    exact jct_one (j := t p) (by have := ht p hp; omega) (by simp) (fun k _ hk => (eq_of_beq hk).symm)
  rw [e2]
  clear e e2 ht
  induction n with
  | zero => rfl
  | succ n ih => simp only [jsm, ih]
/-- the order of the component and that of the reference are one -/
theorem jeR_eq {n : Nat} {t : Nat → Nat} (hn : n ≤ 14) (ht : ∀ i, i < n → t i ≤ 1000) (up : Nat → Nat → Option Nat) : jeR n t up 14 (jnx t none n) = jeA n t up := by
  have e : jnx t none n = (jod n t).head? := jnx_next (jod_pw n t) (fun x => by rw [jod_mem ht]; simp)
  rw [e, jeR_run ht up 14 [] (jod n t) (List.nil_append _).symm (by rw [jod_len ht]; exact hn), jod_flat]
/-- how many edges there are -/
theorem jeA_len {n : Nat} {t : Nat → Nat} {up : Nat → Nat → Option Nat} (ht : ∀ i, i < n → t i ≤ 1000) (hu : ∀ x c p, up x c = some p → c < n ∧ p < n ∧ t c < t p) : (jeA n t up).length = jsm (fun x => jct (fun c => jst up x c) n) 60 := by
  have h1 : (jeA n t up).length = jsm (fun k => jsm (fun p => if t p == k then (jeP n up p).length else 0) n) 1001 := by
    simp only [jeA, jeT, jfl_len]
    refine jsm_congr (fun k _ => jsm_congr (fun p _ => ?_))
    split <;> rfl
  have h2 : jsm (fun k => jsm (fun p => if t p == k then (jeP n up p).length else 0) n) 1001 = jsm (fun p => (jeP n up p).length) n := by
    rw [jsm_swap]
    refine jsm_congr (fun p hp => ?_)
    have a : ∀ m, jsm (fun k => if t p == k then (jeP n up p).length else 0) m = jct (fun k => t p == k) m * (jeP n up p).length := by
      intro m
      induction m with
      | zero => simp [jsm, jct]
      | succ m ih =>
        simp only [jsm, jct, ih]
        split <;> simp [Nat.add_mul]
    rw [a, jct_one (j := t p) (by have := ht p hp; omega) (by simp) (fun k _ hk => (eq_of_beq hk).symm), Nat.one_mul]
  have h3 : jsm (fun p => (jeP n up p).length) n = jsm (fun p => jsm (fun c => jsm (fun x => (jeX up p c x).length) 60) n) n := by
    refine jsm_congr (fun p _ => ?_)
    simp only [jeP, jfl_len]
  rw [h1, h2, h3, jsm_swap]
  have h4 : jsm (fun c => jsm (fun p => jsm (fun x => (jeX up p c x).length) 60) n) n = jsm (fun c => jsm (fun x => if jst up x c then 1 else 0) 60) n := by
    refine jsm_congr (fun c _ => ?_)
    rw [jsm_swap]
    refine jsm_congr (fun x _ => ?_)
    cases hs : jst up x c with
    | false => exact jsm_zero (fun p _ => by simp [jeX, hs])
    | true =>
      have hs2 := hs
      simp only [jst, Bool.and_eq_true] at hs2
      obtain ⟨p, hp⟩ := Option.isSome_iff_exists.mp hs2.1
      have e3 : jsm (fun p => (jeX up p c x).length) n = jct (fun p' => p' == p) n := by
        rw [jct_sm]
        refine jsm_congr (fun p' _ => ?_)
        simp only [jeX, hs, hp, Bool.and_true]
        by_cases e : p' = p
        · subst e; simp
        · simp [e, Ne.symm e]
      rw [e3]
      exact jct_one (j := p) (hu x c p hp).2.1 (by simp) (fun k _ hk => by simpa using hk)
  rw [h4, jsm_swap]
  exact jsm_congr (fun x _ => (jct_sm _ _).symm)
end
section
/-! The making smaller, as a value. -/
def jany (P : Nat → Bool) : Nat → Bool
  | 0 => false
  | k + 1 => jany P k || P k
theorem jany_iff {P : Nat → Bool} {n : Nat} : jany P n = true ↔ ∃ k, k < n ∧ P k = true := by
  induction n with
  | zero => simp [jany]
  | succ n ih =>
    simp only [jany, Bool.or_eq_true, ih]
    constructor
    · rintro (⟨k, h1, h2⟩ | h)
      · exact ⟨k, by omega, h2⟩
      · exact ⟨n, by omega, h⟩
    · rintro ⟨k, h1, h2⟩
      by_cases e : k = n
      · subst e; exact Or.inr h2
      · exact Or.inl ⟨k, by omega, h2⟩
def jinv (P : Nat → Bool) : Nat → Nat → Option Nat
  | 0, _ => none
  | c + 1, k => if P c && jct P c == k then some c else jinv P c k
theorem jct_lt2 {P : Nat → Bool} {c d : Nat} (h : c < d) (hP : P c = true) : jct P c < jct P d := by
  obtain ⟨e, rfl⟩ : ∃ e, d = c + 1 + e := ⟨d - c - 1, by omega⟩
  rw [jct_add]
  simp only [jct, hP, if_true]
  omega
theorem jct_le2 {P : Nat → Bool} {c d : Nat} (h : c ≤ d) : jct P c ≤ jct P d := by
  obtain ⟨e, rfl⟩ : ∃ e, d = c + e := ⟨d - c, by omega⟩
  rw [jct_add]
  omega
theorem jct_inj {P : Nat → Bool} {c d : Nat} (hc : P c = true) (hd : P d = true) (h : jct P c = jct P d) : c = d := by
  rcases Nat.lt_trichotomy c d with h1 | h1 | h1
  · have := jct_lt2 h1 hc; omega
  · exact h1
  · have := jct_lt2 h1 hd; omega
theorem jinv_some {P : Nat → Bool} : ∀ {n k c : Nat}, jinv P n k = some c → c < n ∧ P c = true ∧ jct P c = k := by
  intro n
  induction n with
  | zero => intro k c h; simp [jinv] at h
  | succ n ih =>
    intro k c h
    simp only [jinv] at h
    split at h
    · rename_i h1
      cases h
      simp only [Bool.and_eq_true, beq_iff_eq] at h1
      exact ⟨by omega, h1.1, h1.2⟩
    · obtain ⟨h1, h2, h3⟩ := ih h
      exact ⟨by omega, h2, h3⟩
theorem jinv_of {P : Nat → Bool} : ∀ {n c : Nat}, c < n → P c = true → jinv P n (jct P c) = some c := by
  intro n
  induction n with
  | zero => intro c h; omega
  | succ n ih =>
    intro c h hP
    simp only [jinv]
    by_cases e : c = n
    · subst e; simp [hP]
    · rw [if_neg, ih (by omega) hP]
      simp only [Bool.and_eq_true, beq_iff_eq, not_and]
      intro hn q
      exact e (jct_inj hP hn q.symm)
theorem jinv_none {P : Nat → Bool} {n k : Nat} (h : jct P n ≤ k) : jinv P n k = none := by
  cases hj : jinv P n k with
  | none => rfl
  | some c =>
    obtain ⟨h1, h2, h3⟩ := jinv_some hj
    have := jct_lt2 h1 h2
    omega
def jmatS (S : JS) (x c : Nat) : Bool := jmat (jN S) (jM S) (jU S x) c
def jstay (S : JS) (c : Nat) : Bool := jany (fun x => jmatS S x c) 60
def jnear (S : JS) (x c : Nat) : Option Nat := jpF (jU S x) (jmatS S x) 14 (jU S x c)
def jcome (S : JS) (i c : Nat) : Option Nat := match jL S i c with
  | some a => some a
  | none => match jpF (jU S (jP S i)) (fun y => jmatS S (jP S i) y || (jL S i y).isSome) 14 (jU S (jP S i) c) with
    | none => none
    | some y => if jmatS S (jP S i) y then none else jL S i y
def jrk (S : JS) (c : Nat) : Nat := jct (jstay S) c
def jold (S : JS) (k : Nat) : Option Nat := jinv (jstay S) (jN S) k
def jupN (S : JS) (x c : Nat) : Option Nat := if jmatS S x c then (jnear S x c).map (jrk S) else none
def jmuN (S : JS) (i c : Nat) : Option Nat := if jmatS S (jP S i) c then jcome S i c else none
def jsmall (S : JS) : JS :=
  (jrk S (jN S), fun k => ((jold S k).map (jT S)).getD 0, fun k => ((jold S k).map (jM S)).getD false,
   fun x k => if x < 60 then (jold S k).bind (jupN S x) else none, jK S, jP S, jA S,
   fun i k => if i < jK S then (jold S k).bind (jmuN S i) else none, fun c => if c < jN S ∧ jstay S c = true then some (jrk S c) else none)
theorem jstay_of {S : JS} {x c : Nat} (hx : x < 60) (h : jmatS S x c = true) : jstay S c = true := jany_iff.mpr ⟨x, hx, h⟩
theorem jup_S {S : JS} (h : jWf S) (x : Nat) : jup (jN S) (jT S) (jU S x) := fun c p e => h.2.2.1 x c p e
theorem jpF_time {n : Nat} {t : Nat → Nat} {up : Nat → Option Nat} (h : jup n t up) {P : Nat → Bool} : ∀ {k : Nat} {c y x : Nat}, up c = some y → jpF up P k (some y) = some x → t c < t x := by
  intro k
  induction k with
  | zero => intro c y x _ h2; simp [jpF] at h2
  | succ k ih =>
    intro c y x h1 h2
    have a := (h c y h1).2.2
    simp only [jpF] at h2
    split at h2
    · cases h2; exact a
    · cases e : up y with
      | none => rw [e, jpF_none] at h2; cases h2
      | some z =>
        rw [e] at h2
        have b := ih e h2
        omega
theorem jnear_of {S : JS} (h : jWf S) {x c d : Nat} (e : jnear S x c = some d) : d < jN S ∧ jmatS S x d = true ∧ jT S c < jT S d := by
  have hu := jup_S h x
  simp only [jnear] at e
  cases hc : jU S x c with
  | none => rw [hc, jpF_none] at e; cases e
  | some y =>
    rw [hc] at e
    exact ⟨jpF_lt hu (fun z hz => by cases hz; exact (hu c y hc).2.1) e, jpF_P e, jpF_time hu hc e⟩
theorem jold_of {S : JS} {c : Nat} (hc : c < jN S) (hs : jstay S c = true) : jold S (jrk S c) = some c := jinv_of hc hs
theorem jcome_lt {S : JS} (h : jWf S) {i c a : Nat} (e : jcome S i c = some a) : i < jK S ∧ a < 4 := by
  simp only [jcome] at e
  split at e
  · rename_i b hb
    cases e
    exact ⟨(h.2.2.2.2.2.1 i c a hb).1, (h.2.2.2.2.2.1 i c a hb).2.2⟩
  · split at e
    · cases e
    · rename_i y hy
      split at e
      · cases e
      · exact ⟨(h.2.2.2.2.2.1 i y a e).1, (h.2.2.2.2.2.1 i y a e).2.2⟩
theorem jsmall_wf {S : JS} (h : jWf S) : jWf (jsmall S) := by
  obtain ⟨wn, wt, wu, wk, wp, wl, wb⟩ := id h
  have hn : jrk S (jN S) ≤ jN S := jct_le _ _
  have hold : ∀ {k c : Nat}, jold S k = some c → c < jN S ∧ jstay S c = true ∧ jrk S c = k ∧ k < jrk S (jN S) := fun {k c} e => by
    obtain ⟨h1, h2, h3⟩ := jinv_some e
    refine ⟨h1, h2, h3, ?_⟩
    have := jct_lt2 h1 h2
    show k < jct (jstay S) (jN S)
    omega
  refine ⟨by show jrk S (jN S) ≤ 14; omega, fun i _ => ?_, fun x k j e => ?_, wk, wp, fun i k a e => ?_, fun c a e => ?_⟩
  · show ((jold S i).map (jT S)).getD 0 ≤ 1000
    cases e : jold S i with
    | none => simp
    | some c => simpa using wt c (hold e).1
  · replace e : (if x < 60 then (jold S k).bind (jupN S x) else none) = some j := e
    split at e
    · rename_i hx
      cases ek : jold S k with
      | none => rw [ek] at e; cases e
      | some c =>
        rw [ek] at e
        replace e : jupN S x c = some j := e
        simp only [jupN] at e
        split at e
        · cases en : jnear S x c with
          | none => rw [en] at e; cases e
          | some d =>
            rw [en] at e
            replace e : some (jrk S d) = some j := e
            cases e
            obtain ⟨d1, d2, d3⟩ := jnear_of h en
            have ds := jstay_of hx d2
            have hd := jold_of d1 ds
            obtain ⟨c1, c2, c3, c4⟩ := hold ek
            refine ⟨c4, (hold hd).2.2.2, ?_⟩
            show ((jold S k).map (jT S)).getD 0 < ((jold S (jrk S d)).map (jT S)).getD 0
            rw [ek, hd]
            exact d3
        · cases e
    · cases e
  · replace e : (if i < jK S then (jold S k).bind (jmuN S i) else none) = some a := e
    split at e
    · cases ek : jold S k with
      | none => rw [ek] at e; cases e
      | some c =>
        rw [ek] at e
        replace e : jmuN S i c = some a := e
        simp only [jmuN] at e
        split at e
        · exact ⟨(jcome_lt h e).1, (hold ek).2.2.2, (jcome_lt h e).2⟩
        · cases e
    · cases e
  · replace e : (if c < jN S ∧ jstay S c = true then some (jrk S c) else none) = some a := e
    split at e
    · rename_i hc
      cases e
      have := jct_lt2 hc.1 hc.2
      show jct (jstay S) c < 14
      have h9 : jct (jstay S) (jN S) ≤ jN S := jct_le _ _
      omega
    · cases e
end
section
-- ===== PART A: goes FIRST, ahead of the names: the tables' words, and 'selects' of the private methods out of them =====
/-- a private method of a class that the tables say can be made, by its rows of tables_1 -/
def lw_okq (q : MethodName × Nat) : Prop := (q.1.cls ≠ "java/lang/invoke/MethodHandle" ∧ q.1.cls ≠ "java/lang/invoke/VarHandle") ∧ Cond.instantiable q.1.cls q.2 ∈ tables_1 ∧ Cond.privateMethod q.1 ∈ tables_1 ∧ Cond.instanceMethod q.1 ∈ tables_1
theorem lw_p0 : lw_okq (⟨"LineageTables", "countSamples", "()I"⟩, 13) := ⟨⟨by decide +kernel, by decide +kernel⟩, List.mem_of_getElem? (i := 12) (by decide +kernel), List.mem_of_getElem? (i := 69) (by decide +kernel), List.mem_of_getElem? (i := 70) (by decide +kernel)⟩
theorem lw_p1 : lw_okq (⟨"LineageTables", "countEdges", "()I"⟩, 13) := ⟨⟨by decide +kernel, by decide +kernel⟩, List.mem_of_getElem? (i := 12) (by decide +kernel), List.mem_of_getElem? (i := 73) (by decide +kernel), List.mem_of_getElem? (i := 74) (by decide +kernel)⟩
theorem lw_p2 : lw_okq (⟨"LineageTables", "startsEdge", "(II)Z"⟩, 13) := ⟨⟨by decide +kernel, by decide +kernel⟩, List.mem_of_getElem? (i := 12) (by decide +kernel), List.mem_of_getElem? (i := 77) (by decide +kernel), List.mem_of_getElem? (i := 78) (by decide +kernel)⟩
theorem lw_p3 : lw_okq (⟨"LineageTables", "parentAt", "(II)I"⟩, 13) := ⟨⟨by decide +kernel, by decide +kernel⟩, List.mem_of_getElem? (i := 12) (by decide +kernel), List.mem_of_getElem? (i := 81) (by decide +kernel), List.mem_of_getElem? (i := 82) (by decide +kernel)⟩
theorem lw_p4 : lw_okq (⟨"LineageTables", "countMutations", "()I"⟩, 13) := ⟨⟨by decide +kernel, by decide +kernel⟩, List.mem_of_getElem? (i := 12) (by decide +kernel), List.mem_of_getElem? (i := 85) (by decide +kernel), List.mem_of_getElem? (i := 86) (by decide +kernel)⟩
theorem lw_p5 : lw_okq (⟨"LineageTables", "startsRun", "(I)Z"⟩, 13) := ⟨⟨by decide +kernel, by decide +kernel⟩, List.mem_of_getElem? (i := 12) (by decide +kernel), List.mem_of_getElem? (i := 93) (by decide +kernel), List.mem_of_getElem? (i := 94) (by decide +kernel)⟩
theorem lw_p6 : lw_okq (⟨"LineageTables", "tallyLetters", "(I)V"⟩, 13) := ⟨⟨by decide +kernel, by decide +kernel⟩, List.mem_of_getElem? (i := 12) (by decide +kernel), List.mem_of_getElem? (i := 101) (by decide +kernel), List.mem_of_getElem? (i := 102) (by decide +kernel)⟩
theorem lw_p7 : lw_okq (⟨"LineageTables", "letterAt", "(II)I"⟩, 13) := ⟨⟨by decide +kernel, by decide +kernel⟩, List.mem_of_getElem? (i := 12) (by decide +kernel), List.mem_of_getElem? (i := 105) (by decide +kernel), List.mem_of_getElem? (i := 106) (by decide +kernel)⟩
theorem lw_p8 : lw_okq (⟨"LineageTables", "countCarried", "(I)V"⟩, 13) := ⟨⟨by decide +kernel, by decide +kernel⟩, List.mem_of_getElem? (i := 12) (by decide +kernel), List.mem_of_getElem? (i := 117) (by decide +kernel), List.mem_of_getElem? (i := 118) (by decide +kernel)⟩
theorem lw_p9 : lw_okq (⟨"LineageTables", "findMattering", "(I)I"⟩, 13) := ⟨⟨by decide +kernel, by decide +kernel⟩, List.mem_of_getElem? (i := 12) (by decide +kernel), List.mem_of_getElem? (i := 125) (by decide +kernel), List.mem_of_getElem? (i := 126) (by decide +kernel)⟩
theorem lw_p10 : lw_okq (⟨"LineageTables", "countLiveChildren", "(II)I"⟩, 13) := ⟨⟨by decide +kernel, by decide +kernel⟩, List.mem_of_getElem? (i := 12) (by decide +kernel), List.mem_of_getElem? (i := 129) (by decide +kernel), List.mem_of_getElem? (i := 130) (by decide +kernel)⟩
theorem lw_p11 : lw_okq (⟨"LineageTables", "renumber", "(I)I"⟩, 13) := ⟨⟨by decide +kernel, by decide +kernel⟩, List.mem_of_getElem? (i := 12) (by decide +kernel), List.mem_of_getElem? (i := 133) (by decide +kernel), List.mem_of_getElem? (i := 134) (by decide +kernel)⟩
theorem lw_p12 : lw_okq (⟨"LineageTables", "moveMutations", "(I)V"⟩, 13) := ⟨⟨by decide +kernel, by decide +kernel⟩, List.mem_of_getElem? (i := 12) (by decide +kernel), List.mem_of_getElem? (i := 137) (by decide +kernel), List.mem_of_getElem? (i := 138) (by decide +kernel)⟩
theorem lw_p13 : lw_okq (⟨"LineageTables", "matters", "(II)Z"⟩, 13) := ⟨⟨by decide +kernel, by decide +kernel⟩, List.mem_of_getElem? (i := 12) (by decide +kernel), List.mem_of_getElem? (i := 141) (by decide +kernel), List.mem_of_getElem? (i := 142) (by decide +kernel)⟩
theorem lw_p14 : lw_okq (⟨"LineageTables", "mutationComingTo", "(II)I"⟩, 13) := ⟨⟨by decide +kernel, by decide +kernel⟩, List.mem_of_getElem? (i := 12) (by decide +kernel), List.mem_of_getElem? (i := 145) (by decide +kernel), List.mem_of_getElem? (i := 146) (by decide +kernel)⟩
theorem lw_p15 : lw_okq (⟨"LineageTables", "moveParents", "(I)V"⟩, 13) := ⟨⟨by decide +kernel, by decide +kernel⟩, List.mem_of_getElem? (i := 12) (by decide +kernel), List.mem_of_getElem? (i := 152) (by decide +kernel), List.mem_of_getElem? (i := 153) (by decide +kernel)⟩
def lw_privs_1 : List (MethodName × Nat) := [(⟨"LineageTables", "countSamples", "()I"⟩, 13), (⟨"LineageTables", "countEdges", "()I"⟩, 13), (⟨"LineageTables", "startsEdge", "(II)Z"⟩, 13), (⟨"LineageTables", "parentAt", "(II)I"⟩, 13), (⟨"LineageTables", "countMutations", "()I"⟩, 13), (⟨"LineageTables", "startsRun", "(I)Z"⟩, 13), (⟨"LineageTables", "tallyLetters", "(I)V"⟩, 13), (⟨"LineageTables", "letterAt", "(II)I"⟩, 13), (⟨"LineageTables", "countCarried", "(I)V"⟩, 13), (⟨"LineageTables", "findMattering", "(I)I"⟩, 13), (⟨"LineageTables", "countLiveChildren", "(II)I"⟩, 13), (⟨"LineageTables", "renumber", "(I)I"⟩, 13), (⟨"LineageTables", "moveMutations", "(I)V"⟩, 13), (⟨"LineageTables", "matters", "(II)Z"⟩, 13), (⟨"LineageTables", "mutationComingTo", "(II)I"⟩, 13), (⟨"LineageTables", "moveParents", "(I)V"⟩, 13)]
theorem lw_r1 : ∀ q ∈ lw_privs_1, lw_okq q := List.forall_mem_cons.mpr ⟨lw_p0, List.forall_mem_cons.mpr ⟨lw_p1, List.forall_mem_cons.mpr ⟨lw_p2, List.forall_mem_cons.mpr ⟨lw_p3, List.forall_mem_cons.mpr ⟨lw_p4, List.forall_mem_cons.mpr ⟨lw_p5, List.forall_mem_cons.mpr ⟨lw_p6, List.forall_mem_cons.mpr ⟨lw_p7, List.forall_mem_cons.mpr ⟨lw_p8, List.forall_mem_cons.mpr ⟨lw_p9, List.forall_mem_cons.mpr ⟨lw_p10, List.forall_mem_cons.mpr ⟨lw_p11, List.forall_mem_cons.mpr ⟨lw_p12, List.forall_mem_cons.mpr ⟨lw_p13, List.forall_mem_cons.mpr ⟨lw_p14, List.forall_mem_cons.mpr ⟨lw_p15, fun _ h => absurd h List.not_mem_nil⟩⟩⟩⟩⟩⟩⟩⟩⟩⟩⟩⟩⟩⟩⟩⟩
theorem lw_p16 : lw_okq (⟨"LineageTables", "nearestMatteringAbove", "(II)I"⟩, 13) := ⟨⟨by decide +kernel, by decide +kernel⟩, List.mem_of_getElem? (i := 12) (by decide +kernel), List.mem_of_getElem? (i := 156) (by decide +kernel), List.mem_of_getElem? (i := 157) (by decide +kernel)⟩
theorem lw_p17 : lw_okq (⟨"LineageTables", "moveNodes", "()V"⟩, 13) := ⟨⟨by decide +kernel, by decide +kernel⟩, List.mem_of_getElem? (i := 12) (by decide +kernel), List.mem_of_getElem? (i := 160) (by decide +kernel), List.mem_of_getElem? (i := 161) (by decide +kernel)⟩
theorem lw_p18 : lw_okq (⟨"java/lang/Throwable", "fillInStackTrace", "(I)Ljava/lang/Throwable;"⟩, 6) := ⟨⟨by decide +kernel, by decide +kernel⟩, List.mem_of_getElem? (i := 215) (by decide +kernel), List.mem_of_getElem? (i := 213) (by decide +kernel), List.mem_of_getElem? (i := 214) (by decide +kernel)⟩
theorem lw_p19 : lw_okq (⟨"LineageTables", "isNode", "(I)Z"⟩, 13) := ⟨⟨by decide +kernel, by decide +kernel⟩, List.mem_of_getElem? (i := 12) (by decide +kernel), List.mem_of_getElem? (i := 272) (by decide +kernel), List.mem_of_getElem? (i := 273) (by decide +kernel)⟩
theorem lw_p20 : lw_okq (⟨"LineageTables", "hasParentBeside", "(IIII)Z"⟩, 13) := ⟨⟨by decide +kernel, by decide +kernel⟩, List.mem_of_getElem? (i := 12) (by decide +kernel), List.mem_of_getElem? (i := 293) (by decide +kernel), List.mem_of_getElem? (i := 294) (by decide +kernel)⟩
theorem lw_p21 : lw_okq (⟨"LineageTables", "setParents", "(IIII)I"⟩, 13) := ⟨⟨by decide +kernel, by decide +kernel⟩, List.mem_of_getElem? (i := 12) (by decide +kernel), List.mem_of_getElem? (i := 298) (by decide +kernel), List.mem_of_getElem? (i := 299) (by decide +kernel)⟩
theorem lw_p22 : lw_okq (⟨"LineageTables", "hasSite", "(I)Z"⟩, 13) := ⟨⟨by decide +kernel, by decide +kernel⟩, List.mem_of_getElem? (i := 12) (by decide +kernel), List.mem_of_getElem? (i := 320) (by decide +kernel), List.mem_of_getElem? (i := 321) (by decide +kernel)⟩
theorem lw_p23 : lw_okq (⟨"LineageTables", "isSite", "(I)Z"⟩, 13) := ⟨⟨by decide +kernel, by decide +kernel⟩, List.mem_of_getElem? (i := 12) (by decide +kernel), List.mem_of_getElem? (i := 333) (by decide +kernel), List.mem_of_getElem? (i := 334) (by decide +kernel)⟩
theorem lw_p24 : lw_okq (⟨"LineageTables", "findEdge", "(I)I"⟩, 13) := ⟨⟨by decide +kernel, by decide +kernel⟩, List.mem_of_getElem? (i := 12) (by decide +kernel), List.mem_of_getElem? (i := 354) (by decide +kernel), List.mem_of_getElem? (i := 355) (by decide +kernel)⟩
theorem lw_p25 : lw_okq (⟨"LineageTables", "nextByTime", "(I)I"⟩, 13) := ⟨⟨by decide +kernel, by decide +kernel⟩, List.mem_of_getElem? (i := 12) (by decide +kernel), List.mem_of_getElem? (i := 358) (by decide +kernel), List.mem_of_getElem? (i := 359) (by decide +kernel)⟩
theorem lw_p26 : lw_okq (⟨"LineageTables", "isEarlier", "(II)Z"⟩, 13) := ⟨⟨by decide +kernel, by decide +kernel⟩, List.mem_of_getElem? (i := 12) (by decide +kernel), List.mem_of_getElem? (i := 362) (by decide +kernel), List.mem_of_getElem? (i := 363) (by decide +kernel)⟩
theorem lw_p27 : lw_okq (⟨"LineageTables", "edgeEnd", "(II)I"⟩, 13) := ⟨⟨by decide +kernel, by decide +kernel⟩, List.mem_of_getElem? (i := 12) (by decide +kernel), List.mem_of_getElem? (i := 367) (by decide +kernel), List.mem_of_getElem? (i := 368) (by decide +kernel)⟩
theorem lw_p28 : lw_okq (⟨"LineageTables", "isAtOrAbove", "(III)Z"⟩, 13) := ⟨⟨by decide +kernel, by decide +kernel⟩, List.mem_of_getElem? (i := 12) (by decide +kernel), List.mem_of_getElem? (i := 386) (by decide +kernel), List.mem_of_getElem? (i := 387) (by decide +kernel)⟩
theorem lw_p29 : lw_okq (⟨"LineageTablesModel", "refused", "(I)Z"⟩, 16) := ⟨⟨by decide +kernel, by decide +kernel⟩, List.mem_of_getElem? (i := 405) (by decide +kernel), List.mem_of_getElem? (i := 468) (by decide +kernel), List.mem_of_getElem? (i := 469) (by decide +kernel)⟩
theorem lw_p30 : lw_okq (⟨"LineageTablesModel", "isNode", "(I)Z"⟩, 16) := ⟨⟨by decide +kernel, by decide +kernel⟩, List.mem_of_getElem? (i := 405) (by decide +kernel), List.mem_of_getElem? (i := 479) (by decide +kernel), List.mem_of_getElem? (i := 480) (by decide +kernel)⟩
theorem lw_p31 : lw_okq (⟨"LineageTablesModel", "up", "(II)I"⟩, 16) := ⟨⟨by decide +kernel, by decide +kernel⟩, List.mem_of_getElem? (i := 405) (by decide +kernel), List.mem_of_getElem? (i := 483) (by decide +kernel), List.mem_of_getElem? (i := 484) (by decide +kernel)⟩
def lw_privs_2 : List (MethodName × Nat) := [(⟨"LineageTables", "nearestMatteringAbove", "(II)I"⟩, 13), (⟨"LineageTables", "moveNodes", "()V"⟩, 13), (⟨"java/lang/Throwable", "fillInStackTrace", "(I)Ljava/lang/Throwable;"⟩, 6), (⟨"LineageTables", "isNode", "(I)Z"⟩, 13), (⟨"LineageTables", "hasParentBeside", "(IIII)Z"⟩, 13), (⟨"LineageTables", "setParents", "(IIII)I"⟩, 13), (⟨"LineageTables", "hasSite", "(I)Z"⟩, 13), (⟨"LineageTables", "isSite", "(I)Z"⟩, 13), (⟨"LineageTables", "findEdge", "(I)I"⟩, 13), (⟨"LineageTables", "nextByTime", "(I)I"⟩, 13), (⟨"LineageTables", "isEarlier", "(II)Z"⟩, 13), (⟨"LineageTables", "edgeEnd", "(II)I"⟩, 13), (⟨"LineageTables", "isAtOrAbove", "(III)Z"⟩, 13), (⟨"LineageTablesModel", "refused", "(I)Z"⟩, 16), (⟨"LineageTablesModel", "isNode", "(I)Z"⟩, 16), (⟨"LineageTablesModel", "up", "(II)I"⟩, 16)]
theorem lw_r2 : ∀ q ∈ lw_privs_2, lw_okq q := List.forall_mem_cons.mpr ⟨lw_p16, List.forall_mem_cons.mpr ⟨lw_p17, List.forall_mem_cons.mpr ⟨lw_p18, List.forall_mem_cons.mpr ⟨lw_p19, List.forall_mem_cons.mpr ⟨lw_p20, List.forall_mem_cons.mpr ⟨lw_p21, List.forall_mem_cons.mpr ⟨lw_p22, List.forall_mem_cons.mpr ⟨lw_p23, List.forall_mem_cons.mpr ⟨lw_p24, List.forall_mem_cons.mpr ⟨lw_p25, List.forall_mem_cons.mpr ⟨lw_p26, List.forall_mem_cons.mpr ⟨lw_p27, List.forall_mem_cons.mpr ⟨lw_p28, List.forall_mem_cons.mpr ⟨lw_p29, List.forall_mem_cons.mpr ⟨lw_p30, List.forall_mem_cons.mpr ⟨lw_p31, fun _ h => absurd h List.not_mem_nil⟩⟩⟩⟩⟩⟩⟩⟩⟩⟩⟩⟩⟩⟩⟩⟩
theorem lw_p32 : lw_okq (⟨"LineageTablesModel", "isTaken", "(I)Z"⟩, 16) := ⟨⟨by decide +kernel, by decide +kernel⟩, List.mem_of_getElem? (i := 405) (by decide +kernel), List.mem_of_getElem? (i := 498) (by decide +kernel), List.mem_of_getElem? (i := 499) (by decide +kernel)⟩
theorem lw_p33 : lw_okq (⟨"LineageTablesModel", "isSite", "(I)Z"⟩, 16) := ⟨⟨by decide +kernel, by decide +kernel⟩, List.mem_of_getElem? (i := 405) (by decide +kernel), List.mem_of_getElem? (i := 506) (by decide +kernel), List.mem_of_getElem? (i := 507) (by decide +kernel)⟩
theorem lw_p34 : lw_okq (⟨"LineageTablesModel", "samples", "()I"⟩, 16) := ⟨⟨by decide +kernel, by decide +kernel⟩, List.mem_of_getElem? (i := 405) (by decide +kernel), List.mem_of_getElem? (i := 514) (by decide +kernel), List.mem_of_getElem? (i := 515) (by decide +kernel)⟩
theorem lw_p35 : lw_okq (⟨"LineageTablesModel", "find", "(I)I"⟩, 16) := ⟨⟨by decide +kernel, by decide +kernel⟩, List.mem_of_getElem? (i := 405) (by decide +kernel), List.mem_of_getElem? (i := 518) (by decide +kernel), List.mem_of_getElem? (i := 519) (by decide +kernel)⟩
theorem lw_p36 : lw_okq (⟨"LineageTablesModel", "begins", "(II)Z"⟩, 16) := ⟨⟨by decide +kernel, by decide +kernel⟩, List.mem_of_getElem? (i := 405) (by decide +kernel), List.mem_of_getElem? (i := 522) (by decide +kernel), List.mem_of_getElem? (i := 523) (by decide +kernel)⟩
theorem lw_p37 : lw_okq (⟨"LineageTablesModel", "holds", "(III)Z"⟩, 16) := ⟨⟨by decide +kernel, by decide +kernel⟩, List.mem_of_getElem? (i := 405) (by decide +kernel), List.mem_of_getElem? (i := 542) (by decide +kernel), List.mem_of_getElem? (i := 543) (by decide +kernel)⟩
theorem lw_p38 : lw_okq (⟨"LineageTablesModel", "differs", "(I)Z"⟩, 16) := ⟨⟨by decide +kernel, by decide +kernel⟩, List.mem_of_getElem? (i := 405) (by decide +kernel), List.mem_of_getElem? (i := 550) (by decide +kernel), List.mem_of_getElem? (i := 551) (by decide +kernel)⟩
theorem lw_p39 : lw_okq (⟨"LineageTablesModel", "letterAt", "(II)I"⟩, 16) := ⟨⟨by decide +kernel, by decide +kernel⟩, List.mem_of_getElem? (i := 405) (by decide +kernel), List.mem_of_getElem? (i := 563) (by decide +kernel), List.mem_of_getElem? (i := 564) (by decide +kernel)⟩
theorem lw_p40 : lw_okq (⟨"LineageTablesModel", "under", "(II)I"⟩, 16) := ⟨⟨by decide +kernel, by decide +kernel⟩, List.mem_of_getElem? (i := 405) (by decide +kernel), List.mem_of_getElem? (i := 579) (by decide +kernel), List.mem_of_getElem? (i := 580) (by decide +kernel)⟩
theorem lw_p41 : lw_okq (⟨"LineageTablesModel", "stays", "(I)Z"⟩, 16) := ⟨⟨by decide +kernel, by decide +kernel⟩, List.mem_of_getElem? (i := 405) (by decide +kernel), List.mem_of_getElem? (i := 587) (by decide +kernel), List.mem_of_getElem? (i := 588) (by decide +kernel)⟩
theorem lw_p42 : lw_okq (⟨"LineageTablesModel", "isFork", "(II)Z"⟩, 16) := ⟨⟨by decide +kernel, by decide +kernel⟩, List.mem_of_getElem? (i := 405) (by decide +kernel), List.mem_of_getElem? (i := 591) (by decide +kernel), List.mem_of_getElem? (i := 592) (by decide +kernel)⟩
theorem lw_p43 : lw_okq (⟨"LineageTablesModel", "matters", "(II)Z"⟩, 16) := ⟨⟨by decide +kernel, by decide +kernel⟩, List.mem_of_getElem? (i := 405) (by decide +kernel), List.mem_of_getElem? (i := 595) (by decide +kernel), List.mem_of_getElem? (i := 596) (by decide +kernel)⟩
theorem lw_p44 : lw_okq (⟨"LineageTablesModel", "nearest", "(II)I"⟩, 16) := ⟨⟨by decide +kernel, by decide +kernel⟩, List.mem_of_getElem? (i := 405) (by decide +kernel), List.mem_of_getElem? (i := 599) (by decide +kernel), List.mem_of_getElem? (i := 600) (by decide +kernel)⟩
theorem lw_p45 : lw_okq (⟨"LineageTablesModel", "comes", "(II)I"⟩, 16) := ⟨⟨by decide +kernel, by decide +kernel⟩, List.mem_of_getElem? (i := 405) (by decide +kernel), List.mem_of_getElem? (i := 603) (by decide +kernel), List.mem_of_getElem? (i := 604) (by decide +kernel)⟩
def lw_privs_3 : List (MethodName × Nat) := [(⟨"LineageTablesModel", "isTaken", "(I)Z"⟩, 16), (⟨"LineageTablesModel", "isSite", "(I)Z"⟩, 16), (⟨"LineageTablesModel", "samples", "()I"⟩, 16), (⟨"LineageTablesModel", "find", "(I)I"⟩, 16), (⟨"LineageTablesModel", "begins", "(II)Z"⟩, 16), (⟨"LineageTablesModel", "holds", "(III)Z"⟩, 16), (⟨"LineageTablesModel", "differs", "(I)Z"⟩, 16), (⟨"LineageTablesModel", "letterAt", "(II)I"⟩, 16), (⟨"LineageTablesModel", "under", "(II)I"⟩, 16), (⟨"LineageTablesModel", "stays", "(I)Z"⟩, 16), (⟨"LineageTablesModel", "isFork", "(II)Z"⟩, 16), (⟨"LineageTablesModel", "matters", "(II)Z"⟩, 16), (⟨"LineageTablesModel", "nearest", "(II)I"⟩, 16), (⟨"LineageTablesModel", "comes", "(II)I"⟩, 16)]
theorem lw_r3 : ∀ q ∈ lw_privs_3, lw_okq q := List.forall_mem_cons.mpr ⟨lw_p32, List.forall_mem_cons.mpr ⟨lw_p33, List.forall_mem_cons.mpr ⟨lw_p34, List.forall_mem_cons.mpr ⟨lw_p35, List.forall_mem_cons.mpr ⟨lw_p36, List.forall_mem_cons.mpr ⟨lw_p37, List.forall_mem_cons.mpr ⟨lw_p38, List.forall_mem_cons.mpr ⟨lw_p39, List.forall_mem_cons.mpr ⟨lw_p40, List.forall_mem_cons.mpr ⟨lw_p41, List.forall_mem_cons.mpr ⟨lw_p42, List.forall_mem_cons.mpr ⟨lw_p43, List.forall_mem_cons.mpr ⟨lw_p44, List.forall_mem_cons.mpr ⟨lw_p45, fun _ h => absurd h List.not_mem_nil⟩⟩⟩⟩⟩⟩⟩⟩⟩⟩⟩⟩⟩⟩
def lw_privs : List (MethodName × Nat) := lw_privs_1 ++ (lw_privs_2 ++ (lw_privs_3))
def lw_tbl : List Cond := k2_sels lw_privs ++ tables_1
theorem lw_privs_ok : ∀ q ∈ lw_privs, lw_okq q := by
  show ∀ q ∈ lw_privs_1 ++ (lw_privs_2 ++ (lw_privs_3)), lw_okq q
  exact List.forall_mem_append.mpr ⟨lw_r1, List.forall_mem_append.mpr ⟨lw_r2, lw_r3⟩⟩
end
section
/-! Names: of things, fields, methods; the words of the tables; by a text program. -/
def RX0 : String := "LineageTables"
def RX1 : String := "LineageTablesModel"
def RL : String := "LineageTablesLaw"
def RJ7 : String := "java/util/Arrays"
def TX0 : u_T := fun k => match k with
  | 0 => ("LineageTables", "nodeCount", "I", false)
  | 1 => ("LineageTables", "times", "[I", true)
  | 2 => ("LineageTables", "samples", "[Z", true)
  | 3 => ("LineageTables", "parents", "[I", true)
  | 4 => ("LineageTables", "siteCount", "I", false)
  | 5 => ("LineageTables", "sitePlaces", "[I", true)
  | 6 => ("LineageTables", "ancestrals", "[I", true)
  | 7 => ("LineageTables", "mutations", "[I", true)
  | 8 => ("LineageTables", "newNumbers", "[I", true)
  | 9 => ("LineageTables", "carried", "[I", true)
  | 10 => ("LineageTables", "mattering", "[I", true)
  | 11 => ("LineageTables", "tally", "[I", true)
  | _ => ("LineageTables", "row", "[I", true)
def tyX0 : Nat → FieldType := fun k => match k with
  | 0 => .int
  | 1 => .array .int
  | 2 => .array .boolean
  | 3 => .array .int
  | 4 => .int
  | 5 => .array .int
  | 6 => .array .int
  | 7 => .array .int
  | 8 => .array .int
  | 9 => .array .int
  | 10 => .array .int
  | 11 => .array .int
  | _ => .array .int
theorem nmX0 : ∀ a, a < 13 → ∀ b, b < 13 → a ≠ b → (TX0 a).2.1 ≠ (TX0 b).2.1 := by decide +kernel
theorem tyX0_ok : ∀ k, k < 13 → parseFieldDescriptor (TX0 k).2.2.1 = some (tyX0 k) := by decide +kernel
def TX1 : u_T := fun k => match k with
  | 0 => ("LineageTablesModel", "fault", "I", false)
  | 1 => ("LineageTablesModel", "nodes", "I", false)
  | 2 => ("LineageTablesModel", "time", "[I", true)
  | 3 => ("LineageTablesModel", "sample", "[Z", true)
  | 4 => ("LineageTablesModel", "parent", "[I", true)
  | 5 => ("LineageTablesModel", "sites", "I", false)
  | 6 => ("LineageTablesModel", "placeOf", "[I", true)
  | 7 => ("LineageTablesModel", "ancestral", "[I", true)
  | 8 => ("LineageTablesModel", "mutation", "[I", true)
  | 9 => ("LineageTablesModel", "became", "[I", true)
  | 10 => ("LineageTablesModel", "nextParent", "[I", true)
  | 11 => ("LineageTablesModel", "nextMutation", "[I", true)
  | 12 => ("LineageTablesModel", "foundLeft", "I", false)
  | 13 => ("LineageTablesModel", "foundRight", "I", false)
  | 14 => ("LineageTablesModel", "foundParent", "I", false)
  | _ => ("LineageTablesModel", "foundChild", "I", false)
def tyX1 : Nat → FieldType := fun k => match k with
  | 0 => .int
  | 1 => .int
  | 2 => .array .int
  | 3 => .array .boolean
  | 4 => .array .int
  | 5 => .int
  | 6 => .array .int
  | 7 => .array .int
  | 8 => .array .int
  | 9 => .array .int
  | 10 => .array .int
  | 11 => .array .int
  | 12 => .int
  | 13 => .int
  | 14 => .int
  | _ => .int
theorem nmX1 : ∀ a, a < 16 → ∀ b, b < 16 → a ≠ b → (TX1 a).2.1 ≠ (TX1 b).2.1 := by decide +kernel
theorem tyX1_ok : ∀ k, k < 16 → parseFieldDescriptor (TX1 k).2.2.1 = some (tyX1 k) := by decide +kernel
abbrev vwCl : List vw_C := [(RX0, TX0, 13), (RX1, TX1, 16)]
/-- the good words of the tables: every method stands on them all -/
def jW0 : List Cond := lw_tbl.filter goodWord
theorem jW0_in {w : Cond} (h : w ∈ jW0) : w ∈ lw_tbl := (List.mem_filter.mp h).1
theorem jW0_good {c0 w : Cond} (h : w ∈ jW0) : w ∈ c0 :: jW0 ∧ ((w.onTables && w.keeps) = true ∨ ∃ ty, w = .arrayClass ty) := ⟨List.mem_cons_of_mem _ h, good_of_word (List.mem_filter.mp h).2⟩
theorem jGV {c0 : Cond} {own C : String} {index n : Nat} {y : MethodName} {cc : ByteArray} {ret : Option FieldType} (h1 : Cond.methodLink own index y ∈ jW0) (h2 : Cond.instanceMethod y ∈ jW0) (h3 : Cond.selects C y y ∈ jW0) (h4 : Cond.initialized C ∈ jW0) (h5 : Cond.code y cc n ret ∈ jW0) : GoodIn (c0 :: jW0) (wsV own index C y (Cond.code y cc n ret :: jW0)) := by
  intro w hw
  simp only [wsV, List.mem_append, List.mem_cons, List.not_mem_nil, or_false] at hw
  rcases hw with (rfl | rfl | rfl | rfl) | rfl | hw
  · exact jW0_good h1
  · exact jW0_good h2
  · exact jW0_good h3
  · exact jW0_good h4
  · exact jW0_good h5
  · exact jW0_good hw
theorem jGS {c0 : Cond} {own : String} {index n : Nat} {y : MethodName} {cc : ByteArray} {ret : Option FieldType} (h1 : Cond.methodLink own index y ∈ jW0) (h2 : Cond.static y ∈ jW0) (h4 : Cond.initialized y.cls ∈ jW0) (h5 : Cond.code y cc n ret ∈ jW0) : GoodIn (c0 :: jW0) (va_wsS own index y (Cond.code y cc n ret :: jW0)) := by
  intro w hw
  simp only [va_wsS, List.mem_append, List.mem_cons, List.not_mem_nil, or_false] at hw
  rcases hw with (rfl | rfl | rfl) | rfl | hw
  · exact jW0_good h1
  · exact jW0_good h2
  · exact jW0_good h4
  · exact jW0_good h5
  · exact jW0_good hw
theorem jGI {c0 : Cond} {n : Nat} {y : MethodName} {cc : ByteArray} {ret : Option FieldType} (h5 : Cond.code y cc n ret ∈ jW0) : GoodIn (c0 :: jW0) (Cond.code y cc n ret :: jW0) := by
  intro w hw
  rcases List.mem_cons.mp hw with rfl | hw
  · exact jW0_good h5
  · exact jW0_good hw
theorem jGW {c0 : Cond} {own : String} {index n : Nat} {y : MethodName} {cc : ByteArray} {ret : Option FieldType} {hh : List (Nat × Nat × Nat × Nat)} (h1 : Cond.methodLink own index y ∈ jW0) (h2 : Cond.static y ∈ jW0) (h4 : Cond.initialized y.cls ∈ jW0) (h5 : Cond.codeWith y cc n ret hh ∈ jW0) : GoodIn (c0 :: jW0) (va_wsS own index y (Cond.codeWith y cc n ret hh :: jW0)) := by
  intro w hw
  simp only [va_wsS, List.mem_append, List.mem_cons, List.not_mem_nil, or_false] at hw
  rcases hw with (rfl | rfl | rfl) | rfl | hw
  · exact jW0_good h1
  · exact jW0_good h2
  · exact jW0_good h4
  · exact jW0_good h5
  · exact jW0_good hw
abbrev cX0_init : ByteArray := prog_1_method_1_code
def yX0_init : MethodName := ⟨RX0, "<init>", "()V"⟩
abbrev cX0_count : ByteArray := prog_1_method_7_code
def yX0_count : MethodName := ⟨RX0, "count", "(I)I"⟩
abbrev cX0_countSamples : ByteArray := prog_1_method_28_code
def yX0_countSamples : MethodName := ⟨RX0, "countSamples", "()I"⟩
abbrev cX0_countEdges : ByteArray := prog_1_method_30_code
def yX0_countEdges : MethodName := ⟨RX0, "countEdges", "()I"⟩
abbrev cX0_startsEdge : ByteArray := prog_1_method_31_code
def yX0_startsEdge : MethodName := ⟨RX0, "startsEdge", "(II)Z"⟩
abbrev cX0_parentAt : ByteArray := prog_1_method_24_code
def yX0_parentAt : MethodName := ⟨RX0, "parentAt", "(II)I"⟩
abbrev cX0_countMutations : ByteArray := prog_1_method_29_code
def yX0_countMutations : MethodName := ⟨RX0, "countMutations", "()I"⟩
abbrev cX0_trees : ByteArray := prog_1_method_12_code
def yX0_trees : MethodName := ⟨RX0, "trees", "()I"⟩
abbrev cX0_startsRun : ByteArray := prog_1_method_37_code
def yX0_startsRun : MethodName := ⟨RX0, "startsRun", "(I)Z"⟩
abbrev cX0_differing : ByteArray := prog_1_method_15_code
def yX0_differing : MethodName := ⟨RX0, "differing", "()I"⟩
abbrev cX0_tallyLetters : ByteArray := prog_1_method_39_code
def yX0_tallyLetters : MethodName := ⟨RX0, "tallyLetters", "(I)V"⟩
abbrev cX0_letterAt : ByteArray := prog_1_method_38_code
def yX0_letterAt : MethodName := ⟨RX0, "letterAt", "(II)I"⟩
abbrev cX0_spectrum : ByteArray := prog_1_method_16_code
def yX0_spectrum : MethodName := ⟨RX0, "spectrum", "(I)I"⟩
abbrev cX0_area : ByteArray := prog_1_method_17_code
def yX0_area : MethodName := ⟨RX0, "area", "()I"⟩
abbrev cX0_countCarried : ByteArray := prog_1_method_40_code
def yX0_countCarried : MethodName := ⟨RX0, "countCarried", "(I)V"⟩
abbrev cX0_simplify : ByteArray := prog_1_method_18_code
def yX0_simplify : MethodName := ⟨RX0, "simplify", "()I"⟩
abbrev cX0_findMattering : ByteArray := prog_1_method_41_code
def yX0_findMattering : MethodName := ⟨RX0, "findMattering", "(I)I"⟩
abbrev cX0_countLiveChildren : ByteArray := prog_1_method_42_code
def yX0_countLiveChildren : MethodName := ⟨RX0, "countLiveChildren", "(II)I"⟩
abbrev cX0_renumber : ByteArray := prog_1_method_44_code
def yX0_renumber : MethodName := ⟨RX0, "renumber", "(I)I"⟩
abbrev cX0_moveMutations : ByteArray := prog_1_method_45_code
def yX0_moveMutations : MethodName := ⟨RX0, "moveMutations", "(I)V"⟩
abbrev cX0_matters : ByteArray := prog_1_method_43_code
def yX0_matters : MethodName := ⟨RX0, "matters", "(II)Z"⟩
abbrev cX0_mutationComingTo : ByteArray := prog_1_method_46_code
def yX0_mutationComingTo : MethodName := ⟨RX0, "mutationComingTo", "(II)I"⟩
abbrev cX0_moveParents : ByteArray := prog_1_method_47_code
def yX0_moveParents : MethodName := ⟨RX0, "moveParents", "(I)V"⟩
abbrev cX0_nearestMatteringAbove : ByteArray := prog_1_method_48_code
def yX0_nearestMatteringAbove : MethodName := ⟨RX0, "nearestMatteringAbove", "(II)I"⟩
abbrev cX0_moveNodes : ByteArray := prog_1_method_49_code
def yX0_moveNodes : MethodName := ⟨RX0, "moveNodes", "()V"⟩
abbrev cX0_became : ByteArray := prog_1_method_19_code
def yX0_became : MethodName := ⟨RX0, "became", "(I)I"⟩
abbrev cL_node : ByteArray := method_3_code
def yL_node : MethodName := ⟨RL, "node", "(LLineageTables;IZ[J)I"⟩
abbrev cX0_node : ByteArray := prog_1_method_2_code
def yX0_node : MethodName := ⟨RX0, "node", "(IZ)I"⟩
abbrev cL_join : ByteArray := method_4_code
def yL_join : MethodName := ⟨RL, "join", "(LLineageTables;IIII[J)I"⟩
abbrev cX0_join : ByteArray := prog_1_method_3_code
def yX0_join : MethodName := ⟨RX0, "join", "(IIII)I"⟩
abbrev cX0_isRun : ByteArray := prog_1_method_23_code
def yX0_isRun : MethodName := ⟨RX0, "isRun", "(II)Z"⟩
abbrev cX0_isNode : ByteArray := prog_1_method_20_code
def yX0_isNode : MethodName := ⟨RX0, "isNode", "(I)Z"⟩
abbrev cX0_hasParentBeside : ByteArray := prog_1_method_25_code
def yX0_hasParentBeside : MethodName := ⟨RX0, "hasParentBeside", "(IIII)Z"⟩
abbrev cX0_setParents : ByteArray := prog_1_method_26_code
def yX0_setParents : MethodName := ⟨RX0, "setParents", "(IIII)I"⟩
abbrev cL_part : ByteArray := method_5_code
def yL_part : MethodName := ⟨RL, "part", "(LLineageTables;III[J)I"⟩
abbrev cX0_part : ByteArray := prog_1_method_4_code
def yX0_part : MethodName := ⟨RX0, "part", "(III)I"⟩
abbrev cL_site : ByteArray := method_6_code
def yL_site : MethodName := ⟨RL, "site", "(LLineageTables;II[J)I"⟩
abbrev cX0_site : ByteArray := prog_1_method_5_code
def yX0_site : MethodName := ⟨RX0, "site", "(II)I"⟩
abbrev cX0_isPlace : ByteArray := prog_1_method_22_code
def yX0_isPlace : MethodName := ⟨RX0, "isPlace", "(I)Z"⟩
abbrev cX0_hasSite : ByteArray := prog_1_method_27_code
def yX0_hasSite : MethodName := ⟨RX0, "hasSite", "(I)Z"⟩
abbrev cL_mutate : ByteArray := method_7_code
def yL_mutate : MethodName := ⟨RL, "mutate", "(LLineageTables;III[J)I"⟩
abbrev cX0_mutate : ByteArray := prog_1_method_6_code
def yX0_mutate : MethodName := ⟨RX0, "mutate", "(III)I"⟩
abbrev cX0_isSite : ByteArray := prog_1_method_21_code
def yX0_isSite : MethodName := ⟨RX0, "isSite", "(I)Z"⟩
abbrev cL_time : ByteArray := method_8_code
def yL_time : MethodName := ⟨RL, "time", "(LLineageTables;I[J)I"⟩
abbrev cX0_time : ByteArray := prog_1_method_8_code
def yX0_time : MethodName := ⟨RX0, "time", "(I)I"⟩
abbrev cL_edge : ByteArray := method_9_code
def yL_edge : MethodName := ⟨RL, "edge", "(LLineageTables;II[J)I"⟩
abbrev cX0_edge : ByteArray := prog_1_method_9_code
def yX0_edge : MethodName := ⟨RX0, "edge", "(II)I"⟩
abbrev cX0_findEdge : ByteArray := prog_1_method_33_code
def yX0_findEdge : MethodName := ⟨RX0, "findEdge", "(I)I"⟩
abbrev cX0_nextByTime : ByteArray := prog_1_method_34_code
def yX0_nextByTime : MethodName := ⟨RX0, "nextByTime", "(I)I"⟩
abbrev cX0_isEarlier : ByteArray := prog_1_method_35_code
def yX0_isEarlier : MethodName := ⟨RX0, "isEarlier", "(II)Z"⟩
abbrev cX0_edgeEnd : ByteArray := prog_1_method_32_code
def yX0_edgeEnd : MethodName := ⟨RX0, "edgeEnd", "(II)I"⟩
abbrev cL_parent : ByteArray := method_10_code
def yL_parent : MethodName := ⟨RL, "parent", "(LLineageTables;II[J)I"⟩
abbrev cX0_parent : ByteArray := prog_1_method_10_code
def yX0_parent : MethodName := ⟨RX0, "parent", "(II)I"⟩
abbrev cL_meet : ByteArray := method_11_code
def yL_meet : MethodName := ⟨RL, "meet", "(LLineageTables;III[J)I"⟩
abbrev cX0_meet : ByteArray := prog_1_method_11_code
def yX0_meet : MethodName := ⟨RX0, "meet", "(III)I"⟩
abbrev cX0_isAtOrAbove : ByteArray := prog_1_method_36_code
def yX0_isAtOrAbove : MethodName := ⟨RX0, "isAtOrAbove", "(III)Z"⟩
abbrev cL_cut : ByteArray := method_12_code
def yL_cut : MethodName := ⟨RL, "cut", "(LLineageTables;I[J)I"⟩
abbrev cX0_cut : ByteArray := prog_1_method_13_code
def yX0_cut : MethodName := ⟨RX0, "cut", "(I)I"⟩
abbrev cL_letter : ByteArray := method_13_code
def yL_letter : MethodName := ⟨RL, "letter", "(LLineageTables;II[J)I"⟩
abbrev cX0_letter : ByteArray := prog_1_method_14_code
def yX0_letter : MethodName := ⟨RX0, "letter", "(II)I"⟩
abbrev cX1_init : ByteArray := prog_3_method_1_code
def yX1_init : MethodName := ⟨RX1, "<init>", "()V"⟩
abbrev cX1_thrown : ByteArray := prog_3_method_2_code
def yX1_thrown : MethodName := ⟨RX1, "thrown", "()I"⟩
abbrev cX1_node : ByteArray := prog_3_method_14_code
def yX1_node : MethodName := ⟨RX1, "node", "(IZ)I"⟩
abbrev cX1_refused : ByteArray := prog_3_method_3_code
def yX1_refused : MethodName := ⟨RX1, "refused", "(I)Z"⟩
abbrev cX1_join : ByteArray := prog_3_method_15_code
def yX1_join : MethodName := ⟨RX1, "join", "(IIII)I"⟩
abbrev cX1_isRun : ByteArray := prog_3_method_7_code
def yX1_isRun : MethodName := ⟨RX1, "isRun", "(II)Z"⟩
abbrev cX1_isNode : ByteArray := prog_3_method_4_code
def yX1_isNode : MethodName := ⟨RX1, "isNode", "(I)Z"⟩
abbrev cX1_up : ByteArray := prog_3_method_8_code
def yX1_up : MethodName := ⟨RX1, "up", "(II)I"⟩
abbrev cX1_part : ByteArray := prog_3_method_16_code
def yX1_part : MethodName := ⟨RX1, "part", "(III)I"⟩
abbrev cX1_site : ByteArray := prog_3_method_18_code
def yX1_site : MethodName := ⟨RX1, "site", "(II)I"⟩
abbrev cX1_isPlace : ByteArray := prog_3_method_6_code
def yX1_isPlace : MethodName := ⟨RX1, "isPlace", "(I)Z"⟩
abbrev cX1_isTaken : ByteArray := prog_3_method_17_code
def yX1_isTaken : MethodName := ⟨RX1, "isTaken", "(I)Z"⟩
abbrev cX1_mutate : ByteArray := prog_3_method_19_code
def yX1_mutate : MethodName := ⟨RX1, "mutate", "(III)I"⟩
abbrev cX1_isSite : ByteArray := prog_3_method_5_code
def yX1_isSite : MethodName := ⟨RX1, "isSite", "(I)Z"⟩
abbrev cX1_count : ByteArray := prog_3_method_22_code
def yX1_count : MethodName := ⟨RX1, "count", "(I)I"⟩
abbrev cX1_samples : ByteArray := prog_3_method_11_code
def yX1_samples : MethodName := ⟨RX1, "samples", "()I"⟩
abbrev cX1_find : ByteArray := prog_3_method_21_code
def yX1_find : MethodName := ⟨RX1, "find", "(I)I"⟩
abbrev cX1_begins : ByteArray := prog_3_method_20_code
def yX1_begins : MethodName := ⟨RX1, "begins", "(II)Z"⟩
abbrev cX1_time : ByteArray := prog_3_method_23_code
def yX1_time : MethodName := ⟨RX1, "time", "(I)I"⟩
abbrev cX1_edge : ByteArray := prog_3_method_24_code
def yX1_edge : MethodName := ⟨RX1, "edge", "(II)I"⟩
abbrev cX1_parent : ByteArray := prog_3_method_25_code
def yX1_parent : MethodName := ⟨RX1, "parent", "(II)I"⟩
abbrev cX1_meet : ByteArray := prog_3_method_26_code
def yX1_meet : MethodName := ⟨RX1, "meet", "(III)I"⟩
abbrev cX1_holds : ByteArray := prog_3_method_9_code
def yX1_holds : MethodName := ⟨RX1, "holds", "(III)Z"⟩
abbrev cX1_trees : ByteArray := prog_3_method_28_code
def yX1_trees : MethodName := ⟨RX1, "trees", "()I"⟩
abbrev cX1_differs : ByteArray := prog_3_method_27_code
def yX1_differs : MethodName := ⟨RX1, "differs", "(I)Z"⟩
abbrev cX1_cut : ByteArray := prog_3_method_29_code
def yX1_cut : MethodName := ⟨RX1, "cut", "(I)I"⟩
abbrev cX1_letter : ByteArray := prog_3_method_31_code
def yX1_letter : MethodName := ⟨RX1, "letter", "(II)I"⟩
abbrev cX1_letterAt : ByteArray := prog_3_method_30_code
def yX1_letterAt : MethodName := ⟨RX1, "letterAt", "(II)I"⟩
abbrev cX1_differing : ByteArray := prog_3_method_32_code
def yX1_differing : MethodName := ⟨RX1, "differing", "()I"⟩
abbrev cX1_spectrum : ByteArray := prog_3_method_33_code
def yX1_spectrum : MethodName := ⟨RX1, "spectrum", "(I)I"⟩
abbrev cX1_area : ByteArray := prog_3_method_34_code
def yX1_area : MethodName := ⟨RX1, "area", "()I"⟩
abbrev cX1_under : ByteArray := prog_3_method_10_code
def yX1_under : MethodName := ⟨RX1, "under", "(II)I"⟩
abbrev cX1_simplify : ByteArray := prog_3_method_38_code
def yX1_simplify : MethodName := ⟨RX1, "simplify", "()I"⟩
abbrev cX1_stays : ByteArray := prog_3_method_35_code
def yX1_stays : MethodName := ⟨RX1, "stays", "(I)Z"⟩
abbrev cX1_isFork : ByteArray := prog_3_method_12_code
def yX1_isFork : MethodName := ⟨RX1, "isFork", "(II)Z"⟩
abbrev cX1_matters : ByteArray := prog_3_method_13_code
def yX1_matters : MethodName := ⟨RX1, "matters", "(II)Z"⟩
abbrev cX1_nearest : ByteArray := prog_3_method_36_code
def yX1_nearest : MethodName := ⟨RX1, "nearest", "(II)I"⟩
abbrev cX1_comes : ByteArray := prog_3_method_37_code
def yX1_comes : MethodName := ⟨RX1, "comes", "(II)I"⟩
abbrev cX1_became : ByteArray := prog_3_method_39_code
def yX1_became : MethodName := ⟨RX1, "became", "(I)I"⟩
abbrev cJ7_fill : ByteArray := prog_12_method_103_code
def yJ7_fill : MethodName := ⟨RJ7, "fill", "([II)V"⟩
def wsX0_init : List Cond := Cond.code yX0_init cX0_init 1 none :: jW0
theorem kX0_init_c : Cond.code yX0_init cX0_init 1 none ∈ jW0 := List.mem_filter.mpr ⟨List.mem_of_getElem? (i := 61) (by decide +kernel), by decide +kernel⟩
def wsX0_count : List Cond := Cond.code yX0_count cX0_count 2 (some .int) :: jW0
theorem kX0_count_c : Cond.code yX0_count cX0_count 2 (some .int) ∈ jW0 := List.mem_filter.mpr ⟨List.mem_of_getElem? (i := 113) (by decide +kernel), by decide +kernel⟩
def wsX0_countSamples : List Cond := Cond.code yX0_countSamples cX0_countSamples 3 (some .int) :: jW0
theorem kX0_countSamples_c : Cond.code yX0_countSamples cX0_countSamples 3 (some .int) ∈ jW0 := List.mem_filter.mpr ⟨List.mem_of_getElem? (i := 117) (by decide +kernel), by decide +kernel⟩
def wsX0_countEdges : List Cond := Cond.code yX0_countEdges cX0_countEdges 4 (some .int) :: jW0
theorem kX0_countEdges_c : Cond.code yX0_countEdges cX0_countEdges 4 (some .int) ∈ jW0 := List.mem_filter.mpr ⟨List.mem_of_getElem? (i := 121) (by decide +kernel), by decide +kernel⟩
def wsX0_startsEdge : List Cond := Cond.code yX0_startsEdge cX0_startsEdge 4 (some .boolean) :: jW0
theorem kX0_startsEdge_c : Cond.code yX0_startsEdge cX0_startsEdge 4 (some .boolean) ∈ jW0 := List.mem_filter.mpr ⟨List.mem_of_getElem? (i := 125) (by decide +kernel), by decide +kernel⟩
def wsX0_parentAt : List Cond := Cond.code yX0_parentAt cX0_parentAt 3 (some .int) :: jW0
theorem kX0_parentAt_c : Cond.code yX0_parentAt cX0_parentAt 3 (some .int) ∈ jW0 := List.mem_filter.mpr ⟨List.mem_of_getElem? (i := 129) (by decide +kernel), by decide +kernel⟩
def wsX0_countMutations : List Cond := Cond.code yX0_countMutations cX0_countMutations 3 (some .int) :: jW0
theorem kX0_countMutations_c : Cond.code yX0_countMutations cX0_countMutations 3 (some .int) ∈ jW0 := List.mem_filter.mpr ⟨List.mem_of_getElem? (i := 133) (by decide +kernel), by decide +kernel⟩
def wsX0_trees : List Cond := Cond.code yX0_trees cX0_trees 3 (some .int) :: jW0
theorem kX0_trees_c : Cond.code yX0_trees cX0_trees 3 (some .int) ∈ jW0 := List.mem_filter.mpr ⟨List.mem_of_getElem? (i := 137) (by decide +kernel), by decide +kernel⟩
def wsX0_startsRun : List Cond := Cond.code yX0_startsRun cX0_startsRun 3 (some .boolean) :: jW0
theorem kX0_startsRun_c : Cond.code yX0_startsRun cX0_startsRun 3 (some .boolean) ∈ jW0 := List.mem_filter.mpr ⟨List.mem_of_getElem? (i := 141) (by decide +kernel), by decide +kernel⟩
def wsX0_differing : List Cond := Cond.code yX0_differing cX0_differing 5 (some .int) :: jW0
theorem kX0_differing_c : Cond.code yX0_differing cX0_differing 5 (some .int) ∈ jW0 := List.mem_filter.mpr ⟨List.mem_of_getElem? (i := 145) (by decide +kernel), by decide +kernel⟩
def wsX0_tallyLetters : List Cond := Cond.code yX0_tallyLetters cX0_tallyLetters 3 none :: jW0
theorem kX0_tallyLetters_c : Cond.code yX0_tallyLetters cX0_tallyLetters 3 none ∈ jW0 := List.mem_filter.mpr ⟨List.mem_of_getElem? (i := 149) (by decide +kernel), by decide +kernel⟩
def wsX0_letterAt : List Cond := Cond.code yX0_letterAt cX0_letterAt 6 (some .int) :: jW0
theorem kX0_letterAt_c : Cond.code yX0_letterAt cX0_letterAt 6 (some .int) ∈ jW0 := List.mem_filter.mpr ⟨List.mem_of_getElem? (i := 153) (by decide +kernel), by decide +kernel⟩
def wsX0_spectrum : List Cond := Cond.code yX0_spectrum cX0_spectrum 5 (some .int) :: jW0
theorem kX0_spectrum_c : Cond.code yX0_spectrum cX0_spectrum 5 (some .int) ∈ jW0 := List.mem_filter.mpr ⟨List.mem_of_getElem? (i := 157) (by decide +kernel), by decide +kernel⟩
def wsX0_area : List Cond := Cond.code yX0_area cX0_area 6 (some .int) :: jW0
theorem kX0_area_c : Cond.code yX0_area cX0_area 6 (some .int) ∈ jW0 := List.mem_filter.mpr ⟨List.mem_of_getElem? (i := 161) (by decide +kernel), by decide +kernel⟩
def wsX0_countCarried : List Cond := Cond.code yX0_countCarried cX0_countCarried 5 none :: jW0
theorem kX0_countCarried_c : Cond.code yX0_countCarried cX0_countCarried 5 none ∈ jW0 := List.mem_filter.mpr ⟨List.mem_of_getElem? (i := 165) (by decide +kernel), by decide +kernel⟩
def wsX0_simplify : List Cond := Cond.code yX0_simplify cX0_simplify 4 (some .int) :: jW0
theorem kX0_simplify_c : Cond.code yX0_simplify cX0_simplify 4 (some .int) ∈ jW0 := List.mem_filter.mpr ⟨List.mem_of_getElem? (i := 169) (by decide +kernel), by decide +kernel⟩
def wsX0_findMattering : List Cond := Cond.code yX0_findMattering cX0_findMattering 4 (some .int) :: jW0
theorem kX0_findMattering_c : Cond.code yX0_findMattering cX0_findMattering 4 (some .int) ∈ jW0 := List.mem_filter.mpr ⟨List.mem_of_getElem? (i := 173) (by decide +kernel), by decide +kernel⟩
def wsX0_countLiveChildren : List Cond := Cond.code yX0_countLiveChildren cX0_countLiveChildren 5 (some .int) :: jW0
theorem kX0_countLiveChildren_c : Cond.code yX0_countLiveChildren cX0_countLiveChildren 5 (some .int) ∈ jW0 := List.mem_filter.mpr ⟨List.mem_of_getElem? (i := 177) (by decide +kernel), by decide +kernel⟩
def wsX0_renumber : List Cond := Cond.code yX0_renumber cX0_renumber 4 (some .int) :: jW0
theorem kX0_renumber_c : Cond.code yX0_renumber cX0_renumber 4 (some .int) ∈ jW0 := List.mem_filter.mpr ⟨List.mem_of_getElem? (i := 181) (by decide +kernel), by decide +kernel⟩
def wsX0_moveMutations : List Cond := Cond.code yX0_moveMutations cX0_moveMutations 4 none :: jW0
theorem kX0_moveMutations_c : Cond.code yX0_moveMutations cX0_moveMutations 4 none ∈ jW0 := List.mem_filter.mpr ⟨List.mem_of_getElem? (i := 185) (by decide +kernel), by decide +kernel⟩
def wsX0_matters : List Cond := Cond.code yX0_matters cX0_matters 3 (some .boolean) :: jW0
theorem kX0_matters_c : Cond.code yX0_matters cX0_matters 3 (some .boolean) ∈ jW0 := List.mem_filter.mpr ⟨List.mem_of_getElem? (i := 189) (by decide +kernel), by decide +kernel⟩
def wsX0_mutationComingTo : List Cond := Cond.code yX0_mutationComingTo cX0_mutationComingTo 7 (some .int) :: jW0
theorem kX0_mutationComingTo_c : Cond.code yX0_mutationComingTo cX0_mutationComingTo 7 (some .int) ∈ jW0 := List.mem_filter.mpr ⟨List.mem_of_getElem? (i := 193) (by decide +kernel), by decide +kernel⟩
def wsX0_moveParents : List Cond := Cond.code yX0_moveParents cX0_moveParents 4 none :: jW0
theorem kX0_moveParents_c : Cond.code yX0_moveParents cX0_moveParents 4 none ∈ jW0 := List.mem_filter.mpr ⟨List.mem_of_getElem? (i := 200) (by decide +kernel), by decide +kernel⟩
def wsX0_nearestMatteringAbove : List Cond := Cond.code yX0_nearestMatteringAbove cX0_nearestMatteringAbove 5 (some .int) :: jW0
theorem kX0_nearestMatteringAbove_c : Cond.code yX0_nearestMatteringAbove cX0_nearestMatteringAbove 5 (some .int) ∈ jW0 := List.mem_filter.mpr ⟨List.mem_of_getElem? (i := 204) (by decide +kernel), by decide +kernel⟩
def wsX0_moveNodes : List Cond := Cond.code yX0_moveNodes cX0_moveNodes 3 none :: jW0
theorem kX0_moveNodes_c : Cond.code yX0_moveNodes cX0_moveNodes 3 none ∈ jW0 := List.mem_filter.mpr ⟨List.mem_of_getElem? (i := 208) (by decide +kernel), by decide +kernel⟩
def wsX0_became : List Cond := Cond.code yX0_became cX0_became 2 (some .int) :: jW0
theorem kX0_became_c : Cond.code yX0_became cX0_became 2 (some .int) ∈ jW0 := List.mem_filter.mpr ⟨List.mem_of_getElem? (i := 212) (by decide +kernel), by decide +kernel⟩
def wsL_node : List Cond := Cond.codeWith yL_node cL_node 5 (some .int) [(0, 10, 13, 13), (0, 10, 17, 15)] :: jW0
theorem kL_node_c : Cond.codeWith yL_node cL_node 5 (some .int) [(0, 10, 13, 13), (0, 10, 17, 15)] ∈ jW0 := List.mem_filter.mpr ⟨List.mem_of_getElem? (i := 215) (by decide +kernel), by decide +kernel⟩
def wsX0_node : List Cond := Cond.code yX0_node cX0_node 3 (some .int) :: jW0
theorem kX0_node_c : Cond.code yX0_node cX0_node 3 (some .int) ∈ jW0 := List.mem_filter.mpr ⟨List.mem_of_getElem? (i := 221) (by decide +kernel), by decide +kernel⟩
def wsL_join : List Cond := Cond.codeWith yL_join cL_join 7 (some .int) [(0, 14, 17, 21), (0, 14, 21, 13), (0, 14, 25, 15)] :: jW0
theorem kL_join_c : Cond.codeWith yL_join cL_join 7 (some .int) [(0, 14, 17, 21), (0, 14, 21, 13), (0, 14, 25, 15)] ∈ jW0 := List.mem_filter.mpr ⟨List.mem_of_getElem? (i := 308) (by decide +kernel), by decide +kernel⟩
def wsX0_join : List Cond := Cond.code yX0_join cX0_join 5 (some .int) :: jW0
theorem kX0_join_c : Cond.code yX0_join cX0_join 5 (some .int) ∈ jW0 := List.mem_filter.mpr ⟨List.mem_of_getElem? (i := 313) (by decide +kernel), by decide +kernel⟩
def wsX0_isRun : List Cond := Cond.code yX0_isRun cX0_isRun 2 (some .boolean) :: jW0
theorem kX0_isRun_c : Cond.code yX0_isRun cX0_isRun 2 (some .boolean) ∈ jW0 := List.mem_filter.mpr ⟨List.mem_of_getElem? (i := 316) (by decide +kernel), by decide +kernel⟩
def wsX0_isNode : List Cond := Cond.code yX0_isNode cX0_isNode 2 (some .boolean) :: jW0
theorem kX0_isNode_c : Cond.code yX0_isNode cX0_isNode 2 (some .boolean) ∈ jW0 := List.mem_filter.mpr ⟨List.mem_of_getElem? (i := 320) (by decide +kernel), by decide +kernel⟩
def wsX0_hasParentBeside : List Cond := Cond.code yX0_hasParentBeside cX0_hasParentBeside 7 (some .boolean) :: jW0
theorem kX0_hasParentBeside_c : Cond.code yX0_hasParentBeside cX0_hasParentBeside 7 (some .boolean) ∈ jW0 := List.mem_filter.mpr ⟨List.mem_of_getElem? (i := 341) (by decide +kernel), by decide +kernel⟩
def wsX0_setParents : List Cond := Cond.code yX0_setParents cX0_setParents 7 (some .int) :: jW0
theorem kX0_setParents_c : Cond.code yX0_setParents cX0_setParents 7 (some .int) ∈ jW0 := List.mem_filter.mpr ⟨List.mem_of_getElem? (i := 346) (by decide +kernel), by decide +kernel⟩
def wsL_part : List Cond := Cond.codeWith yL_part cL_part 6 (some .int) [(0, 12, 15, 21)] :: jW0
theorem kL_part_c : Cond.codeWith yL_part cL_part 6 (some .int) [(0, 12, 15, 21)] ∈ jW0 := List.mem_filter.mpr ⟨List.mem_of_getElem? (i := 349) (by decide +kernel), by decide +kernel⟩
def wsX0_part : List Cond := Cond.code yX0_part cX0_part 4 (some .int) :: jW0
theorem kX0_part_c : Cond.code yX0_part cX0_part 4 (some .int) ∈ jW0 := List.mem_filter.mpr ⟨List.mem_of_getElem? (i := 353) (by decide +kernel), by decide +kernel⟩
def wsL_site : List Cond := Cond.codeWith yL_site cL_site 5 (some .int) [(0, 10, 13, 21), (0, 10, 17, 13), (0, 10, 21, 15)] :: jW0
theorem kL_site_c : Cond.codeWith yL_site cL_site 5 (some .int) [(0, 10, 13, 21), (0, 10, 17, 13), (0, 10, 21, 15)] ∈ jW0 := List.mem_filter.mpr ⟨List.mem_of_getElem? (i := 356) (by decide +kernel), by decide +kernel⟩
def wsX0_site : List Cond := Cond.code yX0_site cX0_site 3 (some .int) :: jW0
theorem kX0_site_c : Cond.code yX0_site cX0_site 3 (some .int) ∈ jW0 := List.mem_filter.mpr ⟨List.mem_of_getElem? (i := 360) (by decide +kernel), by decide +kernel⟩
def wsX0_isPlace : List Cond := Cond.code yX0_isPlace cX0_isPlace 1 (some .boolean) :: jW0
theorem kX0_isPlace_c : Cond.code yX0_isPlace cX0_isPlace 1 (some .boolean) ∈ jW0 := List.mem_filter.mpr ⟨List.mem_of_getElem? (i := 363) (by decide +kernel), by decide +kernel⟩
def wsX0_hasSite : List Cond := Cond.code yX0_hasSite cX0_hasSite 3 (some .boolean) :: jW0
theorem kX0_hasSite_c : Cond.code yX0_hasSite cX0_hasSite 3 (some .boolean) ∈ jW0 := List.mem_filter.mpr ⟨List.mem_of_getElem? (i := 368) (by decide +kernel), by decide +kernel⟩
def wsL_mutate : List Cond := Cond.codeWith yL_mutate cL_mutate 6 (some .int) [(0, 12, 15, 21), (0, 12, 19, 13)] :: jW0
theorem kL_mutate_c : Cond.codeWith yL_mutate cL_mutate 6 (some .int) [(0, 12, 15, 21), (0, 12, 19, 13)] ∈ jW0 := List.mem_filter.mpr ⟨List.mem_of_getElem? (i := 373) (by decide +kernel), by decide +kernel⟩
def wsX0_mutate : List Cond := Cond.code yX0_mutate cX0_mutate 5 (some .int) :: jW0
theorem kX0_mutate_c : Cond.code yX0_mutate cX0_mutate 5 (some .int) ∈ jW0 := List.mem_filter.mpr ⟨List.mem_of_getElem? (i := 377) (by decide +kernel), by decide +kernel⟩
def wsX0_isSite : List Cond := Cond.code yX0_isSite cX0_isSite 2 (some .boolean) :: jW0
theorem kX0_isSite_c : Cond.code yX0_isSite cX0_isSite 2 (some .boolean) ∈ jW0 := List.mem_filter.mpr ⟨List.mem_of_getElem? (i := 381) (by decide +kernel), by decide +kernel⟩
def wsL_time : List Cond := Cond.codeWith yL_time cL_time 4 (some .int) [(0, 9, 12, 21)] :: jW0
theorem kL_time_c : Cond.codeWith yL_time cL_time 4 (some .int) [(0, 9, 12, 21)] ∈ jW0 := List.mem_filter.mpr ⟨List.mem_of_getElem? (i := 386) (by decide +kernel), by decide +kernel⟩
def wsX0_time : List Cond := Cond.code yX0_time cX0_time 2 (some .int) :: jW0
theorem kX0_time_c : Cond.code yX0_time cX0_time 2 (some .int) ∈ jW0 := List.mem_filter.mpr ⟨List.mem_of_getElem? (i := 390) (by decide +kernel), by decide +kernel⟩
def wsL_edge : List Cond := Cond.codeWith yL_edge cL_edge 5 (some .int) [(0, 10, 13, 21)] :: jW0
theorem kL_edge_c : Cond.codeWith yL_edge cL_edge 5 (some .int) [(0, 10, 13, 21)] ∈ jW0 := List.mem_filter.mpr ⟨List.mem_of_getElem? (i := 394) (by decide +kernel), by decide +kernel⟩
def wsX0_edge : List Cond := Cond.code yX0_edge cX0_edge 6 (some .int) :: jW0
theorem kX0_edge_c : Cond.code yX0_edge cX0_edge 6 (some .int) ∈ jW0 := List.mem_filter.mpr ⟨List.mem_of_getElem? (i := 398) (by decide +kernel), by decide +kernel⟩
def wsX0_findEdge : List Cond := Cond.code yX0_findEdge cX0_findEdge 7 (some .int) :: jW0
theorem kX0_findEdge_c : Cond.code yX0_findEdge cX0_findEdge 7 (some .int) ∈ jW0 := List.mem_filter.mpr ⟨List.mem_of_getElem? (i := 402) (by decide +kernel), by decide +kernel⟩
def wsX0_nextByTime : List Cond := Cond.code yX0_nextByTime cX0_nextByTime 4 (some .int) :: jW0
theorem kX0_nextByTime_c : Cond.code yX0_nextByTime cX0_nextByTime 4 (some .int) ∈ jW0 := List.mem_filter.mpr ⟨List.mem_of_getElem? (i := 406) (by decide +kernel), by decide +kernel⟩
def wsX0_isEarlier : List Cond := Cond.code yX0_isEarlier cX0_isEarlier 3 (some .boolean) :: jW0
theorem kX0_isEarlier_c : Cond.code yX0_isEarlier cX0_isEarlier 3 (some .boolean) ∈ jW0 := List.mem_filter.mpr ⟨List.mem_of_getElem? (i := 410) (by decide +kernel), by decide +kernel⟩
def wsX0_edgeEnd : List Cond := Cond.code yX0_edgeEnd cX0_edgeEnd 4 (some .int) :: jW0
theorem kX0_edgeEnd_c : Cond.code yX0_edgeEnd cX0_edgeEnd 4 (some .int) ∈ jW0 := List.mem_filter.mpr ⟨List.mem_of_getElem? (i := 415) (by decide +kernel), by decide +kernel⟩
def wsL_parent : List Cond := Cond.codeWith yL_parent cL_parent 5 (some .int) [(0, 10, 13, 21)] :: jW0
theorem kL_parent_c : Cond.codeWith yL_parent cL_parent 5 (some .int) [(0, 10, 13, 21)] ∈ jW0 := List.mem_filter.mpr ⟨List.mem_of_getElem? (i := 418) (by decide +kernel), by decide +kernel⟩
def wsX0_parent : List Cond := Cond.code yX0_parent cX0_parent 3 (some .int) :: jW0
theorem kX0_parent_c : Cond.code yX0_parent cX0_parent 3 (some .int) ∈ jW0 := List.mem_filter.mpr ⟨List.mem_of_getElem? (i := 422) (by decide +kernel), by decide +kernel⟩
def wsL_meet : List Cond := Cond.codeWith yL_meet cL_meet 6 (some .int) [(0, 12, 15, 21)] :: jW0
theorem kL_meet_c : Cond.codeWith yL_meet cL_meet 6 (some .int) [(0, 12, 15, 21)] ∈ jW0 := List.mem_filter.mpr ⟨List.mem_of_getElem? (i := 426) (by decide +kernel), by decide +kernel⟩
def wsX0_meet : List Cond := Cond.code yX0_meet cX0_meet 6 (some .int) :: jW0
theorem kX0_meet_c : Cond.code yX0_meet cX0_meet 6 (some .int) ∈ jW0 := List.mem_filter.mpr ⟨List.mem_of_getElem? (i := 430) (by decide +kernel), by decide +kernel⟩
def wsX0_isAtOrAbove : List Cond := Cond.code yX0_isAtOrAbove cX0_isAtOrAbove 6 (some .boolean) :: jW0
theorem kX0_isAtOrAbove_c : Cond.code yX0_isAtOrAbove cX0_isAtOrAbove 6 (some .boolean) ∈ jW0 := List.mem_filter.mpr ⟨List.mem_of_getElem? (i := 434) (by decide +kernel), by decide +kernel⟩
def wsL_cut : List Cond := Cond.codeWith yL_cut cL_cut 4 (some .int) [(0, 9, 12, 21)] :: jW0
theorem kL_cut_c : Cond.codeWith yL_cut cL_cut 4 (some .int) [(0, 9, 12, 21)] ∈ jW0 := List.mem_filter.mpr ⟨List.mem_of_getElem? (i := 437) (by decide +kernel), by decide +kernel⟩
def wsX0_cut : List Cond := Cond.code yX0_cut cX0_cut 4 (some .int) :: jW0
theorem kX0_cut_c : Cond.code yX0_cut cX0_cut 4 (some .int) ∈ jW0 := List.mem_filter.mpr ⟨List.mem_of_getElem? (i := 441) (by decide +kernel), by decide +kernel⟩
def wsL_letter : List Cond := Cond.codeWith yL_letter cL_letter 5 (some .int) [(0, 10, 13, 21)] :: jW0
theorem kL_letter_c : Cond.codeWith yL_letter cL_letter 5 (some .int) [(0, 10, 13, 21)] ∈ jW0 := List.mem_filter.mpr ⟨List.mem_of_getElem? (i := 445) (by decide +kernel), by decide +kernel⟩
def wsX0_letter : List Cond := Cond.code yX0_letter cX0_letter 3 (some .int) :: jW0
theorem kX0_letter_c : Cond.code yX0_letter cX0_letter 3 (some .int) ∈ jW0 := List.mem_filter.mpr ⟨List.mem_of_getElem? (i := 449) (by decide +kernel), by decide +kernel⟩
def wsX1_init : List Cond := Cond.code yX1_init cX1_init 2 none :: jW0
theorem kX1_init_c : Cond.code yX1_init cX1_init 2 none ∈ jW0 := List.mem_filter.mpr ⟨List.mem_of_getElem? (i := 454) (by decide +kernel), by decide +kernel⟩
def wsX1_thrown : List Cond := Cond.code yX1_thrown cX1_thrown 1 (some .int) :: jW0
theorem kX1_thrown_c : Cond.code yX1_thrown cX1_thrown 1 (some .int) ∈ jW0 := List.mem_filter.mpr ⟨List.mem_of_getElem? (i := 508) (by decide +kernel), by decide +kernel⟩
def wsX1_node : List Cond := Cond.code yX1_node cX1_node 4 (some .int) :: jW0
theorem kX1_node_c : Cond.code yX1_node cX1_node 4 (some .int) ∈ jW0 := List.mem_filter.mpr ⟨List.mem_of_getElem? (i := 512) (by decide +kernel), by decide +kernel⟩
def wsX1_refused : List Cond := Cond.code yX1_refused cX1_refused 2 (some .boolean) :: jW0
theorem kX1_refused_c : Cond.code yX1_refused cX1_refused 2 (some .boolean) ∈ jW0 := List.mem_filter.mpr ⟨List.mem_of_getElem? (i := 516) (by decide +kernel), by decide +kernel⟩
def wsX1_join : List Cond := Cond.code yX1_join cX1_join 8 (some .int) :: jW0
theorem kX1_join_c : Cond.code yX1_join cX1_join 8 (some .int) ∈ jW0 := List.mem_filter.mpr ⟨List.mem_of_getElem? (i := 520) (by decide +kernel), by decide +kernel⟩
def wsX1_isRun : List Cond := Cond.code yX1_isRun cX1_isRun 2 (some .boolean) :: jW0
theorem kX1_isRun_c : Cond.code yX1_isRun cX1_isRun 2 (some .boolean) ∈ jW0 := List.mem_filter.mpr ⟨List.mem_of_getElem? (i := 523) (by decide +kernel), by decide +kernel⟩
def wsX1_isNode : List Cond := Cond.code yX1_isNode cX1_isNode 2 (some .boolean) :: jW0
theorem kX1_isNode_c : Cond.code yX1_isNode cX1_isNode 2 (some .boolean) ∈ jW0 := List.mem_filter.mpr ⟨List.mem_of_getElem? (i := 527) (by decide +kernel), by decide +kernel⟩
def wsX1_up : List Cond := Cond.code yX1_up cX1_up 3 (some .int) :: jW0
theorem kX1_up_c : Cond.code yX1_up cX1_up 3 (some .int) ∈ jW0 := List.mem_filter.mpr ⟨List.mem_of_getElem? (i := 531) (by decide +kernel), by decide +kernel⟩
def wsX1_part : List Cond := Cond.code yX1_part cX1_part 6 (some .int) :: jW0
theorem kX1_part_c : Cond.code yX1_part cX1_part 6 (some .int) ∈ jW0 := List.mem_filter.mpr ⟨List.mem_of_getElem? (i := 535) (by decide +kernel), by decide +kernel⟩
def wsX1_site : List Cond := Cond.code yX1_site cX1_site 3 (some .int) :: jW0
theorem kX1_site_c : Cond.code yX1_site cX1_site 3 (some .int) ∈ jW0 := List.mem_filter.mpr ⟨List.mem_of_getElem? (i := 539) (by decide +kernel), by decide +kernel⟩
def wsX1_isPlace : List Cond := Cond.code yX1_isPlace cX1_isPlace 1 (some .boolean) :: jW0
theorem kX1_isPlace_c : Cond.code yX1_isPlace cX1_isPlace 1 (some .boolean) ∈ jW0 := List.mem_filter.mpr ⟨List.mem_of_getElem? (i := 542) (by decide +kernel), by decide +kernel⟩
def wsX1_isTaken : List Cond := Cond.code yX1_isTaken cX1_isTaken 4 (some .boolean) :: jW0
theorem kX1_isTaken_c : Cond.code yX1_isTaken cX1_isTaken 4 (some .boolean) ∈ jW0 := List.mem_filter.mpr ⟨List.mem_of_getElem? (i := 546) (by decide +kernel), by decide +kernel⟩
def wsX1_mutate : List Cond := Cond.code yX1_mutate cX1_mutate 5 (some .int) :: jW0
theorem kX1_mutate_c : Cond.code yX1_mutate cX1_mutate 5 (some .int) ∈ jW0 := List.mem_filter.mpr ⟨List.mem_of_getElem? (i := 550) (by decide +kernel), by decide +kernel⟩
def wsX1_isSite : List Cond := Cond.code yX1_isSite cX1_isSite 2 (some .boolean) :: jW0
theorem kX1_isSite_c : Cond.code yX1_isSite cX1_isSite 2 (some .boolean) ∈ jW0 := List.mem_filter.mpr ⟨List.mem_of_getElem? (i := 554) (by decide +kernel), by decide +kernel⟩
def wsX1_count : List Cond := Cond.code yX1_count cX1_count 5 (some .int) :: jW0
theorem kX1_count_c : Cond.code yX1_count cX1_count 5 (some .int) ∈ jW0 := List.mem_filter.mpr ⟨List.mem_of_getElem? (i := 558) (by decide +kernel), by decide +kernel⟩
def wsX1_samples : List Cond := Cond.code yX1_samples cX1_samples 3 (some .int) :: jW0
theorem kX1_samples_c : Cond.code yX1_samples cX1_samples 3 (some .int) ∈ jW0 := List.mem_filter.mpr ⟨List.mem_of_getElem? (i := 562) (by decide +kernel), by decide +kernel⟩
def wsX1_find : List Cond := Cond.code yX1_find cX1_find 7 (some .int) :: jW0
theorem kX1_find_c : Cond.code yX1_find cX1_find 7 (some .int) ∈ jW0 := List.mem_filter.mpr ⟨List.mem_of_getElem? (i := 566) (by decide +kernel), by decide +kernel⟩
def wsX1_begins : List Cond := Cond.code yX1_begins cX1_begins 3 (some .boolean) :: jW0
theorem kX1_begins_c : Cond.code yX1_begins cX1_begins 3 (some .boolean) ∈ jW0 := List.mem_filter.mpr ⟨List.mem_of_getElem? (i := 570) (by decide +kernel), by decide +kernel⟩
def wsX1_time : List Cond := Cond.code yX1_time cX1_time 2 (some .int) :: jW0
theorem kX1_time_c : Cond.code yX1_time cX1_time 2 (some .int) ∈ jW0 := List.mem_filter.mpr ⟨List.mem_of_getElem? (i := 574) (by decide +kernel), by decide +kernel⟩
def wsX1_edge : List Cond := Cond.code yX1_edge cX1_edge 3 (some .int) :: jW0
theorem kX1_edge_c : Cond.code yX1_edge cX1_edge 3 (some .int) ∈ jW0 := List.mem_filter.mpr ⟨List.mem_of_getElem? (i := 578) (by decide +kernel), by decide +kernel⟩
def wsX1_parent : List Cond := Cond.code yX1_parent cX1_parent 3 (some .int) :: jW0
theorem kX1_parent_c : Cond.code yX1_parent cX1_parent 3 (some .int) ∈ jW0 := List.mem_filter.mpr ⟨List.mem_of_getElem? (i := 582) (by decide +kernel), by decide +kernel⟩
def wsX1_meet : List Cond := Cond.code yX1_meet cX1_meet 5 (some .int) :: jW0
theorem kX1_meet_c : Cond.code yX1_meet cX1_meet 5 (some .int) ∈ jW0 := List.mem_filter.mpr ⟨List.mem_of_getElem? (i := 586) (by decide +kernel), by decide +kernel⟩
def wsX1_holds : List Cond := Cond.code yX1_holds cX1_holds 5 (some .boolean) :: jW0
theorem kX1_holds_c : Cond.code yX1_holds cX1_holds 5 (some .boolean) ∈ jW0 := List.mem_filter.mpr ⟨List.mem_of_getElem? (i := 590) (by decide +kernel), by decide +kernel⟩
def wsX1_trees : List Cond := Cond.code yX1_trees cX1_trees 3 (some .int) :: jW0
theorem kX1_trees_c : Cond.code yX1_trees cX1_trees 3 (some .int) ∈ jW0 := List.mem_filter.mpr ⟨List.mem_of_getElem? (i := 594) (by decide +kernel), by decide +kernel⟩
def wsX1_differs : List Cond := Cond.code yX1_differs cX1_differs 4 (some .boolean) :: jW0
theorem kX1_differs_c : Cond.code yX1_differs cX1_differs 4 (some .boolean) ∈ jW0 := List.mem_filter.mpr ⟨List.mem_of_getElem? (i := 598) (by decide +kernel), by decide +kernel⟩
def wsX1_cut : List Cond := Cond.code yX1_cut cX1_cut 5 (some .int) :: jW0
theorem kX1_cut_c : Cond.code yX1_cut cX1_cut 5 (some .int) ∈ jW0 := List.mem_filter.mpr ⟨List.mem_of_getElem? (i := 602) (by decide +kernel), by decide +kernel⟩
def wsX1_letter : List Cond := Cond.code yX1_letter cX1_letter 3 (some .int) :: jW0
theorem kX1_letter_c : Cond.code yX1_letter cX1_letter 3 (some .int) ∈ jW0 := List.mem_filter.mpr ⟨List.mem_of_getElem? (i := 607) (by decide +kernel), by decide +kernel⟩
def wsX1_letterAt : List Cond := Cond.code yX1_letterAt cX1_letterAt 4 (some .int) :: jW0
theorem kX1_letterAt_c : Cond.code yX1_letterAt cX1_letterAt 4 (some .int) ∈ jW0 := List.mem_filter.mpr ⟨List.mem_of_getElem? (i := 611) (by decide +kernel), by decide +kernel⟩
def wsX1_differing : List Cond := Cond.code yX1_differing cX1_differing 5 (some .int) :: jW0
theorem kX1_differing_c : Cond.code yX1_differing cX1_differing 5 (some .int) ∈ jW0 := List.mem_filter.mpr ⟨List.mem_of_getElem? (i := 615) (by decide +kernel), by decide +kernel⟩
def wsX1_spectrum : List Cond := Cond.code yX1_spectrum cX1_spectrum 7 (some .int) :: jW0
theorem kX1_spectrum_c : Cond.code yX1_spectrum cX1_spectrum 7 (some .int) ∈ jW0 := List.mem_filter.mpr ⟨List.mem_of_getElem? (i := 619) (by decide +kernel), by decide +kernel⟩
def wsX1_area : List Cond := Cond.code yX1_area cX1_area 6 (some .int) :: jW0
theorem kX1_area_c : Cond.code yX1_area cX1_area 6 (some .int) ∈ jW0 := List.mem_filter.mpr ⟨List.mem_of_getElem? (i := 623) (by decide +kernel), by decide +kernel⟩
def wsX1_under : List Cond := Cond.code yX1_under cX1_under 5 (some .int) :: jW0
theorem kX1_under_c : Cond.code yX1_under cX1_under 5 (some .int) ∈ jW0 := List.mem_filter.mpr ⟨List.mem_of_getElem? (i := 627) (by decide +kernel), by decide +kernel⟩
def wsX1_simplify : List Cond := Cond.code yX1_simplify cX1_simplify 5 (some .int) :: jW0
theorem kX1_simplify_c : Cond.code yX1_simplify cX1_simplify 5 (some .int) ∈ jW0 := List.mem_filter.mpr ⟨List.mem_of_getElem? (i := 631) (by decide +kernel), by decide +kernel⟩
def wsX1_stays : List Cond := Cond.code yX1_stays cX1_stays 4 (some .boolean) :: jW0
theorem kX1_stays_c : Cond.code yX1_stays cX1_stays 4 (some .boolean) ∈ jW0 := List.mem_filter.mpr ⟨List.mem_of_getElem? (i := 635) (by decide +kernel), by decide +kernel⟩
def wsX1_isFork : List Cond := Cond.code yX1_isFork cX1_isFork 5 (some .boolean) :: jW0
theorem kX1_isFork_c : Cond.code yX1_isFork cX1_isFork 5 (some .boolean) ∈ jW0 := List.mem_filter.mpr ⟨List.mem_of_getElem? (i := 639) (by decide +kernel), by decide +kernel⟩
def wsX1_matters : List Cond := Cond.code yX1_matters cX1_matters 3 (some .boolean) :: jW0
theorem kX1_matters_c : Cond.code yX1_matters cX1_matters 3 (some .boolean) ∈ jW0 := List.mem_filter.mpr ⟨List.mem_of_getElem? (i := 643) (by decide +kernel), by decide +kernel⟩
def wsX1_nearest : List Cond := Cond.code yX1_nearest cX1_nearest 4 (some .int) :: jW0
theorem kX1_nearest_c : Cond.code yX1_nearest cX1_nearest 4 (some .int) ∈ jW0 := List.mem_filter.mpr ⟨List.mem_of_getElem? (i := 647) (by decide +kernel), by decide +kernel⟩
def wsX1_comes : List Cond := Cond.code yX1_comes cX1_comes 5 (some .int) :: jW0
theorem kX1_comes_c : Cond.code yX1_comes cX1_comes 5 (some .int) ∈ jW0 := List.mem_filter.mpr ⟨List.mem_of_getElem? (i := 651) (by decide +kernel), by decide +kernel⟩
def wsX1_became : List Cond := Cond.code yX1_became cX1_became 2 (some .int) :: jW0
theorem kX1_became_c : Cond.code yX1_became cX1_became 2 (some .int) ∈ jW0 := List.mem_filter.mpr ⟨List.mem_of_getElem? (i := 655) (by decide +kernel), by decide +kernel⟩
def wsJ7_fill : List Cond := Cond.code yJ7_fill cJ7_fill 4 none :: jW0
theorem kJ7_fill_c : Cond.code yJ7_fill cJ7_fill 4 none ∈ jW0 := List.mem_filter.mpr ⟨List.mem_of_getElem? (i := 67) (by decide +kernel), by decide +kernel⟩
theorem kini_X0 : Cond.initialized RX0 ∈ jW0 := List.mem_filter.mpr ⟨List.mem_of_getElem? (i := 47) (by decide +kernel), by decide +kernel⟩
theorem kini_X1 : Cond.initialized RX1 ∈ jW0 := List.mem_filter.mpr ⟨List.mem_of_getElem? (i := 49) (by decide +kernel), by decide +kernel⟩
theorem kini_L : Cond.initialized RL ∈ jW0 := List.mem_filter.mpr ⟨List.mem_of_getElem? (i := 46) (by decide +kernel), by decide +kernel⟩
theorem kini_J7 : Cond.initialized RJ7 ∈ jW0 := List.mem_filter.mpr ⟨List.mem_of_getElem? (i := 48) (by decide +kernel), by decide +kernel⟩
theorem kini_sys : Cond.initialized "java/lang/System" ∈ jW0 := List.mem_filter.mpr ⟨List.mem_of_getElem? (i := 56) (by decide +kernel), by decide +kernel⟩
theorem kX0_init_i : Cond.instanceMethod yX0_init ∈ jW0 := List.mem_filter.mpr ⟨List.mem_of_getElem? (i := 60) (by decide +kernel), by decide +kernel⟩
theorem kX0_count_i : Cond.instanceMethod yX0_count ∈ jW0 := List.mem_filter.mpr ⟨List.mem_of_getElem? (i := 111) (by decide +kernel), by decide +kernel⟩
theorem kX0_count_v : Cond.selects RX0 yX0_count yX0_count ∈ jW0 := List.mem_filter.mpr ⟨List.mem_of_getElem? (i := 112) (by decide +kernel), by decide +kernel⟩
theorem kX0_countSamples_i : Cond.instanceMethod yX0_countSamples ∈ jW0 := List.mem_filter.mpr ⟨List.mem_of_getElem? (i := 116) (by decide +kernel), by decide +kernel⟩
theorem kX0_countSamples_v : Cond.selects RX0 yX0_countSamples yX0_countSamples ∈ jW0 := List.mem_filter.mpr ⟨List.mem_of_getElem? (i := 0) (by decide +kernel), by decide +kernel⟩
theorem kX0_countEdges_i : Cond.instanceMethod yX0_countEdges ∈ jW0 := List.mem_filter.mpr ⟨List.mem_of_getElem? (i := 120) (by decide +kernel), by decide +kernel⟩
theorem kX0_countEdges_v : Cond.selects RX0 yX0_countEdges yX0_countEdges ∈ jW0 := List.mem_filter.mpr ⟨List.mem_of_getElem? (i := 1) (by decide +kernel), by decide +kernel⟩
theorem kX0_startsEdge_i : Cond.instanceMethod yX0_startsEdge ∈ jW0 := List.mem_filter.mpr ⟨List.mem_of_getElem? (i := 124) (by decide +kernel), by decide +kernel⟩
theorem kX0_startsEdge_v : Cond.selects RX0 yX0_startsEdge yX0_startsEdge ∈ jW0 := List.mem_filter.mpr ⟨List.mem_of_getElem? (i := 2) (by decide +kernel), by decide +kernel⟩
theorem kX0_parentAt_i : Cond.instanceMethod yX0_parentAt ∈ jW0 := List.mem_filter.mpr ⟨List.mem_of_getElem? (i := 128) (by decide +kernel), by decide +kernel⟩
theorem kX0_parentAt_v : Cond.selects RX0 yX0_parentAt yX0_parentAt ∈ jW0 := List.mem_filter.mpr ⟨List.mem_of_getElem? (i := 3) (by decide +kernel), by decide +kernel⟩
theorem kX0_countMutations_i : Cond.instanceMethod yX0_countMutations ∈ jW0 := List.mem_filter.mpr ⟨List.mem_of_getElem? (i := 132) (by decide +kernel), by decide +kernel⟩
theorem kX0_countMutations_v : Cond.selects RX0 yX0_countMutations yX0_countMutations ∈ jW0 := List.mem_filter.mpr ⟨List.mem_of_getElem? (i := 4) (by decide +kernel), by decide +kernel⟩
theorem kX0_trees_i : Cond.instanceMethod yX0_trees ∈ jW0 := List.mem_filter.mpr ⟨List.mem_of_getElem? (i := 135) (by decide +kernel), by decide +kernel⟩
theorem kX0_trees_v : Cond.selects RX0 yX0_trees yX0_trees ∈ jW0 := List.mem_filter.mpr ⟨List.mem_of_getElem? (i := 136) (by decide +kernel), by decide +kernel⟩
theorem kX0_startsRun_i : Cond.instanceMethod yX0_startsRun ∈ jW0 := List.mem_filter.mpr ⟨List.mem_of_getElem? (i := 140) (by decide +kernel), by decide +kernel⟩
theorem kX0_startsRun_v : Cond.selects RX0 yX0_startsRun yX0_startsRun ∈ jW0 := List.mem_filter.mpr ⟨List.mem_of_getElem? (i := 5) (by decide +kernel), by decide +kernel⟩
theorem kX0_differing_i : Cond.instanceMethod yX0_differing ∈ jW0 := List.mem_filter.mpr ⟨List.mem_of_getElem? (i := 143) (by decide +kernel), by decide +kernel⟩
theorem kX0_differing_v : Cond.selects RX0 yX0_differing yX0_differing ∈ jW0 := List.mem_filter.mpr ⟨List.mem_of_getElem? (i := 144) (by decide +kernel), by decide +kernel⟩
theorem kX0_tallyLetters_i : Cond.instanceMethod yX0_tallyLetters ∈ jW0 := List.mem_filter.mpr ⟨List.mem_of_getElem? (i := 148) (by decide +kernel), by decide +kernel⟩
theorem kX0_tallyLetters_v : Cond.selects RX0 yX0_tallyLetters yX0_tallyLetters ∈ jW0 := List.mem_filter.mpr ⟨List.mem_of_getElem? (i := 6) (by decide +kernel), by decide +kernel⟩
theorem kX0_letterAt_i : Cond.instanceMethod yX0_letterAt ∈ jW0 := List.mem_filter.mpr ⟨List.mem_of_getElem? (i := 152) (by decide +kernel), by decide +kernel⟩
theorem kX0_letterAt_v : Cond.selects RX0 yX0_letterAt yX0_letterAt ∈ jW0 := List.mem_filter.mpr ⟨List.mem_of_getElem? (i := 7) (by decide +kernel), by decide +kernel⟩
theorem kX0_spectrum_i : Cond.instanceMethod yX0_spectrum ∈ jW0 := List.mem_filter.mpr ⟨List.mem_of_getElem? (i := 155) (by decide +kernel), by decide +kernel⟩
theorem kX0_spectrum_v : Cond.selects RX0 yX0_spectrum yX0_spectrum ∈ jW0 := List.mem_filter.mpr ⟨List.mem_of_getElem? (i := 156) (by decide +kernel), by decide +kernel⟩
theorem kX0_area_i : Cond.instanceMethod yX0_area ∈ jW0 := List.mem_filter.mpr ⟨List.mem_of_getElem? (i := 159) (by decide +kernel), by decide +kernel⟩
theorem kX0_area_v : Cond.selects RX0 yX0_area yX0_area ∈ jW0 := List.mem_filter.mpr ⟨List.mem_of_getElem? (i := 160) (by decide +kernel), by decide +kernel⟩
theorem kX0_countCarried_i : Cond.instanceMethod yX0_countCarried ∈ jW0 := List.mem_filter.mpr ⟨List.mem_of_getElem? (i := 164) (by decide +kernel), by decide +kernel⟩
theorem kX0_countCarried_v : Cond.selects RX0 yX0_countCarried yX0_countCarried ∈ jW0 := List.mem_filter.mpr ⟨List.mem_of_getElem? (i := 8) (by decide +kernel), by decide +kernel⟩
theorem kX0_simplify_i : Cond.instanceMethod yX0_simplify ∈ jW0 := List.mem_filter.mpr ⟨List.mem_of_getElem? (i := 167) (by decide +kernel), by decide +kernel⟩
theorem kX0_simplify_v : Cond.selects RX0 yX0_simplify yX0_simplify ∈ jW0 := List.mem_filter.mpr ⟨List.mem_of_getElem? (i := 168) (by decide +kernel), by decide +kernel⟩
theorem kX0_findMattering_i : Cond.instanceMethod yX0_findMattering ∈ jW0 := List.mem_filter.mpr ⟨List.mem_of_getElem? (i := 172) (by decide +kernel), by decide +kernel⟩
theorem kX0_findMattering_v : Cond.selects RX0 yX0_findMattering yX0_findMattering ∈ jW0 := List.mem_filter.mpr ⟨List.mem_of_getElem? (i := 9) (by decide +kernel), by decide +kernel⟩
theorem kX0_countLiveChildren_i : Cond.instanceMethod yX0_countLiveChildren ∈ jW0 := List.mem_filter.mpr ⟨List.mem_of_getElem? (i := 176) (by decide +kernel), by decide +kernel⟩
theorem kX0_countLiveChildren_v : Cond.selects RX0 yX0_countLiveChildren yX0_countLiveChildren ∈ jW0 := List.mem_filter.mpr ⟨List.mem_of_getElem? (i := 10) (by decide +kernel), by decide +kernel⟩
theorem kX0_renumber_i : Cond.instanceMethod yX0_renumber ∈ jW0 := List.mem_filter.mpr ⟨List.mem_of_getElem? (i := 180) (by decide +kernel), by decide +kernel⟩
theorem kX0_renumber_v : Cond.selects RX0 yX0_renumber yX0_renumber ∈ jW0 := List.mem_filter.mpr ⟨List.mem_of_getElem? (i := 11) (by decide +kernel), by decide +kernel⟩
theorem kX0_moveMutations_i : Cond.instanceMethod yX0_moveMutations ∈ jW0 := List.mem_filter.mpr ⟨List.mem_of_getElem? (i := 184) (by decide +kernel), by decide +kernel⟩
theorem kX0_moveMutations_v : Cond.selects RX0 yX0_moveMutations yX0_moveMutations ∈ jW0 := List.mem_filter.mpr ⟨List.mem_of_getElem? (i := 12) (by decide +kernel), by decide +kernel⟩
theorem kX0_matters_i : Cond.instanceMethod yX0_matters ∈ jW0 := List.mem_filter.mpr ⟨List.mem_of_getElem? (i := 188) (by decide +kernel), by decide +kernel⟩
theorem kX0_matters_v : Cond.selects RX0 yX0_matters yX0_matters ∈ jW0 := List.mem_filter.mpr ⟨List.mem_of_getElem? (i := 13) (by decide +kernel), by decide +kernel⟩
theorem kX0_mutationComingTo_i : Cond.instanceMethod yX0_mutationComingTo ∈ jW0 := List.mem_filter.mpr ⟨List.mem_of_getElem? (i := 192) (by decide +kernel), by decide +kernel⟩
theorem kX0_mutationComingTo_v : Cond.selects RX0 yX0_mutationComingTo yX0_mutationComingTo ∈ jW0 := List.mem_filter.mpr ⟨List.mem_of_getElem? (i := 14) (by decide +kernel), by decide +kernel⟩
theorem kX0_moveParents_i : Cond.instanceMethod yX0_moveParents ∈ jW0 := List.mem_filter.mpr ⟨List.mem_of_getElem? (i := 199) (by decide +kernel), by decide +kernel⟩
theorem kX0_moveParents_v : Cond.selects RX0 yX0_moveParents yX0_moveParents ∈ jW0 := List.mem_filter.mpr ⟨List.mem_of_getElem? (i := 15) (by decide +kernel), by decide +kernel⟩
theorem kX0_nearestMatteringAbove_i : Cond.instanceMethod yX0_nearestMatteringAbove ∈ jW0 := List.mem_filter.mpr ⟨List.mem_of_getElem? (i := 203) (by decide +kernel), by decide +kernel⟩
theorem kX0_nearestMatteringAbove_v : Cond.selects RX0 yX0_nearestMatteringAbove yX0_nearestMatteringAbove ∈ jW0 := List.mem_filter.mpr ⟨List.mem_of_getElem? (i := 16) (by decide +kernel), by decide +kernel⟩
theorem kX0_moveNodes_i : Cond.instanceMethod yX0_moveNodes ∈ jW0 := List.mem_filter.mpr ⟨List.mem_of_getElem? (i := 207) (by decide +kernel), by decide +kernel⟩
theorem kX0_moveNodes_v : Cond.selects RX0 yX0_moveNodes yX0_moveNodes ∈ jW0 := List.mem_filter.mpr ⟨List.mem_of_getElem? (i := 17) (by decide +kernel), by decide +kernel⟩
theorem kX0_became_i : Cond.instanceMethod yX0_became ∈ jW0 := List.mem_filter.mpr ⟨List.mem_of_getElem? (i := 210) (by decide +kernel), by decide +kernel⟩
theorem kX0_became_v : Cond.selects RX0 yX0_became yX0_became ∈ jW0 := List.mem_filter.mpr ⟨List.mem_of_getElem? (i := 211) (by decide +kernel), by decide +kernel⟩
theorem kL_node_s : Cond.static yL_node ∈ jW0 := List.mem_filter.mpr ⟨List.mem_of_getElem? (i := 214) (by decide +kernel), by decide +kernel⟩
theorem kX0_node_i : Cond.instanceMethod yX0_node ∈ jW0 := List.mem_filter.mpr ⟨List.mem_of_getElem? (i := 219) (by decide +kernel), by decide +kernel⟩
theorem kX0_node_v : Cond.selects RX0 yX0_node yX0_node ∈ jW0 := List.mem_filter.mpr ⟨List.mem_of_getElem? (i := 220) (by decide +kernel), by decide +kernel⟩
theorem kL_join_s : Cond.static yL_join ∈ jW0 := List.mem_filter.mpr ⟨List.mem_of_getElem? (i := 307) (by decide +kernel), by decide +kernel⟩
theorem kX0_join_i : Cond.instanceMethod yX0_join ∈ jW0 := List.mem_filter.mpr ⟨List.mem_of_getElem? (i := 311) (by decide +kernel), by decide +kernel⟩
theorem kX0_join_v : Cond.selects RX0 yX0_join yX0_join ∈ jW0 := List.mem_filter.mpr ⟨List.mem_of_getElem? (i := 312) (by decide +kernel), by decide +kernel⟩
theorem kX0_isRun_s : Cond.static yX0_isRun ∈ jW0 := List.mem_filter.mpr ⟨List.mem_of_getElem? (i := 315) (by decide +kernel), by decide +kernel⟩
theorem kX0_isNode_i : Cond.instanceMethod yX0_isNode ∈ jW0 := List.mem_filter.mpr ⟨List.mem_of_getElem? (i := 319) (by decide +kernel), by decide +kernel⟩
theorem kX0_isNode_v : Cond.selects RX0 yX0_isNode yX0_isNode ∈ jW0 := List.mem_filter.mpr ⟨List.mem_of_getElem? (i := 19) (by decide +kernel), by decide +kernel⟩
theorem kX0_hasParentBeside_i : Cond.instanceMethod yX0_hasParentBeside ∈ jW0 := List.mem_filter.mpr ⟨List.mem_of_getElem? (i := 340) (by decide +kernel), by decide +kernel⟩
theorem kX0_hasParentBeside_v : Cond.selects RX0 yX0_hasParentBeside yX0_hasParentBeside ∈ jW0 := List.mem_filter.mpr ⟨List.mem_of_getElem? (i := 20) (by decide +kernel), by decide +kernel⟩
theorem kX0_setParents_i : Cond.instanceMethod yX0_setParents ∈ jW0 := List.mem_filter.mpr ⟨List.mem_of_getElem? (i := 345) (by decide +kernel), by decide +kernel⟩
theorem kX0_setParents_v : Cond.selects RX0 yX0_setParents yX0_setParents ∈ jW0 := List.mem_filter.mpr ⟨List.mem_of_getElem? (i := 21) (by decide +kernel), by decide +kernel⟩
theorem kL_part_s : Cond.static yL_part ∈ jW0 := List.mem_filter.mpr ⟨List.mem_of_getElem? (i := 348) (by decide +kernel), by decide +kernel⟩
theorem kX0_part_i : Cond.instanceMethod yX0_part ∈ jW0 := List.mem_filter.mpr ⟨List.mem_of_getElem? (i := 351) (by decide +kernel), by decide +kernel⟩
theorem kX0_part_v : Cond.selects RX0 yX0_part yX0_part ∈ jW0 := List.mem_filter.mpr ⟨List.mem_of_getElem? (i := 352) (by decide +kernel), by decide +kernel⟩
theorem kL_site_s : Cond.static yL_site ∈ jW0 := List.mem_filter.mpr ⟨List.mem_of_getElem? (i := 355) (by decide +kernel), by decide +kernel⟩
theorem kX0_site_i : Cond.instanceMethod yX0_site ∈ jW0 := List.mem_filter.mpr ⟨List.mem_of_getElem? (i := 358) (by decide +kernel), by decide +kernel⟩
theorem kX0_site_v : Cond.selects RX0 yX0_site yX0_site ∈ jW0 := List.mem_filter.mpr ⟨List.mem_of_getElem? (i := 359) (by decide +kernel), by decide +kernel⟩
theorem kX0_isPlace_s : Cond.static yX0_isPlace ∈ jW0 := List.mem_filter.mpr ⟨List.mem_of_getElem? (i := 362) (by decide +kernel), by decide +kernel⟩
theorem kX0_hasSite_i : Cond.instanceMethod yX0_hasSite ∈ jW0 := List.mem_filter.mpr ⟨List.mem_of_getElem? (i := 367) (by decide +kernel), by decide +kernel⟩
theorem kX0_hasSite_v : Cond.selects RX0 yX0_hasSite yX0_hasSite ∈ jW0 := List.mem_filter.mpr ⟨List.mem_of_getElem? (i := 22) (by decide +kernel), by decide +kernel⟩
theorem kL_mutate_s : Cond.static yL_mutate ∈ jW0 := List.mem_filter.mpr ⟨List.mem_of_getElem? (i := 372) (by decide +kernel), by decide +kernel⟩
theorem kX0_mutate_i : Cond.instanceMethod yX0_mutate ∈ jW0 := List.mem_filter.mpr ⟨List.mem_of_getElem? (i := 375) (by decide +kernel), by decide +kernel⟩
theorem kX0_mutate_v : Cond.selects RX0 yX0_mutate yX0_mutate ∈ jW0 := List.mem_filter.mpr ⟨List.mem_of_getElem? (i := 376) (by decide +kernel), by decide +kernel⟩
theorem kX0_isSite_i : Cond.instanceMethod yX0_isSite ∈ jW0 := List.mem_filter.mpr ⟨List.mem_of_getElem? (i := 380) (by decide +kernel), by decide +kernel⟩
theorem kX0_isSite_v : Cond.selects RX0 yX0_isSite yX0_isSite ∈ jW0 := List.mem_filter.mpr ⟨List.mem_of_getElem? (i := 23) (by decide +kernel), by decide +kernel⟩
theorem kL_time_s : Cond.static yL_time ∈ jW0 := List.mem_filter.mpr ⟨List.mem_of_getElem? (i := 385) (by decide +kernel), by decide +kernel⟩
theorem kX0_time_i : Cond.instanceMethod yX0_time ∈ jW0 := List.mem_filter.mpr ⟨List.mem_of_getElem? (i := 388) (by decide +kernel), by decide +kernel⟩
theorem kX0_time_v : Cond.selects RX0 yX0_time yX0_time ∈ jW0 := List.mem_filter.mpr ⟨List.mem_of_getElem? (i := 389) (by decide +kernel), by decide +kernel⟩
theorem kL_edge_s : Cond.static yL_edge ∈ jW0 := List.mem_filter.mpr ⟨List.mem_of_getElem? (i := 393) (by decide +kernel), by decide +kernel⟩
theorem kX0_edge_i : Cond.instanceMethod yX0_edge ∈ jW0 := List.mem_filter.mpr ⟨List.mem_of_getElem? (i := 396) (by decide +kernel), by decide +kernel⟩
theorem kX0_edge_v : Cond.selects RX0 yX0_edge yX0_edge ∈ jW0 := List.mem_filter.mpr ⟨List.mem_of_getElem? (i := 397) (by decide +kernel), by decide +kernel⟩
theorem kX0_findEdge_i : Cond.instanceMethod yX0_findEdge ∈ jW0 := List.mem_filter.mpr ⟨List.mem_of_getElem? (i := 401) (by decide +kernel), by decide +kernel⟩
theorem kX0_findEdge_v : Cond.selects RX0 yX0_findEdge yX0_findEdge ∈ jW0 := List.mem_filter.mpr ⟨List.mem_of_getElem? (i := 24) (by decide +kernel), by decide +kernel⟩
theorem kX0_nextByTime_i : Cond.instanceMethod yX0_nextByTime ∈ jW0 := List.mem_filter.mpr ⟨List.mem_of_getElem? (i := 405) (by decide +kernel), by decide +kernel⟩
theorem kX0_nextByTime_v : Cond.selects RX0 yX0_nextByTime yX0_nextByTime ∈ jW0 := List.mem_filter.mpr ⟨List.mem_of_getElem? (i := 25) (by decide +kernel), by decide +kernel⟩
theorem kX0_isEarlier_i : Cond.instanceMethod yX0_isEarlier ∈ jW0 := List.mem_filter.mpr ⟨List.mem_of_getElem? (i := 409) (by decide +kernel), by decide +kernel⟩
theorem kX0_isEarlier_v : Cond.selects RX0 yX0_isEarlier yX0_isEarlier ∈ jW0 := List.mem_filter.mpr ⟨List.mem_of_getElem? (i := 26) (by decide +kernel), by decide +kernel⟩
theorem kX0_edgeEnd_i : Cond.instanceMethod yX0_edgeEnd ∈ jW0 := List.mem_filter.mpr ⟨List.mem_of_getElem? (i := 414) (by decide +kernel), by decide +kernel⟩
theorem kX0_edgeEnd_v : Cond.selects RX0 yX0_edgeEnd yX0_edgeEnd ∈ jW0 := List.mem_filter.mpr ⟨List.mem_of_getElem? (i := 27) (by decide +kernel), by decide +kernel⟩
theorem kL_parent_s : Cond.static yL_parent ∈ jW0 := List.mem_filter.mpr ⟨List.mem_of_getElem? (i := 417) (by decide +kernel), by decide +kernel⟩
theorem kX0_parent_i : Cond.instanceMethod yX0_parent ∈ jW0 := List.mem_filter.mpr ⟨List.mem_of_getElem? (i := 420) (by decide +kernel), by decide +kernel⟩
theorem kX0_parent_v : Cond.selects RX0 yX0_parent yX0_parent ∈ jW0 := List.mem_filter.mpr ⟨List.mem_of_getElem? (i := 421) (by decide +kernel), by decide +kernel⟩
theorem kL_meet_s : Cond.static yL_meet ∈ jW0 := List.mem_filter.mpr ⟨List.mem_of_getElem? (i := 425) (by decide +kernel), by decide +kernel⟩
theorem kX0_meet_i : Cond.instanceMethod yX0_meet ∈ jW0 := List.mem_filter.mpr ⟨List.mem_of_getElem? (i := 428) (by decide +kernel), by decide +kernel⟩
theorem kX0_meet_v : Cond.selects RX0 yX0_meet yX0_meet ∈ jW0 := List.mem_filter.mpr ⟨List.mem_of_getElem? (i := 429) (by decide +kernel), by decide +kernel⟩
theorem kX0_isAtOrAbove_i : Cond.instanceMethod yX0_isAtOrAbove ∈ jW0 := List.mem_filter.mpr ⟨List.mem_of_getElem? (i := 433) (by decide +kernel), by decide +kernel⟩
theorem kX0_isAtOrAbove_v : Cond.selects RX0 yX0_isAtOrAbove yX0_isAtOrAbove ∈ jW0 := List.mem_filter.mpr ⟨List.mem_of_getElem? (i := 28) (by decide +kernel), by decide +kernel⟩
theorem kL_cut_s : Cond.static yL_cut ∈ jW0 := List.mem_filter.mpr ⟨List.mem_of_getElem? (i := 436) (by decide +kernel), by decide +kernel⟩
theorem kX0_cut_i : Cond.instanceMethod yX0_cut ∈ jW0 := List.mem_filter.mpr ⟨List.mem_of_getElem? (i := 439) (by decide +kernel), by decide +kernel⟩
theorem kX0_cut_v : Cond.selects RX0 yX0_cut yX0_cut ∈ jW0 := List.mem_filter.mpr ⟨List.mem_of_getElem? (i := 440) (by decide +kernel), by decide +kernel⟩
theorem kL_letter_s : Cond.static yL_letter ∈ jW0 := List.mem_filter.mpr ⟨List.mem_of_getElem? (i := 444) (by decide +kernel), by decide +kernel⟩
theorem kX0_letter_i : Cond.instanceMethod yX0_letter ∈ jW0 := List.mem_filter.mpr ⟨List.mem_of_getElem? (i := 447) (by decide +kernel), by decide +kernel⟩
theorem kX0_letter_v : Cond.selects RX0 yX0_letter yX0_letter ∈ jW0 := List.mem_filter.mpr ⟨List.mem_of_getElem? (i := 448) (by decide +kernel), by decide +kernel⟩
theorem kX1_init_i : Cond.instanceMethod yX1_init ∈ jW0 := List.mem_filter.mpr ⟨List.mem_of_getElem? (i := 453) (by decide +kernel), by decide +kernel⟩
theorem kX1_thrown_i : Cond.instanceMethod yX1_thrown ∈ jW0 := List.mem_filter.mpr ⟨List.mem_of_getElem? (i := 506) (by decide +kernel), by decide +kernel⟩
theorem kX1_thrown_v : Cond.selects RX1 yX1_thrown yX1_thrown ∈ jW0 := List.mem_filter.mpr ⟨List.mem_of_getElem? (i := 507) (by decide +kernel), by decide +kernel⟩
theorem kX1_node_i : Cond.instanceMethod yX1_node ∈ jW0 := List.mem_filter.mpr ⟨List.mem_of_getElem? (i := 510) (by decide +kernel), by decide +kernel⟩
theorem kX1_node_v : Cond.selects RX1 yX1_node yX1_node ∈ jW0 := List.mem_filter.mpr ⟨List.mem_of_getElem? (i := 511) (by decide +kernel), by decide +kernel⟩
theorem kX1_refused_i : Cond.instanceMethod yX1_refused ∈ jW0 := List.mem_filter.mpr ⟨List.mem_of_getElem? (i := 515) (by decide +kernel), by decide +kernel⟩
theorem kX1_refused_v : Cond.selects RX1 yX1_refused yX1_refused ∈ jW0 := List.mem_filter.mpr ⟨List.mem_of_getElem? (i := 29) (by decide +kernel), by decide +kernel⟩
theorem kX1_join_i : Cond.instanceMethod yX1_join ∈ jW0 := List.mem_filter.mpr ⟨List.mem_of_getElem? (i := 518) (by decide +kernel), by decide +kernel⟩
theorem kX1_join_v : Cond.selects RX1 yX1_join yX1_join ∈ jW0 := List.mem_filter.mpr ⟨List.mem_of_getElem? (i := 519) (by decide +kernel), by decide +kernel⟩
theorem kX1_isRun_s : Cond.static yX1_isRun ∈ jW0 := List.mem_filter.mpr ⟨List.mem_of_getElem? (i := 522) (by decide +kernel), by decide +kernel⟩
theorem kX1_isNode_i : Cond.instanceMethod yX1_isNode ∈ jW0 := List.mem_filter.mpr ⟨List.mem_of_getElem? (i := 526) (by decide +kernel), by decide +kernel⟩
theorem kX1_isNode_v : Cond.selects RX1 yX1_isNode yX1_isNode ∈ jW0 := List.mem_filter.mpr ⟨List.mem_of_getElem? (i := 30) (by decide +kernel), by decide +kernel⟩
theorem kX1_up_i : Cond.instanceMethod yX1_up ∈ jW0 := List.mem_filter.mpr ⟨List.mem_of_getElem? (i := 530) (by decide +kernel), by decide +kernel⟩
theorem kX1_up_v : Cond.selects RX1 yX1_up yX1_up ∈ jW0 := List.mem_filter.mpr ⟨List.mem_of_getElem? (i := 31) (by decide +kernel), by decide +kernel⟩
theorem kX1_part_i : Cond.instanceMethod yX1_part ∈ jW0 := List.mem_filter.mpr ⟨List.mem_of_getElem? (i := 533) (by decide +kernel), by decide +kernel⟩
theorem kX1_part_v : Cond.selects RX1 yX1_part yX1_part ∈ jW0 := List.mem_filter.mpr ⟨List.mem_of_getElem? (i := 534) (by decide +kernel), by decide +kernel⟩
theorem kX1_site_i : Cond.instanceMethod yX1_site ∈ jW0 := List.mem_filter.mpr ⟨List.mem_of_getElem? (i := 537) (by decide +kernel), by decide +kernel⟩
theorem kX1_site_v : Cond.selects RX1 yX1_site yX1_site ∈ jW0 := List.mem_filter.mpr ⟨List.mem_of_getElem? (i := 538) (by decide +kernel), by decide +kernel⟩
theorem kX1_isPlace_s : Cond.static yX1_isPlace ∈ jW0 := List.mem_filter.mpr ⟨List.mem_of_getElem? (i := 541) (by decide +kernel), by decide +kernel⟩
theorem kX1_isTaken_i : Cond.instanceMethod yX1_isTaken ∈ jW0 := List.mem_filter.mpr ⟨List.mem_of_getElem? (i := 545) (by decide +kernel), by decide +kernel⟩
theorem kX1_isTaken_v : Cond.selects RX1 yX1_isTaken yX1_isTaken ∈ jW0 := List.mem_filter.mpr ⟨List.mem_of_getElem? (i := 32) (by decide +kernel), by decide +kernel⟩
theorem kX1_mutate_i : Cond.instanceMethod yX1_mutate ∈ jW0 := List.mem_filter.mpr ⟨List.mem_of_getElem? (i := 548) (by decide +kernel), by decide +kernel⟩
theorem kX1_mutate_v : Cond.selects RX1 yX1_mutate yX1_mutate ∈ jW0 := List.mem_filter.mpr ⟨List.mem_of_getElem? (i := 549) (by decide +kernel), by decide +kernel⟩
theorem kX1_isSite_i : Cond.instanceMethod yX1_isSite ∈ jW0 := List.mem_filter.mpr ⟨List.mem_of_getElem? (i := 553) (by decide +kernel), by decide +kernel⟩
theorem kX1_isSite_v : Cond.selects RX1 yX1_isSite yX1_isSite ∈ jW0 := List.mem_filter.mpr ⟨List.mem_of_getElem? (i := 33) (by decide +kernel), by decide +kernel⟩
theorem kX1_count_i : Cond.instanceMethod yX1_count ∈ jW0 := List.mem_filter.mpr ⟨List.mem_of_getElem? (i := 556) (by decide +kernel), by decide +kernel⟩
theorem kX1_count_v : Cond.selects RX1 yX1_count yX1_count ∈ jW0 := List.mem_filter.mpr ⟨List.mem_of_getElem? (i := 557) (by decide +kernel), by decide +kernel⟩
theorem kX1_samples_i : Cond.instanceMethod yX1_samples ∈ jW0 := List.mem_filter.mpr ⟨List.mem_of_getElem? (i := 561) (by decide +kernel), by decide +kernel⟩
theorem kX1_samples_v : Cond.selects RX1 yX1_samples yX1_samples ∈ jW0 := List.mem_filter.mpr ⟨List.mem_of_getElem? (i := 34) (by decide +kernel), by decide +kernel⟩
theorem kX1_find_i : Cond.instanceMethod yX1_find ∈ jW0 := List.mem_filter.mpr ⟨List.mem_of_getElem? (i := 565) (by decide +kernel), by decide +kernel⟩
theorem kX1_find_v : Cond.selects RX1 yX1_find yX1_find ∈ jW0 := List.mem_filter.mpr ⟨List.mem_of_getElem? (i := 35) (by decide +kernel), by decide +kernel⟩
theorem kX1_begins_i : Cond.instanceMethod yX1_begins ∈ jW0 := List.mem_filter.mpr ⟨List.mem_of_getElem? (i := 569) (by decide +kernel), by decide +kernel⟩
theorem kX1_begins_v : Cond.selects RX1 yX1_begins yX1_begins ∈ jW0 := List.mem_filter.mpr ⟨List.mem_of_getElem? (i := 36) (by decide +kernel), by decide +kernel⟩
theorem kX1_time_i : Cond.instanceMethod yX1_time ∈ jW0 := List.mem_filter.mpr ⟨List.mem_of_getElem? (i := 572) (by decide +kernel), by decide +kernel⟩
theorem kX1_time_v : Cond.selects RX1 yX1_time yX1_time ∈ jW0 := List.mem_filter.mpr ⟨List.mem_of_getElem? (i := 573) (by decide +kernel), by decide +kernel⟩
theorem kX1_edge_i : Cond.instanceMethod yX1_edge ∈ jW0 := List.mem_filter.mpr ⟨List.mem_of_getElem? (i := 576) (by decide +kernel), by decide +kernel⟩
theorem kX1_edge_v : Cond.selects RX1 yX1_edge yX1_edge ∈ jW0 := List.mem_filter.mpr ⟨List.mem_of_getElem? (i := 577) (by decide +kernel), by decide +kernel⟩
theorem kX1_parent_i : Cond.instanceMethod yX1_parent ∈ jW0 := List.mem_filter.mpr ⟨List.mem_of_getElem? (i := 580) (by decide +kernel), by decide +kernel⟩
theorem kX1_parent_v : Cond.selects RX1 yX1_parent yX1_parent ∈ jW0 := List.mem_filter.mpr ⟨List.mem_of_getElem? (i := 581) (by decide +kernel), by decide +kernel⟩
theorem kX1_meet_i : Cond.instanceMethod yX1_meet ∈ jW0 := List.mem_filter.mpr ⟨List.mem_of_getElem? (i := 584) (by decide +kernel), by decide +kernel⟩
theorem kX1_meet_v : Cond.selects RX1 yX1_meet yX1_meet ∈ jW0 := List.mem_filter.mpr ⟨List.mem_of_getElem? (i := 585) (by decide +kernel), by decide +kernel⟩
theorem kX1_holds_i : Cond.instanceMethod yX1_holds ∈ jW0 := List.mem_filter.mpr ⟨List.mem_of_getElem? (i := 589) (by decide +kernel), by decide +kernel⟩
theorem kX1_holds_v : Cond.selects RX1 yX1_holds yX1_holds ∈ jW0 := List.mem_filter.mpr ⟨List.mem_of_getElem? (i := 37) (by decide +kernel), by decide +kernel⟩
theorem kX1_trees_i : Cond.instanceMethod yX1_trees ∈ jW0 := List.mem_filter.mpr ⟨List.mem_of_getElem? (i := 592) (by decide +kernel), by decide +kernel⟩
theorem kX1_trees_v : Cond.selects RX1 yX1_trees yX1_trees ∈ jW0 := List.mem_filter.mpr ⟨List.mem_of_getElem? (i := 593) (by decide +kernel), by decide +kernel⟩
theorem kX1_differs_i : Cond.instanceMethod yX1_differs ∈ jW0 := List.mem_filter.mpr ⟨List.mem_of_getElem? (i := 597) (by decide +kernel), by decide +kernel⟩
theorem kX1_differs_v : Cond.selects RX1 yX1_differs yX1_differs ∈ jW0 := List.mem_filter.mpr ⟨List.mem_of_getElem? (i := 38) (by decide +kernel), by decide +kernel⟩
theorem kX1_cut_i : Cond.instanceMethod yX1_cut ∈ jW0 := List.mem_filter.mpr ⟨List.mem_of_getElem? (i := 600) (by decide +kernel), by decide +kernel⟩
theorem kX1_cut_v : Cond.selects RX1 yX1_cut yX1_cut ∈ jW0 := List.mem_filter.mpr ⟨List.mem_of_getElem? (i := 601) (by decide +kernel), by decide +kernel⟩
theorem kX1_letter_i : Cond.instanceMethod yX1_letter ∈ jW0 := List.mem_filter.mpr ⟨List.mem_of_getElem? (i := 605) (by decide +kernel), by decide +kernel⟩
theorem kX1_letter_v : Cond.selects RX1 yX1_letter yX1_letter ∈ jW0 := List.mem_filter.mpr ⟨List.mem_of_getElem? (i := 606) (by decide +kernel), by decide +kernel⟩
theorem kX1_letterAt_i : Cond.instanceMethod yX1_letterAt ∈ jW0 := List.mem_filter.mpr ⟨List.mem_of_getElem? (i := 610) (by decide +kernel), by decide +kernel⟩
theorem kX1_letterAt_v : Cond.selects RX1 yX1_letterAt yX1_letterAt ∈ jW0 := List.mem_filter.mpr ⟨List.mem_of_getElem? (i := 39) (by decide +kernel), by decide +kernel⟩
theorem kX1_differing_i : Cond.instanceMethod yX1_differing ∈ jW0 := List.mem_filter.mpr ⟨List.mem_of_getElem? (i := 613) (by decide +kernel), by decide +kernel⟩
theorem kX1_differing_v : Cond.selects RX1 yX1_differing yX1_differing ∈ jW0 := List.mem_filter.mpr ⟨List.mem_of_getElem? (i := 614) (by decide +kernel), by decide +kernel⟩
theorem kX1_spectrum_i : Cond.instanceMethod yX1_spectrum ∈ jW0 := List.mem_filter.mpr ⟨List.mem_of_getElem? (i := 617) (by decide +kernel), by decide +kernel⟩
theorem kX1_spectrum_v : Cond.selects RX1 yX1_spectrum yX1_spectrum ∈ jW0 := List.mem_filter.mpr ⟨List.mem_of_getElem? (i := 618) (by decide +kernel), by decide +kernel⟩
theorem kX1_area_i : Cond.instanceMethod yX1_area ∈ jW0 := List.mem_filter.mpr ⟨List.mem_of_getElem? (i := 621) (by decide +kernel), by decide +kernel⟩
theorem kX1_area_v : Cond.selects RX1 yX1_area yX1_area ∈ jW0 := List.mem_filter.mpr ⟨List.mem_of_getElem? (i := 622) (by decide +kernel), by decide +kernel⟩
theorem kX1_under_i : Cond.instanceMethod yX1_under ∈ jW0 := List.mem_filter.mpr ⟨List.mem_of_getElem? (i := 626) (by decide +kernel), by decide +kernel⟩
theorem kX1_under_v : Cond.selects RX1 yX1_under yX1_under ∈ jW0 := List.mem_filter.mpr ⟨List.mem_of_getElem? (i := 40) (by decide +kernel), by decide +kernel⟩
theorem kX1_simplify_i : Cond.instanceMethod yX1_simplify ∈ jW0 := List.mem_filter.mpr ⟨List.mem_of_getElem? (i := 629) (by decide +kernel), by decide +kernel⟩
theorem kX1_simplify_v : Cond.selects RX1 yX1_simplify yX1_simplify ∈ jW0 := List.mem_filter.mpr ⟨List.mem_of_getElem? (i := 630) (by decide +kernel), by decide +kernel⟩
theorem kX1_stays_i : Cond.instanceMethod yX1_stays ∈ jW0 := List.mem_filter.mpr ⟨List.mem_of_getElem? (i := 634) (by decide +kernel), by decide +kernel⟩
theorem kX1_stays_v : Cond.selects RX1 yX1_stays yX1_stays ∈ jW0 := List.mem_filter.mpr ⟨List.mem_of_getElem? (i := 41) (by decide +kernel), by decide +kernel⟩
theorem kX1_isFork_i : Cond.instanceMethod yX1_isFork ∈ jW0 := List.mem_filter.mpr ⟨List.mem_of_getElem? (i := 638) (by decide +kernel), by decide +kernel⟩
theorem kX1_isFork_v : Cond.selects RX1 yX1_isFork yX1_isFork ∈ jW0 := List.mem_filter.mpr ⟨List.mem_of_getElem? (i := 42) (by decide +kernel), by decide +kernel⟩
theorem kX1_matters_i : Cond.instanceMethod yX1_matters ∈ jW0 := List.mem_filter.mpr ⟨List.mem_of_getElem? (i := 642) (by decide +kernel), by decide +kernel⟩
theorem kX1_matters_v : Cond.selects RX1 yX1_matters yX1_matters ∈ jW0 := List.mem_filter.mpr ⟨List.mem_of_getElem? (i := 43) (by decide +kernel), by decide +kernel⟩
theorem kX1_nearest_i : Cond.instanceMethod yX1_nearest ∈ jW0 := List.mem_filter.mpr ⟨List.mem_of_getElem? (i := 646) (by decide +kernel), by decide +kernel⟩
theorem kX1_nearest_v : Cond.selects RX1 yX1_nearest yX1_nearest ∈ jW0 := List.mem_filter.mpr ⟨List.mem_of_getElem? (i := 44) (by decide +kernel), by decide +kernel⟩
theorem kX1_comes_i : Cond.instanceMethod yX1_comes ∈ jW0 := List.mem_filter.mpr ⟨List.mem_of_getElem? (i := 650) (by decide +kernel), by decide +kernel⟩
theorem kX1_comes_v : Cond.selects RX1 yX1_comes yX1_comes ∈ jW0 := List.mem_filter.mpr ⟨List.mem_of_getElem? (i := 45) (by decide +kernel), by decide +kernel⟩
theorem kX1_became_i : Cond.instanceMethod yX1_became ∈ jW0 := List.mem_filter.mpr ⟨List.mem_of_getElem? (i := 653) (by decide +kernel), by decide +kernel⟩
theorem kX1_became_v : Cond.selects RX1 yX1_became yX1_became ∈ jW0 := List.mem_filter.mpr ⟨List.mem_of_getElem? (i := 654) (by decide +kernel), by decide +kernel⟩
theorem kJ7_fill_s : Cond.static yJ7_fill ∈ jW0 := List.mem_filter.mpr ⟨List.mem_of_getElem? (i := 66) (by decide +kernel), by decide +kernel⟩
theorem kcL_8 : Cond.classLink RL 8 RX0 ∈ jW0 := List.mem_filter.mpr ⟨List.mem_of_getElem? (i := 57) (by decide +kernel), by decide +kernel⟩
theorem klL_53 : Cond.methodLink RL 53 yX0_init ∈ jW0 := List.mem_filter.mpr ⟨List.mem_of_getElem? (i := 59) (by decide +kernel), by decide +kernel⟩
theorem klX0_1 : Cond.methodLink RX0 1 objectInit ∈ jW0 := List.mem_filter.mpr ⟨List.mem_of_getElem? (i := 62) (by decide +kernel), by decide +kernel⟩
theorem klX0_51 : Cond.methodLink RX0 51 yJ7_fill ∈ jW0 := List.mem_filter.mpr ⟨List.mem_of_getElem? (i := 65) (by decide +kernel), by decide +kernel⟩
theorem kfX0_7 : Cond.fieldLink RX0 7 "LineageTables" "nodeCount" "I" ∈ jW0 := List.mem_filter.mpr ⟨List.mem_of_getElem? (i := 68) (by decide +kernel), by decide +kernel⟩
theorem kfX0_13 : Cond.fieldLink RX0 13 "LineageTables" "times" "[I" ∈ jW0 := List.mem_filter.mpr ⟨List.mem_of_getElem? (i := 69) (by decide +kernel), by decide +kernel⟩
theorem kfX0_17 : Cond.fieldLink RX0 17 "LineageTables" "samples" "[Z" ∈ jW0 := List.mem_filter.mpr ⟨List.mem_of_getElem? (i := 70) (by decide +kernel), by decide +kernel⟩
theorem kfX0_21 : Cond.fieldLink RX0 21 "LineageTables" "parents" "[I" ∈ jW0 := List.mem_filter.mpr ⟨List.mem_of_getElem? (i := 71) (by decide +kernel), by decide +kernel⟩
theorem kfX0_24 : Cond.fieldLink RX0 24 "LineageTables" "siteCount" "I" ∈ jW0 := List.mem_filter.mpr ⟨List.mem_of_getElem? (i := 72) (by decide +kernel), by decide +kernel⟩
theorem kfX0_27 : Cond.fieldLink RX0 27 "LineageTables" "sitePlaces" "[I" ∈ jW0 := List.mem_filter.mpr ⟨List.mem_of_getElem? (i := 73) (by decide +kernel), by decide +kernel⟩
theorem kfX0_30 : Cond.fieldLink RX0 30 "LineageTables" "ancestrals" "[I" ∈ jW0 := List.mem_filter.mpr ⟨List.mem_of_getElem? (i := 74) (by decide +kernel), by decide +kernel⟩
theorem kfX0_33 : Cond.fieldLink RX0 33 "LineageTables" "mutations" "[I" ∈ jW0 := List.mem_filter.mpr ⟨List.mem_of_getElem? (i := 75) (by decide +kernel), by decide +kernel⟩
theorem kfX0_36 : Cond.fieldLink RX0 36 "LineageTables" "newNumbers" "[I" ∈ jW0 := List.mem_filter.mpr ⟨List.mem_of_getElem? (i := 76) (by decide +kernel), by decide +kernel⟩
theorem kfX0_39 : Cond.fieldLink RX0 39 "LineageTables" "carried" "[I" ∈ jW0 := List.mem_filter.mpr ⟨List.mem_of_getElem? (i := 77) (by decide +kernel), by decide +kernel⟩
theorem kfX0_42 : Cond.fieldLink RX0 42 "LineageTables" "mattering" "[I" ∈ jW0 := List.mem_filter.mpr ⟨List.mem_of_getElem? (i := 78) (by decide +kernel), by decide +kernel⟩
theorem kfX0_45 : Cond.fieldLink RX0 45 "LineageTables" "tally" "[I" ∈ jW0 := List.mem_filter.mpr ⟨List.mem_of_getElem? (i := 79) (by decide +kernel), by decide +kernel⟩
theorem kfX0_48 : Cond.fieldLink RX0 48 "LineageTables" "row" "[I" ∈ jW0 := List.mem_filter.mpr ⟨List.mem_of_getElem? (i := 80) (by decide +kernel), by decide +kernel⟩
theorem klL_82 : Cond.methodLink RL 82 yX0_count ∈ jW0 := List.mem_filter.mpr ⟨List.mem_of_getElem? (i := 110) (by decide +kernel), by decide +kernel⟩
theorem klX0_113 : Cond.methodLink RX0 113 yX0_countSamples ∈ jW0 := List.mem_filter.mpr ⟨List.mem_of_getElem? (i := 114) (by decide +kernel), by decide +kernel⟩
theorem klX0_117 : Cond.methodLink RX0 117 yX0_countEdges ∈ jW0 := List.mem_filter.mpr ⟨List.mem_of_getElem? (i := 118) (by decide +kernel), by decide +kernel⟩
theorem klX0_174 : Cond.methodLink RX0 174 yX0_startsEdge ∈ jW0 := List.mem_filter.mpr ⟨List.mem_of_getElem? (i := 122) (by decide +kernel), by decide +kernel⟩
theorem klX0_135 : Cond.methodLink RX0 135 yX0_parentAt ∈ jW0 := List.mem_filter.mpr ⟨List.mem_of_getElem? (i := 126) (by decide +kernel), by decide +kernel⟩
theorem klX0_120 : Cond.methodLink RX0 120 yX0_countMutations ∈ jW0 := List.mem_filter.mpr ⟨List.mem_of_getElem? (i := 130) (by decide +kernel), by decide +kernel⟩
theorem klL_99 : Cond.methodLink RL 99 yX0_trees ∈ jW0 := List.mem_filter.mpr ⟨List.mem_of_getElem? (i := 134) (by decide +kernel), by decide +kernel⟩
theorem klX0_144 : Cond.methodLink RX0 144 yX0_startsRun ∈ jW0 := List.mem_filter.mpr ⟨List.mem_of_getElem? (i := 138) (by decide +kernel), by decide +kernel⟩
theorem klL_109 : Cond.methodLink RL 109 yX0_differing ∈ jW0 := List.mem_filter.mpr ⟨List.mem_of_getElem? (i := 142) (by decide +kernel), by decide +kernel⟩
theorem klX0_152 : Cond.methodLink RX0 152 yX0_tallyLetters ∈ jW0 := List.mem_filter.mpr ⟨List.mem_of_getElem? (i := 146) (by decide +kernel), by decide +kernel⟩
theorem klX0_149 : Cond.methodLink RX0 149 yX0_letterAt ∈ jW0 := List.mem_filter.mpr ⟨List.mem_of_getElem? (i := 150) (by decide +kernel), by decide +kernel⟩
theorem klL_113 : Cond.methodLink RL 113 yX0_spectrum ∈ jW0 := List.mem_filter.mpr ⟨List.mem_of_getElem? (i := 154) (by decide +kernel), by decide +kernel⟩
theorem klL_117 : Cond.methodLink RL 117 yX0_area ∈ jW0 := List.mem_filter.mpr ⟨List.mem_of_getElem? (i := 158) (by decide +kernel), by decide +kernel⟩
theorem klX0_156 : Cond.methodLink RX0 156 yX0_countCarried ∈ jW0 := List.mem_filter.mpr ⟨List.mem_of_getElem? (i := 162) (by decide +kernel), by decide +kernel⟩
theorem klL_121 : Cond.methodLink RL 121 yX0_simplify ∈ jW0 := List.mem_filter.mpr ⟨List.mem_of_getElem? (i := 166) (by decide +kernel), by decide +kernel⟩
theorem klX0_159 : Cond.methodLink RX0 159 yX0_findMattering ∈ jW0 := List.mem_filter.mpr ⟨List.mem_of_getElem? (i := 170) (by decide +kernel), by decide +kernel⟩
theorem klX0_183 : Cond.methodLink RX0 183 yX0_countLiveChildren ∈ jW0 := List.mem_filter.mpr ⟨List.mem_of_getElem? (i := 174) (by decide +kernel), by decide +kernel⟩
theorem klX0_162 : Cond.methodLink RX0 162 yX0_renumber ∈ jW0 := List.mem_filter.mpr ⟨List.mem_of_getElem? (i := 178) (by decide +kernel), by decide +kernel⟩
theorem klX0_165 : Cond.methodLink RX0 165 yX0_moveMutations ∈ jW0 := List.mem_filter.mpr ⟨List.mem_of_getElem? (i := 182) (by decide +kernel), by decide +kernel⟩
theorem klX0_186 : Cond.methodLink RX0 186 yX0_matters ∈ jW0 := List.mem_filter.mpr ⟨List.mem_of_getElem? (i := 186) (by decide +kernel), by decide +kernel⟩
theorem klX0_189 : Cond.methodLink RX0 189 yX0_mutationComingTo ∈ jW0 := List.mem_filter.mpr ⟨List.mem_of_getElem? (i := 190) (by decide +kernel), by decide +kernel⟩
theorem klX0_192 : Cond.methodLink RX0 192 arraycopyName ∈ jW0 := List.mem_filter.mpr ⟨List.mem_of_getElem? (i := 194) (by decide +kernel), by decide +kernel⟩
theorem klX0_168 : Cond.methodLink RX0 168 yX0_moveParents ∈ jW0 := List.mem_filter.mpr ⟨List.mem_of_getElem? (i := 197) (by decide +kernel), by decide +kernel⟩
theorem klX0_198 : Cond.methodLink RX0 198 yX0_nearestMatteringAbove ∈ jW0 := List.mem_filter.mpr ⟨List.mem_of_getElem? (i := 201) (by decide +kernel), by decide +kernel⟩
theorem klX0_171 : Cond.methodLink RX0 171 yX0_moveNodes ∈ jW0 := List.mem_filter.mpr ⟨List.mem_of_getElem? (i := 205) (by decide +kernel), by decide +kernel⟩
theorem klL_125 : Cond.methodLink RL 125 yX0_became ∈ jW0 := List.mem_filter.mpr ⟨List.mem_of_getElem? (i := 209) (by decide +kernel), by decide +kernel⟩
theorem klL_57 : Cond.methodLink RL 57 yL_node ∈ jW0 := List.mem_filter.mpr ⟨List.mem_of_getElem? (i := 213) (by decide +kernel), by decide +kernel⟩
theorem kcL_13 : Cond.classLink RL 13 "java/lang/IllegalArgumentException" ∈ jW0 := List.mem_filter.mpr ⟨List.mem_of_getElem? (i := 216) (by decide +kernel), by decide +kernel⟩
theorem kcL_15 : Cond.classLink RL 15 "java/lang/IllegalStateException" ∈ jW0 := List.mem_filter.mpr ⟨List.mem_of_getElem? (i := 217) (by decide +kernel), by decide +kernel⟩
theorem klL_7 : Cond.methodLink RL 7 yX0_node ∈ jW0 := List.mem_filter.mpr ⟨List.mem_of_getElem? (i := 218) (by decide +kernel), by decide +kernel⟩
theorem kcX0_57 : Cond.classLink RX0 57 "java/lang/IllegalArgumentException" ∈ jW0 := List.mem_filter.mpr ⟨List.mem_of_getElem? (i := 222) (by decide +kernel), by decide +kernel⟩
theorem kcX0_64 : Cond.classLink RX0 64 "java/lang/IllegalStateException" ∈ jW0 := List.mem_filter.mpr ⟨List.mem_of_getElem? (i := 290) (by decide +kernel), by decide +kernel⟩
theorem klL_67 : Cond.methodLink RL 67 yL_join ∈ jW0 := List.mem_filter.mpr ⟨List.mem_of_getElem? (i := 306) (by decide +kernel), by decide +kernel⟩
theorem kcL_21 : Cond.classLink RL 21 "java/lang/IndexOutOfBoundsException" ∈ jW0 := List.mem_filter.mpr ⟨List.mem_of_getElem? (i := 309) (by decide +kernel), by decide +kernel⟩
theorem klL_17 : Cond.methodLink RL 17 yX0_join ∈ jW0 := List.mem_filter.mpr ⟨List.mem_of_getElem? (i := 310) (by decide +kernel), by decide +kernel⟩
theorem klX0_69 : Cond.methodLink RX0 69 yX0_isRun ∈ jW0 := List.mem_filter.mpr ⟨List.mem_of_getElem? (i := 314) (by decide +kernel), by decide +kernel⟩
theorem klX0_73 : Cond.methodLink RX0 73 yX0_isNode ∈ jW0 := List.mem_filter.mpr ⟨List.mem_of_getElem? (i := 317) (by decide +kernel), by decide +kernel⟩
theorem kcX0_77 : Cond.classLink RX0 77 "java/lang/IndexOutOfBoundsException" ∈ jW0 := List.mem_filter.mpr ⟨List.mem_of_getElem? (i := 321) (by decide +kernel), by decide +kernel⟩
theorem klX0_84 : Cond.methodLink RX0 84 yX0_hasParentBeside ∈ jW0 := List.mem_filter.mpr ⟨List.mem_of_getElem? (i := 338) (by decide +kernel), by decide +kernel⟩
theorem klX0_90 : Cond.methodLink RX0 90 yX0_setParents ∈ jW0 := List.mem_filter.mpr ⟨List.mem_of_getElem? (i := 343) (by decide +kernel), by decide +kernel⟩
theorem klL_71 : Cond.methodLink RL 71 yL_part ∈ jW0 := List.mem_filter.mpr ⟨List.mem_of_getElem? (i := 347) (by decide +kernel), by decide +kernel⟩
theorem klL_23 : Cond.methodLink RL 23 yX0_part ∈ jW0 := List.mem_filter.mpr ⟨List.mem_of_getElem? (i := 350) (by decide +kernel), by decide +kernel⟩
theorem klL_75 : Cond.methodLink RL 75 yL_site ∈ jW0 := List.mem_filter.mpr ⟨List.mem_of_getElem? (i := 354) (by decide +kernel), by decide +kernel⟩
theorem klL_27 : Cond.methodLink RL 27 yX0_site ∈ jW0 := List.mem_filter.mpr ⟨List.mem_of_getElem? (i := 357) (by decide +kernel), by decide +kernel⟩
theorem klX0_94 : Cond.methodLink RX0 94 yX0_isPlace ∈ jW0 := List.mem_filter.mpr ⟨List.mem_of_getElem? (i := 361) (by decide +kernel), by decide +kernel⟩
theorem klX0_99 : Cond.methodLink RX0 99 yX0_hasSite ∈ jW0 := List.mem_filter.mpr ⟨List.mem_of_getElem? (i := 365) (by decide +kernel), by decide +kernel⟩
theorem klL_79 : Cond.methodLink RL 79 yL_mutate ∈ jW0 := List.mem_filter.mpr ⟨List.mem_of_getElem? (i := 371) (by decide +kernel), by decide +kernel⟩
theorem klL_31 : Cond.methodLink RL 31 yX0_mutate ∈ jW0 := List.mem_filter.mpr ⟨List.mem_of_getElem? (i := 374) (by decide +kernel), by decide +kernel⟩
theorem klX0_106 : Cond.methodLink RX0 106 yX0_isSite ∈ jW0 := List.mem_filter.mpr ⟨List.mem_of_getElem? (i := 378) (by decide +kernel), by decide +kernel⟩
theorem klL_86 : Cond.methodLink RL 86 yL_time ∈ jW0 := List.mem_filter.mpr ⟨List.mem_of_getElem? (i := 384) (by decide +kernel), by decide +kernel⟩
theorem klL_34 : Cond.methodLink RL 34 yX0_time ∈ jW0 := List.mem_filter.mpr ⟨List.mem_of_getElem? (i := 387) (by decide +kernel), by decide +kernel⟩
theorem klL_90 : Cond.methodLink RL 90 yL_edge ∈ jW0 := List.mem_filter.mpr ⟨List.mem_of_getElem? (i := 392) (by decide +kernel), by decide +kernel⟩
theorem klL_38 : Cond.methodLink RL 38 yX0_edge ∈ jW0 := List.mem_filter.mpr ⟨List.mem_of_getElem? (i := 395) (by decide +kernel), by decide +kernel⟩
theorem klX0_125 : Cond.methodLink RX0 125 yX0_findEdge ∈ jW0 := List.mem_filter.mpr ⟨List.mem_of_getElem? (i := 399) (by decide +kernel), by decide +kernel⟩
theorem klX0_177 : Cond.methodLink RX0 177 yX0_nextByTime ∈ jW0 := List.mem_filter.mpr ⟨List.mem_of_getElem? (i := 403) (by decide +kernel), by decide +kernel⟩
theorem klX0_180 : Cond.methodLink RX0 180 yX0_isEarlier ∈ jW0 := List.mem_filter.mpr ⟨List.mem_of_getElem? (i := 407) (by decide +kernel), by decide +kernel⟩
theorem klX0_131 : Cond.methodLink RX0 131 yX0_edgeEnd ∈ jW0 := List.mem_filter.mpr ⟨List.mem_of_getElem? (i := 412) (by decide +kernel), by decide +kernel⟩
theorem klL_93 : Cond.methodLink RL 93 yL_parent ∈ jW0 := List.mem_filter.mpr ⟨List.mem_of_getElem? (i := 416) (by decide +kernel), by decide +kernel⟩
theorem klL_41 : Cond.methodLink RL 41 yX0_parent ∈ jW0 := List.mem_filter.mpr ⟨List.mem_of_getElem? (i := 419) (by decide +kernel), by decide +kernel⟩
theorem klL_96 : Cond.methodLink RL 96 yL_meet ∈ jW0 := List.mem_filter.mpr ⟨List.mem_of_getElem? (i := 424) (by decide +kernel), by decide +kernel⟩
theorem klL_44 : Cond.methodLink RL 44 yX0_meet ∈ jW0 := List.mem_filter.mpr ⟨List.mem_of_getElem? (i := 427) (by decide +kernel), by decide +kernel⟩
theorem klX0_140 : Cond.methodLink RX0 140 yX0_isAtOrAbove ∈ jW0 := List.mem_filter.mpr ⟨List.mem_of_getElem? (i := 431) (by decide +kernel), by decide +kernel⟩
theorem klL_103 : Cond.methodLink RL 103 yL_cut ∈ jW0 := List.mem_filter.mpr ⟨List.mem_of_getElem? (i := 435) (by decide +kernel), by decide +kernel⟩
theorem klL_47 : Cond.methodLink RL 47 yX0_cut ∈ jW0 := List.mem_filter.mpr ⟨List.mem_of_getElem? (i := 438) (by decide +kernel), by decide +kernel⟩
theorem klL_106 : Cond.methodLink RL 106 yL_letter ∈ jW0 := List.mem_filter.mpr ⟨List.mem_of_getElem? (i := 443) (by decide +kernel), by decide +kernel⟩
theorem klL_50 : Cond.methodLink RL 50 yX0_letter ∈ jW0 := List.mem_filter.mpr ⟨List.mem_of_getElem? (i := 446) (by decide +kernel), by decide +kernel⟩
theorem kcL_54 : Cond.classLink RL 54 RX1 ∈ jW0 := List.mem_filter.mpr ⟨List.mem_of_getElem? (i := 450) (by decide +kernel), by decide +kernel⟩
theorem klL_56 : Cond.methodLink RL 56 yX1_init ∈ jW0 := List.mem_filter.mpr ⟨List.mem_of_getElem? (i := 452) (by decide +kernel), by decide +kernel⟩
theorem klX1_1 : Cond.methodLink RX1 1 objectInit ∈ jW0 := List.mem_filter.mpr ⟨List.mem_of_getElem? (i := 455) (by decide +kernel), by decide +kernel⟩
theorem kfX1_38 : Cond.fieldLink RX1 38 "LineageTablesModel" "fault" "I" ∈ jW0 := List.mem_filter.mpr ⟨List.mem_of_getElem? (i := 456) (by decide +kernel), by decide +kernel⟩
theorem kfX1_42 : Cond.fieldLink RX1 42 "LineageTablesModel" "nodes" "I" ∈ jW0 := List.mem_filter.mpr ⟨List.mem_of_getElem? (i := 457) (by decide +kernel), by decide +kernel⟩
theorem kfX1_7 : Cond.fieldLink RX1 7 "LineageTablesModel" "time" "[I" ∈ jW0 := List.mem_filter.mpr ⟨List.mem_of_getElem? (i := 458) (by decide +kernel), by decide +kernel⟩
theorem kfX1_13 : Cond.fieldLink RX1 13 "LineageTablesModel" "sample" "[Z" ∈ jW0 := List.mem_filter.mpr ⟨List.mem_of_getElem? (i := 459) (by decide +kernel), by decide +kernel⟩
theorem kfX1_17 : Cond.fieldLink RX1 17 "LineageTablesModel" "parent" "[I" ∈ jW0 := List.mem_filter.mpr ⟨List.mem_of_getElem? (i := 460) (by decide +kernel), by decide +kernel⟩
theorem kfX1_45 : Cond.fieldLink RX1 45 "LineageTablesModel" "sites" "I" ∈ jW0 := List.mem_filter.mpr ⟨List.mem_of_getElem? (i := 461) (by decide +kernel), by decide +kernel⟩
theorem kfX1_20 : Cond.fieldLink RX1 20 "LineageTablesModel" "placeOf" "[I" ∈ jW0 := List.mem_filter.mpr ⟨List.mem_of_getElem? (i := 462) (by decide +kernel), by decide +kernel⟩
theorem kfX1_23 : Cond.fieldLink RX1 23 "LineageTablesModel" "ancestral" "[I" ∈ jW0 := List.mem_filter.mpr ⟨List.mem_of_getElem? (i := 463) (by decide +kernel), by decide +kernel⟩
theorem kfX1_26 : Cond.fieldLink RX1 26 "LineageTablesModel" "mutation" "[I" ∈ jW0 := List.mem_filter.mpr ⟨List.mem_of_getElem? (i := 464) (by decide +kernel), by decide +kernel⟩
theorem kfX1_29 : Cond.fieldLink RX1 29 "LineageTablesModel" "became" "[I" ∈ jW0 := List.mem_filter.mpr ⟨List.mem_of_getElem? (i := 465) (by decide +kernel), by decide +kernel⟩
theorem kfX1_32 : Cond.fieldLink RX1 32 "LineageTablesModel" "nextParent" "[I" ∈ jW0 := List.mem_filter.mpr ⟨List.mem_of_getElem? (i := 466) (by decide +kernel), by decide +kernel⟩
theorem kfX1_35 : Cond.fieldLink RX1 35 "LineageTablesModel" "nextMutation" "[I" ∈ jW0 := List.mem_filter.mpr ⟨List.mem_of_getElem? (i := 467) (by decide +kernel), by decide +kernel⟩
theorem kfX1_85 : Cond.fieldLink RX1 85 "LineageTablesModel" "foundLeft" "I" ∈ jW0 := List.mem_filter.mpr ⟨List.mem_of_getElem? (i := 468) (by decide +kernel), by decide +kernel⟩
theorem kfX1_102 : Cond.fieldLink RX1 102 "LineageTablesModel" "foundRight" "I" ∈ jW0 := List.mem_filter.mpr ⟨List.mem_of_getElem? (i := 469) (by decide +kernel), by decide +kernel⟩
theorem kfX1_88 : Cond.fieldLink RX1 88 "LineageTablesModel" "foundParent" "I" ∈ jW0 := List.mem_filter.mpr ⟨List.mem_of_getElem? (i := 470) (by decide +kernel), by decide +kernel⟩
theorem kfX1_91 : Cond.fieldLink RX1 91 "LineageTablesModel" "foundChild" "I" ∈ jW0 := List.mem_filter.mpr ⟨List.mem_of_getElem? (i := 471) (by decide +kernel), by decide +kernel⟩
theorem klL_63 : Cond.methodLink RL 63 yX1_thrown ∈ jW0 := List.mem_filter.mpr ⟨List.mem_of_getElem? (i := 505) (by decide +kernel), by decide +kernel⟩
theorem klL_62 : Cond.methodLink RL 62 yX1_node ∈ jW0 := List.mem_filter.mpr ⟨List.mem_of_getElem? (i := 509) (by decide +kernel), by decide +kernel⟩
theorem klX1_63 : Cond.methodLink RX1 63 yX1_refused ∈ jW0 := List.mem_filter.mpr ⟨List.mem_of_getElem? (i := 513) (by decide +kernel), by decide +kernel⟩
theorem klL_70 : Cond.methodLink RL 70 yX1_join ∈ jW0 := List.mem_filter.mpr ⟨List.mem_of_getElem? (i := 517) (by decide +kernel), by decide +kernel⟩
theorem klX1_67 : Cond.methodLink RX1 67 yX1_isRun ∈ jW0 := List.mem_filter.mpr ⟨List.mem_of_getElem? (i := 521) (by decide +kernel), by decide +kernel⟩
theorem klX1_70 : Cond.methodLink RX1 70 yX1_isNode ∈ jW0 := List.mem_filter.mpr ⟨List.mem_of_getElem? (i := 524) (by decide +kernel), by decide +kernel⟩
theorem klX1_48 : Cond.methodLink RX1 48 yX1_up ∈ jW0 := List.mem_filter.mpr ⟨List.mem_of_getElem? (i := 528) (by decide +kernel), by decide +kernel⟩
theorem klL_74 : Cond.methodLink RL 74 yX1_part ∈ jW0 := List.mem_filter.mpr ⟨List.mem_of_getElem? (i := 532) (by decide +kernel), by decide +kernel⟩
theorem klL_78 : Cond.methodLink RL 78 yX1_site ∈ jW0 := List.mem_filter.mpr ⟨List.mem_of_getElem? (i := 536) (by decide +kernel), by decide +kernel⟩
theorem klX1_73 : Cond.methodLink RX1 73 yX1_isPlace ∈ jW0 := List.mem_filter.mpr ⟨List.mem_of_getElem? (i := 540) (by decide +kernel), by decide +kernel⟩
theorem klX1_76 : Cond.methodLink RX1 76 yX1_isTaken ∈ jW0 := List.mem_filter.mpr ⟨List.mem_of_getElem? (i := 543) (by decide +kernel), by decide +kernel⟩
theorem klL_81 : Cond.methodLink RL 81 yX1_mutate ∈ jW0 := List.mem_filter.mpr ⟨List.mem_of_getElem? (i := 547) (by decide +kernel), by decide +kernel⟩
theorem klX1_79 : Cond.methodLink RX1 79 yX1_isSite ∈ jW0 := List.mem_filter.mpr ⟨List.mem_of_getElem? (i := 551) (by decide +kernel), by decide +kernel⟩
theorem klL_85 : Cond.methodLink RL 85 yX1_count ∈ jW0 := List.mem_filter.mpr ⟨List.mem_of_getElem? (i := 555) (by decide +kernel), by decide +kernel⟩
theorem klX1_94 : Cond.methodLink RX1 94 yX1_samples ∈ jW0 := List.mem_filter.mpr ⟨List.mem_of_getElem? (i := 559) (by decide +kernel), by decide +kernel⟩
theorem klX1_98 : Cond.methodLink RX1 98 yX1_find ∈ jW0 := List.mem_filter.mpr ⟨List.mem_of_getElem? (i := 563) (by decide +kernel), by decide +kernel⟩
theorem klX1_82 : Cond.methodLink RX1 82 yX1_begins ∈ jW0 := List.mem_filter.mpr ⟨List.mem_of_getElem? (i := 567) (by decide +kernel), by decide +kernel⟩
theorem klL_89 : Cond.methodLink RL 89 yX1_time ∈ jW0 := List.mem_filter.mpr ⟨List.mem_of_getElem? (i := 571) (by decide +kernel), by decide +kernel⟩
theorem klL_92 : Cond.methodLink RL 92 yX1_edge ∈ jW0 := List.mem_filter.mpr ⟨List.mem_of_getElem? (i := 575) (by decide +kernel), by decide +kernel⟩
theorem klL_95 : Cond.methodLink RL 95 yX1_parent ∈ jW0 := List.mem_filter.mpr ⟨List.mem_of_getElem? (i := 579) (by decide +kernel), by decide +kernel⟩
theorem klL_98 : Cond.methodLink RL 98 yX1_meet ∈ jW0 := List.mem_filter.mpr ⟨List.mem_of_getElem? (i := 583) (by decide +kernel), by decide +kernel⟩
theorem klX1_52 : Cond.methodLink RX1 52 yX1_holds ∈ jW0 := List.mem_filter.mpr ⟨List.mem_of_getElem? (i := 587) (by decide +kernel), by decide +kernel⟩
theorem klL_102 : Cond.methodLink RL 102 yX1_trees ∈ jW0 := List.mem_filter.mpr ⟨List.mem_of_getElem? (i := 591) (by decide +kernel), by decide +kernel⟩
theorem klX1_105 : Cond.methodLink RX1 105 yX1_differs ∈ jW0 := List.mem_filter.mpr ⟨List.mem_of_getElem? (i := 595) (by decide +kernel), by decide +kernel⟩
theorem klL_105 : Cond.methodLink RL 105 yX1_cut ∈ jW0 := List.mem_filter.mpr ⟨List.mem_of_getElem? (i := 599) (by decide +kernel), by decide +kernel⟩
theorem klX1_108 : Cond.methodLink RX1 108 yX1_trees ∈ jW0 := List.mem_filter.mpr ⟨List.mem_of_getElem? (i := 603) (by decide +kernel), by decide +kernel⟩
theorem klL_108 : Cond.methodLink RL 108 yX1_letter ∈ jW0 := List.mem_filter.mpr ⟨List.mem_of_getElem? (i := 604) (by decide +kernel), by decide +kernel⟩
theorem klX1_111 : Cond.methodLink RX1 111 yX1_letterAt ∈ jW0 := List.mem_filter.mpr ⟨List.mem_of_getElem? (i := 608) (by decide +kernel), by decide +kernel⟩
theorem klL_112 : Cond.methodLink RL 112 yX1_differing ∈ jW0 := List.mem_filter.mpr ⟨List.mem_of_getElem? (i := 612) (by decide +kernel), by decide +kernel⟩
theorem klL_116 : Cond.methodLink RL 116 yX1_spectrum ∈ jW0 := List.mem_filter.mpr ⟨List.mem_of_getElem? (i := 616) (by decide +kernel), by decide +kernel⟩
theorem klL_120 : Cond.methodLink RL 120 yX1_area ∈ jW0 := List.mem_filter.mpr ⟨List.mem_of_getElem? (i := 620) (by decide +kernel), by decide +kernel⟩
theorem klX1_56 : Cond.methodLink RX1 56 yX1_under ∈ jW0 := List.mem_filter.mpr ⟨List.mem_of_getElem? (i := 624) (by decide +kernel), by decide +kernel⟩
theorem klL_124 : Cond.methodLink RL 124 yX1_simplify ∈ jW0 := List.mem_filter.mpr ⟨List.mem_of_getElem? (i := 628) (by decide +kernel), by decide +kernel⟩
theorem klX1_117 : Cond.methodLink RX1 117 yX1_stays ∈ jW0 := List.mem_filter.mpr ⟨List.mem_of_getElem? (i := 632) (by decide +kernel), by decide +kernel⟩
theorem klX1_59 : Cond.methodLink RX1 59 yX1_isFork ∈ jW0 := List.mem_filter.mpr ⟨List.mem_of_getElem? (i := 636) (by decide +kernel), by decide +kernel⟩
theorem klX1_114 : Cond.methodLink RX1 114 yX1_matters ∈ jW0 := List.mem_filter.mpr ⟨List.mem_of_getElem? (i := 640) (by decide +kernel), by decide +kernel⟩
theorem klX1_120 : Cond.methodLink RX1 120 yX1_nearest ∈ jW0 := List.mem_filter.mpr ⟨List.mem_of_getElem? (i := 644) (by decide +kernel), by decide +kernel⟩
theorem klX1_123 : Cond.methodLink RX1 123 yX1_comes ∈ jW0 := List.mem_filter.mpr ⟨List.mem_of_getElem? (i := 648) (by decide +kernel), by decide +kernel⟩
theorem klL_128 : Cond.methodLink RL 128 yX1_became ∈ jW0 := List.mem_filter.mpr ⟨List.mem_of_getElem? (i := 652) (by decide +kernel), by decide +kernel⟩
theorem kobj_i : Cond.instanceMethod objectInit ∈ jW0 := List.mem_filter.mpr ⟨List.mem_of_getElem? (i := 63) (by decide +kernel), by decide +kernel⟩
theorem karr_I : Cond.arrayClass .int ∈ jW0 := List.mem_filter.mpr ⟨List.mem_of_getElem? (i := 108) (by decide +kernel), by decide +kernel⟩
theorem karr_Z : Cond.arrayClass .boolean ∈ jW0 := List.mem_filter.mpr ⟨List.mem_of_getElem? (i := 109) (by decide +kernel), by decide +kernel⟩
theorem karr_J : Cond.arrayClass .long ∈ jW0 := List.mem_filter.mpr ⟨List.mem_of_getElem? (i := 656) (by decide +kernel), by decide +kernel⟩
theorem kmk_X0 : Cond.instantiable RX0 13 ∈ jW0 := List.mem_filter.mpr ⟨List.mem_of_getElem? (i := 58) (by decide +kernel), by decide +kernel⟩
theorem ku_X0 : ∀ w ∈ u_ws RX0 TX0 13, w ∈ jW0 := by decide +kernel
theorem kmk_X1 : Cond.instantiable RX1 16 ∈ jW0 := List.mem_filter.mpr ⟨List.mem_of_getElem? (i := 451) (by decide +kernel), by decide +kernel⟩
theorem ku_X1 : ∀ w ∈ u_ws RX1 TX1 16, w ∈ jW0 := by decide +kernel
theorem karc_n : Cond.native arraycopyName ∈ jW0 := List.mem_filter.mpr ⟨List.mem_of_getElem? (i := 196) (by decide +kernel), by decide +kernel⟩
theorem karc_s : Cond.static arraycopyName ∈ jW0 := List.mem_filter.mpr ⟨List.mem_of_getElem? (i := 195) (by decide +kernel), by decide +kernel⟩
theorem kini_IAE : Cond.initialized "java/lang/IllegalArgumentException" ∈ jW0 := List.mem_filter.mpr ⟨List.mem_of_getElem? (i := 53) (by decide +kernel), by decide +kernel⟩
theorem kini_ISE : Cond.initialized "java/lang/IllegalStateException" ∈ jW0 := List.mem_filter.mpr ⟨List.mem_of_getElem? (i := 54) (by decide +kernel), by decide +kernel⟩
theorem kini_IOB : Cond.initialized "java/lang/IndexOutOfBoundsException" ∈ jW0 := List.mem_filter.mpr ⟨List.mem_of_getElem? (i := 55) (by decide +kernel), by decide +kernel⟩
theorem gL_X0_init (c0 : Cond) : GoodIn (c0 :: jW0) wsX0_init := jGI kX0_init_c
theorem gX0_J7_fill (c0 : Cond) : GoodIn (c0 :: jW0) (va_wsS RX0 51 yJ7_fill wsJ7_fill) := jGS klX0_51 kJ7_fill_s kini_J7 kJ7_fill_c
theorem gL_X0_count (c0 : Cond) : GoodIn (c0 :: jW0) (wsV RL 82 RX0 yX0_count wsX0_count) := jGV klL_82 kX0_count_i kX0_count_v kini_X0 kX0_count_c
theorem gX0_X0_countSamples (c0 : Cond) : GoodIn (c0 :: jW0) (wsV RX0 113 RX0 yX0_countSamples wsX0_countSamples) := jGV klX0_113 kX0_countSamples_i kX0_countSamples_v kini_X0 kX0_countSamples_c
theorem gX0_X0_countEdges (c0 : Cond) : GoodIn (c0 :: jW0) (wsV RX0 117 RX0 yX0_countEdges wsX0_countEdges) := jGV klX0_117 kX0_countEdges_i kX0_countEdges_v kini_X0 kX0_countEdges_c
theorem gX0_X0_startsEdge (c0 : Cond) : GoodIn (c0 :: jW0) (wsV RX0 174 RX0 yX0_startsEdge wsX0_startsEdge) := jGV klX0_174 kX0_startsEdge_i kX0_startsEdge_v kini_X0 kX0_startsEdge_c
theorem gX0_X0_parentAt (c0 : Cond) : GoodIn (c0 :: jW0) (wsV RX0 135 RX0 yX0_parentAt wsX0_parentAt) := jGV klX0_135 kX0_parentAt_i kX0_parentAt_v kini_X0 kX0_parentAt_c
theorem gX0_X0_countMutations (c0 : Cond) : GoodIn (c0 :: jW0) (wsV RX0 120 RX0 yX0_countMutations wsX0_countMutations) := jGV klX0_120 kX0_countMutations_i kX0_countMutations_v kini_X0 kX0_countMutations_c
theorem gL_X0_trees (c0 : Cond) : GoodIn (c0 :: jW0) (wsV RL 99 RX0 yX0_trees wsX0_trees) := jGV klL_99 kX0_trees_i kX0_trees_v kini_X0 kX0_trees_c
theorem gX0_X0_startsRun (c0 : Cond) : GoodIn (c0 :: jW0) (wsV RX0 144 RX0 yX0_startsRun wsX0_startsRun) := jGV klX0_144 kX0_startsRun_i kX0_startsRun_v kini_X0 kX0_startsRun_c
theorem gL_X0_differing (c0 : Cond) : GoodIn (c0 :: jW0) (wsV RL 109 RX0 yX0_differing wsX0_differing) := jGV klL_109 kX0_differing_i kX0_differing_v kini_X0 kX0_differing_c
theorem gX0_X0_tallyLetters (c0 : Cond) : GoodIn (c0 :: jW0) (wsV RX0 152 RX0 yX0_tallyLetters wsX0_tallyLetters) := jGV klX0_152 kX0_tallyLetters_i kX0_tallyLetters_v kini_X0 kX0_tallyLetters_c
theorem gX0_X0_letterAt (c0 : Cond) : GoodIn (c0 :: jW0) (wsV RX0 149 RX0 yX0_letterAt wsX0_letterAt) := jGV klX0_149 kX0_letterAt_i kX0_letterAt_v kini_X0 kX0_letterAt_c
theorem gL_X0_spectrum (c0 : Cond) : GoodIn (c0 :: jW0) (wsV RL 113 RX0 yX0_spectrum wsX0_spectrum) := jGV klL_113 kX0_spectrum_i kX0_spectrum_v kini_X0 kX0_spectrum_c
theorem gL_X0_area (c0 : Cond) : GoodIn (c0 :: jW0) (wsV RL 117 RX0 yX0_area wsX0_area) := jGV klL_117 kX0_area_i kX0_area_v kini_X0 kX0_area_c
theorem gX0_X0_countCarried (c0 : Cond) : GoodIn (c0 :: jW0) (wsV RX0 156 RX0 yX0_countCarried wsX0_countCarried) := jGV klX0_156 kX0_countCarried_i kX0_countCarried_v kini_X0 kX0_countCarried_c
theorem gL_X0_simplify (c0 : Cond) : GoodIn (c0 :: jW0) (wsV RL 121 RX0 yX0_simplify wsX0_simplify) := jGV klL_121 kX0_simplify_i kX0_simplify_v kini_X0 kX0_simplify_c
theorem gX0_X0_findMattering (c0 : Cond) : GoodIn (c0 :: jW0) (wsV RX0 159 RX0 yX0_findMattering wsX0_findMattering) := jGV klX0_159 kX0_findMattering_i kX0_findMattering_v kini_X0 kX0_findMattering_c
theorem gX0_X0_countLiveChildren (c0 : Cond) : GoodIn (c0 :: jW0) (wsV RX0 183 RX0 yX0_countLiveChildren wsX0_countLiveChildren) := jGV klX0_183 kX0_countLiveChildren_i kX0_countLiveChildren_v kini_X0 kX0_countLiveChildren_c
theorem gX0_X0_renumber (c0 : Cond) : GoodIn (c0 :: jW0) (wsV RX0 162 RX0 yX0_renumber wsX0_renumber) := jGV klX0_162 kX0_renumber_i kX0_renumber_v kini_X0 kX0_renumber_c
theorem gX0_X0_moveMutations (c0 : Cond) : GoodIn (c0 :: jW0) (wsV RX0 165 RX0 yX0_moveMutations wsX0_moveMutations) := jGV klX0_165 kX0_moveMutations_i kX0_moveMutations_v kini_X0 kX0_moveMutations_c
theorem gX0_X0_matters (c0 : Cond) : GoodIn (c0 :: jW0) (wsV RX0 186 RX0 yX0_matters wsX0_matters) := jGV klX0_186 kX0_matters_i kX0_matters_v kini_X0 kX0_matters_c
theorem gX0_X0_mutationComingTo (c0 : Cond) : GoodIn (c0 :: jW0) (wsV RX0 189 RX0 yX0_mutationComingTo wsX0_mutationComingTo) := jGV klX0_189 kX0_mutationComingTo_i kX0_mutationComingTo_v kini_X0 kX0_mutationComingTo_c
theorem gX0_X0_moveParents (c0 : Cond) : GoodIn (c0 :: jW0) (wsV RX0 168 RX0 yX0_moveParents wsX0_moveParents) := jGV klX0_168 kX0_moveParents_i kX0_moveParents_v kini_X0 kX0_moveParents_c
theorem gX0_X0_nearestMatteringAbove (c0 : Cond) : GoodIn (c0 :: jW0) (wsV RX0 198 RX0 yX0_nearestMatteringAbove wsX0_nearestMatteringAbove) := jGV klX0_198 kX0_nearestMatteringAbove_i kX0_nearestMatteringAbove_v kini_X0 kX0_nearestMatteringAbove_c
theorem gX0_X0_moveNodes (c0 : Cond) : GoodIn (c0 :: jW0) (wsV RX0 171 RX0 yX0_moveNodes wsX0_moveNodes) := jGV klX0_171 kX0_moveNodes_i kX0_moveNodes_v kini_X0 kX0_moveNodes_c
theorem gL_X0_became (c0 : Cond) : GoodIn (c0 :: jW0) (wsV RL 125 RX0 yX0_became wsX0_became) := jGV klL_125 kX0_became_i kX0_became_v kini_X0 kX0_became_c
theorem gL_L_node (c0 : Cond) : GoodIn (c0 :: jW0) (va_wsS RL 57 yL_node wsL_node) := jGW klL_57 kL_node_s kini_L kL_node_c
theorem gL_X0_node (c0 : Cond) : GoodIn (c0 :: jW0) (wsV RL 7 RX0 yX0_node wsX0_node) := jGV klL_7 kX0_node_i kX0_node_v kini_X0 kX0_node_c
theorem gL_L_join (c0 : Cond) : GoodIn (c0 :: jW0) (va_wsS RL 67 yL_join wsL_join) := jGW klL_67 kL_join_s kini_L kL_join_c
theorem gL_X0_join (c0 : Cond) : GoodIn (c0 :: jW0) (wsV RL 17 RX0 yX0_join wsX0_join) := jGV klL_17 kX0_join_i kX0_join_v kini_X0 kX0_join_c
theorem gX0_X0_isRun (c0 : Cond) : GoodIn (c0 :: jW0) (va_wsS RX0 69 yX0_isRun wsX0_isRun) := jGS klX0_69 kX0_isRun_s kini_X0 kX0_isRun_c
theorem gX0_X0_isNode (c0 : Cond) : GoodIn (c0 :: jW0) (wsV RX0 73 RX0 yX0_isNode wsX0_isNode) := jGV klX0_73 kX0_isNode_i kX0_isNode_v kini_X0 kX0_isNode_c
theorem gX0_X0_hasParentBeside (c0 : Cond) : GoodIn (c0 :: jW0) (wsV RX0 84 RX0 yX0_hasParentBeside wsX0_hasParentBeside) := jGV klX0_84 kX0_hasParentBeside_i kX0_hasParentBeside_v kini_X0 kX0_hasParentBeside_c
theorem gX0_X0_setParents (c0 : Cond) : GoodIn (c0 :: jW0) (wsV RX0 90 RX0 yX0_setParents wsX0_setParents) := jGV klX0_90 kX0_setParents_i kX0_setParents_v kini_X0 kX0_setParents_c
theorem gL_L_part (c0 : Cond) : GoodIn (c0 :: jW0) (va_wsS RL 71 yL_part wsL_part) := jGW klL_71 kL_part_s kini_L kL_part_c
theorem gL_X0_part (c0 : Cond) : GoodIn (c0 :: jW0) (wsV RL 23 RX0 yX0_part wsX0_part) := jGV klL_23 kX0_part_i kX0_part_v kini_X0 kX0_part_c
theorem gL_L_site (c0 : Cond) : GoodIn (c0 :: jW0) (va_wsS RL 75 yL_site wsL_site) := jGW klL_75 kL_site_s kini_L kL_site_c
theorem gL_X0_site (c0 : Cond) : GoodIn (c0 :: jW0) (wsV RL 27 RX0 yX0_site wsX0_site) := jGV klL_27 kX0_site_i kX0_site_v kini_X0 kX0_site_c
theorem gX0_X0_isPlace (c0 : Cond) : GoodIn (c0 :: jW0) (va_wsS RX0 94 yX0_isPlace wsX0_isPlace) := jGS klX0_94 kX0_isPlace_s kini_X0 kX0_isPlace_c
theorem gX0_X0_hasSite (c0 : Cond) : GoodIn (c0 :: jW0) (wsV RX0 99 RX0 yX0_hasSite wsX0_hasSite) := jGV klX0_99 kX0_hasSite_i kX0_hasSite_v kini_X0 kX0_hasSite_c
theorem gL_L_mutate (c0 : Cond) : GoodIn (c0 :: jW0) (va_wsS RL 79 yL_mutate wsL_mutate) := jGW klL_79 kL_mutate_s kini_L kL_mutate_c
theorem gL_X0_mutate (c0 : Cond) : GoodIn (c0 :: jW0) (wsV RL 31 RX0 yX0_mutate wsX0_mutate) := jGV klL_31 kX0_mutate_i kX0_mutate_v kini_X0 kX0_mutate_c
theorem gX0_X0_isSite (c0 : Cond) : GoodIn (c0 :: jW0) (wsV RX0 106 RX0 yX0_isSite wsX0_isSite) := jGV klX0_106 kX0_isSite_i kX0_isSite_v kini_X0 kX0_isSite_c
theorem gL_L_time (c0 : Cond) : GoodIn (c0 :: jW0) (va_wsS RL 86 yL_time wsL_time) := jGW klL_86 kL_time_s kini_L kL_time_c
theorem gL_X0_time (c0 : Cond) : GoodIn (c0 :: jW0) (wsV RL 34 RX0 yX0_time wsX0_time) := jGV klL_34 kX0_time_i kX0_time_v kini_X0 kX0_time_c
theorem gL_L_edge (c0 : Cond) : GoodIn (c0 :: jW0) (va_wsS RL 90 yL_edge wsL_edge) := jGW klL_90 kL_edge_s kini_L kL_edge_c
theorem gL_X0_edge (c0 : Cond) : GoodIn (c0 :: jW0) (wsV RL 38 RX0 yX0_edge wsX0_edge) := jGV klL_38 kX0_edge_i kX0_edge_v kini_X0 kX0_edge_c
theorem gX0_X0_findEdge (c0 : Cond) : GoodIn (c0 :: jW0) (wsV RX0 125 RX0 yX0_findEdge wsX0_findEdge) := jGV klX0_125 kX0_findEdge_i kX0_findEdge_v kini_X0 kX0_findEdge_c
theorem gX0_X0_nextByTime (c0 : Cond) : GoodIn (c0 :: jW0) (wsV RX0 177 RX0 yX0_nextByTime wsX0_nextByTime) := jGV klX0_177 kX0_nextByTime_i kX0_nextByTime_v kini_X0 kX0_nextByTime_c
theorem gX0_X0_isEarlier (c0 : Cond) : GoodIn (c0 :: jW0) (wsV RX0 180 RX0 yX0_isEarlier wsX0_isEarlier) := jGV klX0_180 kX0_isEarlier_i kX0_isEarlier_v kini_X0 kX0_isEarlier_c
theorem gX0_X0_edgeEnd (c0 : Cond) : GoodIn (c0 :: jW0) (wsV RX0 131 RX0 yX0_edgeEnd wsX0_edgeEnd) := jGV klX0_131 kX0_edgeEnd_i kX0_edgeEnd_v kini_X0 kX0_edgeEnd_c
theorem gL_L_parent (c0 : Cond) : GoodIn (c0 :: jW0) (va_wsS RL 93 yL_parent wsL_parent) := jGW klL_93 kL_parent_s kini_L kL_parent_c
theorem gL_X0_parent (c0 : Cond) : GoodIn (c0 :: jW0) (wsV RL 41 RX0 yX0_parent wsX0_parent) := jGV klL_41 kX0_parent_i kX0_parent_v kini_X0 kX0_parent_c
theorem gL_L_meet (c0 : Cond) : GoodIn (c0 :: jW0) (va_wsS RL 96 yL_meet wsL_meet) := jGW klL_96 kL_meet_s kini_L kL_meet_c
theorem gL_X0_meet (c0 : Cond) : GoodIn (c0 :: jW0) (wsV RL 44 RX0 yX0_meet wsX0_meet) := jGV klL_44 kX0_meet_i kX0_meet_v kini_X0 kX0_meet_c
theorem gX0_X0_isAtOrAbove (c0 : Cond) : GoodIn (c0 :: jW0) (wsV RX0 140 RX0 yX0_isAtOrAbove wsX0_isAtOrAbove) := jGV klX0_140 kX0_isAtOrAbove_i kX0_isAtOrAbove_v kini_X0 kX0_isAtOrAbove_c
theorem gL_L_cut (c0 : Cond) : GoodIn (c0 :: jW0) (va_wsS RL 103 yL_cut wsL_cut) := jGW klL_103 kL_cut_s kini_L kL_cut_c
theorem gL_X0_cut (c0 : Cond) : GoodIn (c0 :: jW0) (wsV RL 47 RX0 yX0_cut wsX0_cut) := jGV klL_47 kX0_cut_i kX0_cut_v kini_X0 kX0_cut_c
theorem gL_L_letter (c0 : Cond) : GoodIn (c0 :: jW0) (va_wsS RL 106 yL_letter wsL_letter) := jGW klL_106 kL_letter_s kini_L kL_letter_c
theorem gL_X0_letter (c0 : Cond) : GoodIn (c0 :: jW0) (wsV RL 50 RX0 yX0_letter wsX0_letter) := jGV klL_50 kX0_letter_i kX0_letter_v kini_X0 kX0_letter_c
theorem gL_X1_init (c0 : Cond) : GoodIn (c0 :: jW0) wsX1_init := jGI kX1_init_c
theorem gL_X1_thrown (c0 : Cond) : GoodIn (c0 :: jW0) (wsV RL 63 RX1 yX1_thrown wsX1_thrown) := jGV klL_63 kX1_thrown_i kX1_thrown_v kini_X1 kX1_thrown_c
theorem gL_X1_node (c0 : Cond) : GoodIn (c0 :: jW0) (wsV RL 62 RX1 yX1_node wsX1_node) := jGV klL_62 kX1_node_i kX1_node_v kini_X1 kX1_node_c
theorem gX1_X1_refused (c0 : Cond) : GoodIn (c0 :: jW0) (wsV RX1 63 RX1 yX1_refused wsX1_refused) := jGV klX1_63 kX1_refused_i kX1_refused_v kini_X1 kX1_refused_c
theorem gL_X1_join (c0 : Cond) : GoodIn (c0 :: jW0) (wsV RL 70 RX1 yX1_join wsX1_join) := jGV klL_70 kX1_join_i kX1_join_v kini_X1 kX1_join_c
theorem gX1_X1_isRun (c0 : Cond) : GoodIn (c0 :: jW0) (va_wsS RX1 67 yX1_isRun wsX1_isRun) := jGS klX1_67 kX1_isRun_s kini_X1 kX1_isRun_c
theorem gX1_X1_isNode (c0 : Cond) : GoodIn (c0 :: jW0) (wsV RX1 70 RX1 yX1_isNode wsX1_isNode) := jGV klX1_70 kX1_isNode_i kX1_isNode_v kini_X1 kX1_isNode_c
theorem gX1_X1_up (c0 : Cond) : GoodIn (c0 :: jW0) (wsV RX1 48 RX1 yX1_up wsX1_up) := jGV klX1_48 kX1_up_i kX1_up_v kini_X1 kX1_up_c
theorem gL_X1_part (c0 : Cond) : GoodIn (c0 :: jW0) (wsV RL 74 RX1 yX1_part wsX1_part) := jGV klL_74 kX1_part_i kX1_part_v kini_X1 kX1_part_c
theorem gL_X1_site (c0 : Cond) : GoodIn (c0 :: jW0) (wsV RL 78 RX1 yX1_site wsX1_site) := jGV klL_78 kX1_site_i kX1_site_v kini_X1 kX1_site_c
theorem gX1_X1_isPlace (c0 : Cond) : GoodIn (c0 :: jW0) (va_wsS RX1 73 yX1_isPlace wsX1_isPlace) := jGS klX1_73 kX1_isPlace_s kini_X1 kX1_isPlace_c
theorem gX1_X1_isTaken (c0 : Cond) : GoodIn (c0 :: jW0) (wsV RX1 76 RX1 yX1_isTaken wsX1_isTaken) := jGV klX1_76 kX1_isTaken_i kX1_isTaken_v kini_X1 kX1_isTaken_c
theorem gL_X1_mutate (c0 : Cond) : GoodIn (c0 :: jW0) (wsV RL 81 RX1 yX1_mutate wsX1_mutate) := jGV klL_81 kX1_mutate_i kX1_mutate_v kini_X1 kX1_mutate_c
theorem gX1_X1_isSite (c0 : Cond) : GoodIn (c0 :: jW0) (wsV RX1 79 RX1 yX1_isSite wsX1_isSite) := jGV klX1_79 kX1_isSite_i kX1_isSite_v kini_X1 kX1_isSite_c
theorem gL_X1_count (c0 : Cond) : GoodIn (c0 :: jW0) (wsV RL 85 RX1 yX1_count wsX1_count) := jGV klL_85 kX1_count_i kX1_count_v kini_X1 kX1_count_c
theorem gX1_X1_samples (c0 : Cond) : GoodIn (c0 :: jW0) (wsV RX1 94 RX1 yX1_samples wsX1_samples) := jGV klX1_94 kX1_samples_i kX1_samples_v kini_X1 kX1_samples_c
theorem gX1_X1_find (c0 : Cond) : GoodIn (c0 :: jW0) (wsV RX1 98 RX1 yX1_find wsX1_find) := jGV klX1_98 kX1_find_i kX1_find_v kini_X1 kX1_find_c
theorem gX1_X1_begins (c0 : Cond) : GoodIn (c0 :: jW0) (wsV RX1 82 RX1 yX1_begins wsX1_begins) := jGV klX1_82 kX1_begins_i kX1_begins_v kini_X1 kX1_begins_c
theorem gL_X1_time (c0 : Cond) : GoodIn (c0 :: jW0) (wsV RL 89 RX1 yX1_time wsX1_time) := jGV klL_89 kX1_time_i kX1_time_v kini_X1 kX1_time_c
theorem gL_X1_edge (c0 : Cond) : GoodIn (c0 :: jW0) (wsV RL 92 RX1 yX1_edge wsX1_edge) := jGV klL_92 kX1_edge_i kX1_edge_v kini_X1 kX1_edge_c
theorem gL_X1_parent (c0 : Cond) : GoodIn (c0 :: jW0) (wsV RL 95 RX1 yX1_parent wsX1_parent) := jGV klL_95 kX1_parent_i kX1_parent_v kini_X1 kX1_parent_c
theorem gL_X1_meet (c0 : Cond) : GoodIn (c0 :: jW0) (wsV RL 98 RX1 yX1_meet wsX1_meet) := jGV klL_98 kX1_meet_i kX1_meet_v kini_X1 kX1_meet_c
theorem gX1_X1_holds (c0 : Cond) : GoodIn (c0 :: jW0) (wsV RX1 52 RX1 yX1_holds wsX1_holds) := jGV klX1_52 kX1_holds_i kX1_holds_v kini_X1 kX1_holds_c
theorem gL_X1_trees (c0 : Cond) : GoodIn (c0 :: jW0) (wsV RL 102 RX1 yX1_trees wsX1_trees) := jGV klL_102 kX1_trees_i kX1_trees_v kini_X1 kX1_trees_c
theorem gX1_X1_differs (c0 : Cond) : GoodIn (c0 :: jW0) (wsV RX1 105 RX1 yX1_differs wsX1_differs) := jGV klX1_105 kX1_differs_i kX1_differs_v kini_X1 kX1_differs_c
theorem gL_X1_cut (c0 : Cond) : GoodIn (c0 :: jW0) (wsV RL 105 RX1 yX1_cut wsX1_cut) := jGV klL_105 kX1_cut_i kX1_cut_v kini_X1 kX1_cut_c
theorem gX1_X1_trees (c0 : Cond) : GoodIn (c0 :: jW0) (wsV RX1 108 RX1 yX1_trees wsX1_trees) := jGV klX1_108 kX1_trees_i kX1_trees_v kini_X1 kX1_trees_c
theorem gL_X1_letter (c0 : Cond) : GoodIn (c0 :: jW0) (wsV RL 108 RX1 yX1_letter wsX1_letter) := jGV klL_108 kX1_letter_i kX1_letter_v kini_X1 kX1_letter_c
theorem gX1_X1_letterAt (c0 : Cond) : GoodIn (c0 :: jW0) (wsV RX1 111 RX1 yX1_letterAt wsX1_letterAt) := jGV klX1_111 kX1_letterAt_i kX1_letterAt_v kini_X1 kX1_letterAt_c
theorem gL_X1_differing (c0 : Cond) : GoodIn (c0 :: jW0) (wsV RL 112 RX1 yX1_differing wsX1_differing) := jGV klL_112 kX1_differing_i kX1_differing_v kini_X1 kX1_differing_c
theorem gL_X1_spectrum (c0 : Cond) : GoodIn (c0 :: jW0) (wsV RL 116 RX1 yX1_spectrum wsX1_spectrum) := jGV klL_116 kX1_spectrum_i kX1_spectrum_v kini_X1 kX1_spectrum_c
theorem gL_X1_area (c0 : Cond) : GoodIn (c0 :: jW0) (wsV RL 120 RX1 yX1_area wsX1_area) := jGV klL_120 kX1_area_i kX1_area_v kini_X1 kX1_area_c
theorem gX1_X1_under (c0 : Cond) : GoodIn (c0 :: jW0) (wsV RX1 56 RX1 yX1_under wsX1_under) := jGV klX1_56 kX1_under_i kX1_under_v kini_X1 kX1_under_c
theorem gL_X1_simplify (c0 : Cond) : GoodIn (c0 :: jW0) (wsV RL 124 RX1 yX1_simplify wsX1_simplify) := jGV klL_124 kX1_simplify_i kX1_simplify_v kini_X1 kX1_simplify_c
theorem gX1_X1_stays (c0 : Cond) : GoodIn (c0 :: jW0) (wsV RX1 117 RX1 yX1_stays wsX1_stays) := jGV klX1_117 kX1_stays_i kX1_stays_v kini_X1 kX1_stays_c
theorem gX1_X1_isFork (c0 : Cond) : GoodIn (c0 :: jW0) (wsV RX1 59 RX1 yX1_isFork wsX1_isFork) := jGV klX1_59 kX1_isFork_i kX1_isFork_v kini_X1 kX1_isFork_c
theorem gX1_X1_matters (c0 : Cond) : GoodIn (c0 :: jW0) (wsV RX1 114 RX1 yX1_matters wsX1_matters) := jGV klX1_114 kX1_matters_i kX1_matters_v kini_X1 kX1_matters_c
theorem gX1_X1_nearest (c0 : Cond) : GoodIn (c0 :: jW0) (wsV RX1 120 RX1 yX1_nearest wsX1_nearest) := jGV klX1_120 kX1_nearest_i kX1_nearest_v kini_X1 kX1_nearest_c
theorem gX1_X1_comes (c0 : Cond) : GoodIn (c0 :: jW0) (wsV RX1 123 RX1 yX1_comes wsX1_comes) := jGV klX1_123 kX1_comes_i kX1_comes_v kini_X1 kX1_comes_c
theorem gL_X1_became (c0 : Cond) : GoodIn (c0 :: jW0) (wsV RL 128 RX1 yX1_became wsX1_became) := jGV klL_128 kX1_became_i kX1_became_v kini_X1 kX1_became_c
end
section
/-! The packed walk: 'from every heap that holds ws and all locals that hold lv the machine, at pc with the stack st, comes to Q'. Rows of one instruction each over the kit's. -/
section JA
variable {p : Program} {l : Launch} {e : Env} {R : Room} {s : State} {m : MethodId} {args : Array Value} {below : List Frame} {meth : Method} {c : Code} {cells slots : Nat} {Q : State → Prop}
variable {D : va_G} {cl : List vw_C} {tys : List (ClassId × FieldType)} {A : Nat → Prop} {nL : Nat} {cc : ByteArray} {Ts : List Cond} {own : String} {ret : Option FieldType} {ws : va_W} {lv : List (Nat × Value)} {pc : Nat} {st : List Value}
def jaC (p : Program) (s : State) (m : MethodId) (args : Array Value) (meth : Method) (c : Code) (D : va_G) (cl : List vw_C) (tys : List (ClassId × FieldType)) (cc : ByteArray) (nL : Nat) (Ts : List Cond) (own : String) (ret : Option FieldType) (A : Nat → Prop) : Prop :=
  CallFix p m c cc nL s args Ts own ∧ va_K D cl tys s ∧ (∀ q : Nat, s.heap.size ≤ q → A q) ∧ meth.sig.returnType = ret ∧ meth.locks = false
def jaW (p : Program) (l : Launch) (e : Env) (R : Room) (s : State) (m : MethodId) (args : Array Value) (below : List Frame) (meth : Method) (c : Code) (cells slots : Nat) (Q : State → Prop) (D : va_G) (cl : List vw_C) (A : Nat → Prop) (nL : Nat) (ws : va_W) (lv : List (Nat × Value)) (pc : Nat) (st : List Value) : Prop :=
  ∀ (H : Heap) (locs : List Loc) (ls : Array Slot), va_P D cl ws H → va_D A ws → va_S A s.heap H locs → lv_has ls nL lv → W p l e R s m args below meth c H locs cells slots Q (F0 m pc ls st)
theorem ja_iconst (K : jaC p s m args meth c D cl tys cc nL Ts own ret A) {n : Int} (v : Int32) (hd : decode cc pc = .ok (.iconst n, 1)) (hv : Int32.ofInt n = v) (k : jaW p l e R s m args below meth c cells slots Q D cl A nL ws lv (pc + 1) (Value.int v :: st)) : jaW p l e R s m args below meth c cells slots Q D cl A nL ws lv (pc) (st) := fun H L ls hP hD hS hl => lv_iconst K.1.1 K.1.2.1 hd hv (k H L ls hP hD hS hl)
theorem ja_bipush (K : jaC p s m args meth c D cl tys cc nL Ts own ret A) {n : Int} (v : Int32) (hd : decode cc pc = .ok (.bipush n, 2)) (hv : (Int8.ofInt n).toInt32 = v) (k : jaW p l e R s m args below meth c cells slots Q D cl A nL ws lv (pc + 2) (Value.int v :: st)) : jaW p l e R s m args below meth c cells slots Q D cl A nL ws lv (pc) (st) := fun H L ls hP hD hS hl => lv_bipush K.1.1 K.1.2.1 hd hv (k H L ls hP hD hS hl)
theorem ja_sipush (K : jaC p s m args meth c D cl tys cc nL Ts own ret A) {n : Int} (v : Int32) (hd : decode cc pc = .ok (.sipush n, 3)) (hv : (Int16.ofInt n).toInt32 = v) (k : jaW p l e R s m args below meth c cells slots Q D cl A nL ws lv (pc + 3) (Value.int v :: st)) : jaW p l e R s m args below meth c cells slots Q D cl A nL ws lv (pc) (st) := fun H L ls hP hD hS hl => lv_sipush K.1.1 K.1.2.1 hd hv (k H L ls hP hD hS hl)
theorem ja_iload_n (K : jaC p s m args meth c D cl tys cc nL Ts own ret A) {k0 : Fin 4} {x : Int32} (j : Nat) (hd : decode cc pc = .ok (.iload_n k0, 1)) (hj : lv[j]? = some ((k0 : Nat), Value.int x)) (k : jaW p l e R s m args below meth c cells slots Q D cl A nL ws lv (pc + 1) (Value.int x :: st)) : jaW p l e R s m args below meth c cells slots Q D cl A nL ws lv (pc) (st) := fun H L ls hP hD hS hl => lv_iload_n K.1.1 K.1.2.1 hd rfl (lv_at hl j hj) (k H L ls hP hD hS hl)
theorem ja_iload (K : jaC p s m args meth c D cl tys cc nL Ts own ret A) {i : Nat} {x : Int32} (j : Nat) (hd : decode cc pc = .ok (.iload i, 2)) (hj : lv[j]? = some (i, Value.int x)) (k : jaW p l e R s m args below meth c cells slots Q D cl A nL ws lv (pc + 2) (Value.int x :: st)) : jaW p l e R s m args below meth c cells slots Q D cl A nL ws lv (pc) (st) := fun H L ls hP hD hS hl => lv_iload K.1.1 K.1.2.1 hd (lv_at hl j hj) (k H L ls hP hD hS hl)
theorem ja_aload_n (K : jaC p s m args meth c D cl tys cc nL Ts own ret A) {k0 : Fin 4} {x : Nat} (j : Nat) (hd : decode cc pc = .ok (.aload_n k0, 1)) (hj : lv[j]? = some ((k0 : Nat), Value.ref x)) (k : jaW p l e R s m args below meth c cells slots Q D cl A nL ws lv (pc + 1) (Value.ref x :: st)) : jaW p l e R s m args below meth c cells slots Q D cl A nL ws lv (pc) (st) := fun H L ls hP hD hS hl => lv_aload_n K.1.1 K.1.2.1 hd rfl (lv_at hl j hj) (k H L ls hP hD hS hl)
theorem ja_aload (K : jaC p s m args meth c D cl tys cc nL Ts own ret A) {i : Nat} {x : Nat} (j : Nat) (hd : decode cc pc = .ok (.aload i, 2)) (hj : lv[j]? = some (i, Value.ref x)) (k : jaW p l e R s m args below meth c cells slots Q D cl A nL ws lv (pc + 2) (Value.ref x :: st)) : jaW p l e R s m args below meth c cells slots Q D cl A nL ws lv (pc) (st) := fun H L ls hP hD hS hl => lv_aload K.1.1 K.1.2.1 hd (lv_at hl j hj) (k H L ls hP hD hS hl)
def jaset (lv : List (Nat × Value)) (i : Nat) (v : Value) : List (Nat × Value) := if lv.any (fun q => q.1 == i) then lv.map (fun q => if q.1 == i then (i, v) else q) else lv ++ [(i, v)]
def jaone (lv : List (Nat × Value)) : Bool := lv.all (fun q => q.2.category == 1)
theorem jaset_mem {lv : List (Nat × Value)} {i : Nat} {v : Value} {q : Nat × Value} (h : q ∈ jaset lv i v) : q = (i, v) ∨ (q ∈ lv ∧ q.1 ≠ i) := by
  unfold jaset at h
  split at h
  · obtain ⟨z, hz, e⟩ := List.mem_map.mp h
    split at e
    · exact Or.inl e.symm
    · rename_i hne
      subst e
      exact Or.inr ⟨hz, by simpa using hne⟩
  · rename_i hn
    rcases List.mem_append.mp h with h1 | h1
    · refine Or.inr ⟨h1, fun e => hn ?_⟩
      exact List.any_eq_true.mpr ⟨q, h1, by simp [e]⟩
    · exact Or.inl (List.mem_singleton.mp h1)
theorem jaset_has {ls : Array Slot} {n : Nat} {lv : List (Nat × Value)} {i : Nat} {v : Value} (ho : jaone lv = true) (h : lv_has ls n ((i, v) :: lv.filter (fun q => !(q.1 == i) && !(q.1 + 1 == i && q.2.category == 2)))) : lv_has ls n (jaset lv i v) := by
  refine ⟨h.1, h.2.1, fun q hq => h.2.2 q ?_⟩
  rcases jaset_mem hq with rfl | ⟨h1, h2⟩
  · exact List.mem_cons_self
  · refine List.mem_cons_of_mem _ (List.mem_filter.mpr ⟨h1, ?_⟩)
    have h3 := List.all_eq_true.mp ho q h1
    have h4 : q.2.category = 1 := by simpa using h3
    simp [h2, h4]
theorem ja_istore_n (K : jaC p s m args meth c D cl tys cc nL Ts own ret A) {k0 : Fin 4} {x : Int32} {lv1 : List (Nat × Value)} (hd : decode cc pc = .ok (.istore_n k0, 1)) (hn : (k0 : Nat) < nL) (ho : jaone lv = true) (he : jaset lv (k0 : Nat) (Value.int x) = lv1) (k : jaW p l e R s m args below meth c cells slots Q D cl A nL ws lv1 (pc + 1) (st)) : jaW p l e R s m args below meth c cells slots Q D cl A nL ws lv (pc) (Value.int x :: st) := fun H L ls hP hD hS hl => lv_istore_n K.1.1 K.1.2.1 hd rfl hl hn rfl (fun ls1 h1 => k H L ls1 hP hD hS (he ▸ jaset_has ho h1))
theorem ja_istore (K : jaC p s m args meth c D cl tys cc nL Ts own ret A) {i : Nat} {x : Int32} {lv1 : List (Nat × Value)} (hd : decode cc pc = .ok (.istore i, 2)) (hn : i < nL) (ho : jaone lv = true) (he : jaset lv i (Value.int x) = lv1) (k : jaW p l e R s m args below meth c cells slots Q D cl A nL ws lv1 (pc + 2) (st)) : jaW p l e R s m args below meth c cells slots Q D cl A nL ws lv (pc) (Value.int x :: st) := fun H L ls hP hD hS hl => lv_istore K.1.1 K.1.2.1 hd hl hn rfl (fun ls1 h1 => k H L ls1 hP hD hS (he ▸ jaset_has ho h1))
theorem ja_astore_n (K : jaC p s m args meth c D cl tys cc nL Ts own ret A) {k0 : Fin 4} {x : Nat} {lv1 : List (Nat × Value)} (hd : decode cc pc = .ok (.astore_n k0, 1)) (hn : (k0 : Nat) < nL) (ho : jaone lv = true) (he : jaset lv (k0 : Nat) (Value.ref x) = lv1) (k : jaW p l e R s m args below meth c cells slots Q D cl A nL ws lv1 (pc + 1) (st)) : jaW p l e R s m args below meth c cells slots Q D cl A nL ws lv (pc) (Value.ref x :: st) := fun H L ls hP hD hS hl => lv_astore_n K.1.1 K.1.2.1 hd rfl hl hn rfl (fun ls1 h1 => k H L ls1 hP hD hS (he ▸ jaset_has ho h1))
theorem ja_astore (K : jaC p s m args meth c D cl tys cc nL Ts own ret A) {i : Nat} {x : Nat} {lv1 : List (Nat × Value)} (hd : decode cc pc = .ok (.astore i, 2)) (hn : i < nL) (ho : jaone lv = true) (he : jaset lv i (Value.ref x) = lv1) (k : jaW p l e R s m args below meth c cells slots Q D cl A nL ws lv1 (pc + 2) (st)) : jaW p l e R s m args below meth c cells slots Q D cl A nL ws lv (pc) (Value.ref x :: st) := fun H L ls hP hD hS hl => lv_astore K.1.1 K.1.2.1 hd hl hn rfl (fun ls1 h1 => k H L ls1 hP hD hS (he ▸ jaset_has ho h1))
theorem ja_iinc (K : jaC p s m args meth c D cl tys cc nL Ts own ret A) {i : Nat} {n : Int} {x : Int32} {lv1 : List (Nat × Value)} (j : Nat) (v : Int32) (hd : decode cc pc = .ok (.iinc i n, 3)) (hj : lv[j]? = some (i, Value.int x)) (hv : x + Int32.ofInt n = v) (hn : i < nL) (ho : jaone lv = true) (he : jaset lv i (Value.int v) = lv1) (k : jaW p l e R s m args below meth c cells slots Q D cl A nL ws lv1 (pc + 3) (st)) : jaW p l e R s m args below meth c cells slots Q D cl A nL ws lv (pc) (st) := fun H L ls hP hD hS hl => lv_iinc K.1.1 K.1.2.1 hd hl hj hv hn rfl (fun ls1 h1 => k H L ls1 hP hD hS (he ▸ jaset_has ho h1))
theorem ja_locals {lv1 : List (Nat × Value)} (ks : List Nat) (h : lv_pick lv ks = lv1) (k : jaW p l e R s m args below meth c cells slots Q D cl A nL ws lv1 (pc) (st)) : jaW p l e R s m args below meth c cells slots Q D cl A nL ws lv (pc) (st) := fun H L ls hP hD hS hl => k H L ls hP hD hS (lv_sub hl ks h)
theorem ja_iadd (K : jaC p s m args meth c D cl tys cc nL Ts own ret A) {x y : Int32} (z : Int32) (hd : decode cc pc = .ok (.iadd, 1)) (hz : x + y = z) (k : jaW p l e R s m args below meth c cells slots Q D cl A nL ws lv (pc + 1) (Value.int z :: st)) : jaW p l e R s m args below meth c cells slots Q D cl A nL ws lv (pc) (Value.int y :: Value.int x :: st) := fun H L ls hP hD hS hl => lv_iadd K.1.1 K.1.2.1 hd (by rw [hz]; exact (k H L ls hP hD hS hl))
theorem ja_isub (K : jaC p s m args meth c D cl tys cc nL Ts own ret A) {x y : Int32} (z : Int32) (hd : decode cc pc = .ok (.isub, 1)) (hz : x - y = z) (k : jaW p l e R s m args below meth c cells slots Q D cl A nL ws lv (pc + 1) (Value.int z :: st)) : jaW p l e R s m args below meth c cells slots Q D cl A nL ws lv (pc) (Value.int y :: Value.int x :: st) := fun H L ls hP hD hS hl => lv_isub K.1.1 K.1.2.1 hd (by rw [hz]; exact (k H L ls hP hD hS hl))
theorem ja_imul (K : jaC p s m args meth c D cl tys cc nL Ts own ret A) {x y : Int32} (z : Int32) (hd : decode cc pc = .ok (.imul, 1)) (hz : x * y = z) (k : jaW p l e R s m args below meth c cells slots Q D cl A nL ws lv (pc + 1) (Value.int z :: st)) : jaW p l e R s m args below meth c cells slots Q D cl A nL ws lv (pc) (Value.int y :: Value.int x :: st) := fun H L ls hP hD hS hl => lv_imul K.1.1 K.1.2.1 hd (by rw [hz]; exact (k H L ls hP hD hS hl))
theorem ja_iand (K : jaC p s m args meth c D cl tys cc nL Ts own ret A) {x y : Int32} (z : Int32) (hd : decode cc pc = .ok (.iand, 1)) (hz : x &&& y = z) (k : jaW p l e R s m args below meth c cells slots Q D cl A nL ws lv (pc + 1) (Value.int z :: st)) : jaW p l e R s m args below meth c cells slots Q D cl A nL ws lv (pc) (Value.int y :: Value.int x :: st) := fun H L ls hP hD hS hl => lv_iand K.1.1 K.1.2.1 hd (by rw [hz]; exact (k H L ls hP hD hS hl))
theorem ja_ior (K : jaC p s m args meth c D cl tys cc nL Ts own ret A) {x y : Int32} (z : Int32) (hd : decode cc pc = .ok (.ior, 1)) (hz : x ||| y = z) (k : jaW p l e R s m args below meth c cells slots Q D cl A nL ws lv (pc + 1) (Value.int z :: st)) : jaW p l e R s m args below meth c cells slots Q D cl A nL ws lv (pc) (Value.int y :: Value.int x :: st) := fun H L ls hP hD hS hl => lv_ior K.1.1 K.1.2.1 hd (by rw [hz]; exact (k H L ls hP hD hS hl))
theorem ja_ishl (K : jaC p s m args meth c D cl tys cc nL Ts own ret A) {x y : Int32} (z : Int32) (hd : decode cc pc = .ok (.ishl, 1)) (hz : x <<< (y &&& 31) = z) (k : jaW p l e R s m args below meth c cells slots Q D cl A nL ws lv (pc + 1) (Value.int z :: st)) : jaW p l e R s m args below meth c cells slots Q D cl A nL ws lv (pc) (Value.int y :: Value.int x :: st) := fun H L ls hP hD hS hl => lv_ishl K.1.1 K.1.2.1 hd (by rw [hz]; exact (k H L ls hP hD hS hl))
theorem ja_ishr (K : jaC p s m args meth c D cl tys cc nL Ts own ret A) {x y : Int32} (z : Int32) (hd : decode cc pc = .ok (.ishr, 1)) (hz : x >>> (y &&& 31) = z) (k : jaW p l e R s m args below meth c cells slots Q D cl A nL ws lv (pc + 1) (Value.int z :: st)) : jaW p l e R s m args below meth c cells slots Q D cl A nL ws lv (pc) (Value.int y :: Value.int x :: st) := fun H L ls hP hD hS hl => lv_ishr K.1.1 K.1.2.1 hd (by rw [hz]; exact (k H L ls hP hD hS hl))
theorem ja_idiv (K : jaC p s m args meth c D cl tys cc nL Ts own ret A) {x y : Int32} (z : Int32) (hd : decode cc pc = .ok (.idiv, 1)) (hne : ¬ y = 0) (hz : x / y = z) (k : jaW p l e R s m args below meth c cells slots Q D cl A nL ws lv (pc + 1) (Value.int z :: st)) : jaW p l e R s m args below meth c cells slots Q D cl A nL ws lv (pc) (Value.int y :: Value.int x :: st) := fun H L ls hP hD hS hl => lv_idiv K.1.1 K.1.2.1 hd hne (by rw [hz]; exact (k H L ls hP hD hS hl))
theorem ja_irem (K : jaC p s m args meth c D cl tys cc nL Ts own ret A) {x y : Int32} (z : Int32) (hd : decode cc pc = .ok (.irem, 1)) (hne : ¬ y = 0) (hz : x - x / y * y = z) (k : jaW p l e R s m args below meth c cells slots Q D cl A nL ws lv (pc + 1) (Value.int z :: st)) : jaW p l e R s m args below meth c cells slots Q D cl A nL ws lv (pc) (Value.int y :: Value.int x :: st) := fun H L ls hP hD hS hl => lv_irem K.1.1 K.1.2.1 hd hne (by rw [hz]; exact (k H L ls hP hD hS hl))
theorem ja_ineg (K : jaC p s m args meth c D cl tys cc nL Ts own ret A) {x : Int32} (z : Int32) (hd : decode cc pc = .ok (.ineg, 1)) (hz : -x = z) (k : jaW p l e R s m args below meth c cells slots Q D cl A nL ws lv (pc + 1) (Value.int z :: st)) : jaW p l e R s m args below meth c cells slots Q D cl A nL ws lv (pc) (Value.int x :: st) := fun H L ls hP hD hS hl => lv_ineg K.1.1 K.1.2.1 hd (by rw [hz]; exact (k H L ls hP hD hS hl))
theorem ja_i2l (K : jaC p s m args meth c D cl tys cc nL Ts own ret A) {x : Int32} (z : Int64) (hd : decode cc pc = .ok (.i2l, 1)) (hz : x.toInt64 = z) (k : jaW p l e R s m args below meth c cells slots Q D cl A nL ws lv (pc + 1) (Value.long z :: st)) : jaW p l e R s m args below meth c cells slots Q D cl A nL ws lv (pc) (Value.int x :: st) := fun H L ls hP hD hS hl => lv_i2l K.1.1 K.1.2.1 hd hz (k H L ls hP hD hS hl)
theorem ja_lcmp (K : jaC p s m args meth c D cl tys cc nL Ts own ret A) {x y : Int64} (z : Int32) (hd : decode cc pc = .ok (.lcmp, 1)) (hz : lg_cmp x y = z) (k : jaW p l e R s m args below meth c cells slots Q D cl A nL ws lv (pc + 1) (Value.int z :: st)) : jaW p l e R s m args below meth c cells slots Q D cl A nL ws lv (pc) (Value.long y :: Value.long x :: st) := fun H L ls hP hD hS hl => W.lcmp K.1.1 K.1.2.1 hd (by rw [hz]; exact (k H L ls hP hD hS hl))
theorem ja_dup (K : jaC p s m args meth c D cl tys cc nL Ts own ret A) {v : Value} (hd : decode cc pc = .ok (.dup, 1)) (hv : v.category = 1) (k : jaW p l e R s m args below meth c cells slots Q D cl A nL ws lv (pc + 1) (v :: v :: st)) : jaW p l e R s m args below meth c cells slots Q D cl A nL ws lv (pc) (v :: st) := fun H L ls hP hD hS hl => lv_dup K.1.1 K.1.2.1 hd hv (k H L ls hP hD hS hl)
theorem ja_pop (K : jaC p s m args meth c D cl tys cc nL Ts own ret A) {v : Value} (hd : decode cc pc = .ok (.pop, 1)) (hv : v.category = 1) (k : jaW p l e R s m args below meth c cells slots Q D cl A nL ws lv (pc + 1) (st)) : jaW p l e R s m args below meth c cells slots Q D cl A nL ws lv (pc) (v :: st) := fun H L ls hP hD hS hl => lv_pop K.1.1 K.1.2.1 hd hv (k H L ls hP hD hS hl)
theorem ja_dup_x1 (K : jaC p s m args meth c D cl tys cc nL Ts own ret A) {v w : Value} (hd : decode cc pc = .ok (.dup_x1, 1)) (hv : v.category = 1) (hw : w.category = 1) (k : jaW p l e R s m args below meth c cells slots Q D cl A nL ws lv (pc + 1) (v :: w :: v :: st)) : jaW p l e R s m args below meth c cells slots Q D cl A nL ws lv (pc) (v :: w :: st) := fun H L ls hP hD hS hl => lv_dup_x1 K.1.1 K.1.2.1 hd hv hw (k H L ls hP hD hS hl)
theorem ja_dup2 (K : jaC p s m args meth c D cl tys cc nL Ts own ret A) {v w : Value} (hd : decode cc pc = .ok (.dup2, 1)) (hv : v.category = 1) (hw : w.category = 1) (k : jaW p l e R s m args below meth c cells slots Q D cl A nL ws lv (pc + 1) (v :: w :: v :: w :: st)) : jaW p l e R s m args below meth c cells slots Q D cl A nL ws lv (pc) (v :: w :: st) := fun H L ls hP hD hS hl => lv_dup2_11 K.1.1 K.1.2.1 hd hv hw (k H L ls hP hD hS hl)
theorem ja_if_eq (K : jaC p s m args meth c D cl tys cc nL Ts own ret A) {x : Int32} {off : Int} {tgt : Nat} (P0 : Prop) (hd : decode cc pc = .ok (.ifCond .eq off, 3)) (ht : (pc : Int) + off = (tgt : Int)) (hP0 : x = 0 ↔ P0) (kt : P0 → jaW p l e R s m args below meth c cells slots Q D cl A nL ws lv (tgt) (st)) (kf : ¬ P0 → jaW p l e R s m args below meth c cells slots Q D cl A nL ws lv (pc + 3) (st)) : jaW p l e R s m args below meth c cells slots Q D cl A nL ws lv (pc) (Value.int x :: st) := fun H L ls hP hD hS hl => lv_if_eq K.1.1 K.1.2.1 hd ht (fun h9 => kt (hP0.mp h9) H L ls hP hD hS hl) (fun h9 => kf (fun h8 => h9 (hP0.mpr h8)) H L ls hP hD hS hl)
theorem ja_if_ne (K : jaC p s m args meth c D cl tys cc nL Ts own ret A) {x : Int32} {off : Int} {tgt : Nat} (P0 : Prop) (hd : decode cc pc = .ok (.ifCond .ne off, 3)) (ht : (pc : Int) + off = (tgt : Int)) (hP0 : ¬ x = 0 ↔ P0) (kt : P0 → jaW p l e R s m args below meth c cells slots Q D cl A nL ws lv (tgt) (st)) (kf : ¬ P0 → jaW p l e R s m args below meth c cells slots Q D cl A nL ws lv (pc + 3) (st)) : jaW p l e R s m args below meth c cells slots Q D cl A nL ws lv (pc) (Value.int x :: st) := fun H L ls hP hD hS hl => lv_if_ne K.1.1 K.1.2.1 hd ht (fun h9 => kt (hP0.mp h9) H L ls hP hD hS hl) (fun h9 => kf (fun h8 => hP0.mpr h8 h9) H L ls hP hD hS hl)
theorem ja_if_lt (K : jaC p s m args meth c D cl tys cc nL Ts own ret A) {x : Int32} {off : Int} {tgt : Nat} (P0 : Prop) (hd : decode cc pc = .ok (.ifCond .lt off, 3)) (ht : (pc : Int) + off = (tgt : Int)) (hP0 : x < 0 ↔ P0) (kt : P0 → jaW p l e R s m args below meth c cells slots Q D cl A nL ws lv (tgt) (st)) (kf : ¬ P0 → jaW p l e R s m args below meth c cells slots Q D cl A nL ws lv (pc + 3) (st)) : jaW p l e R s m args below meth c cells slots Q D cl A nL ws lv (pc) (Value.int x :: st) := fun H L ls hP hD hS hl => lv_if_lt K.1.1 K.1.2.1 hd ht (fun h9 => kt (hP0.mp h9) H L ls hP hD hS hl) (fun h9 => kf (fun h8 => h9 (hP0.mpr h8)) H L ls hP hD hS hl)
theorem ja_if_ge (K : jaC p s m args meth c D cl tys cc nL Ts own ret A) {x : Int32} {off : Int} {tgt : Nat} (P0 : Prop) (hd : decode cc pc = .ok (.ifCond .ge off, 3)) (ht : (pc : Int) + off = (tgt : Int)) (hP0 : 0 ≤ x ↔ P0) (kt : P0 → jaW p l e R s m args below meth c cells slots Q D cl A nL ws lv (tgt) (st)) (kf : ¬ P0 → jaW p l e R s m args below meth c cells slots Q D cl A nL ws lv (pc + 3) (st)) : jaW p l e R s m args below meth c cells slots Q D cl A nL ws lv (pc) (Value.int x :: st) := fun H L ls hP hD hS hl => lv_if_ge K.1.1 K.1.2.1 hd ht (fun h9 => kt (hP0.mp h9) H L ls hP hD hS hl) (fun h9 => kf (fun h8 => h9 (hP0.mpr h8)) H L ls hP hD hS hl)
theorem ja_if_gt (K : jaC p s m args meth c D cl tys cc nL Ts own ret A) {x : Int32} {off : Int} {tgt : Nat} (P0 : Prop) (hd : decode cc pc = .ok (.ifCond .gt off, 3)) (ht : (pc : Int) + off = (tgt : Int)) (hP0 : 0 < x ↔ P0) (kt : P0 → jaW p l e R s m args below meth c cells slots Q D cl A nL ws lv (tgt) (st)) (kf : ¬ P0 → jaW p l e R s m args below meth c cells slots Q D cl A nL ws lv (pc + 3) (st)) : jaW p l e R s m args below meth c cells slots Q D cl A nL ws lv (pc) (Value.int x :: st) := fun H L ls hP hD hS hl => lv_if_gt K.1.1 K.1.2.1 hd ht (fun h9 => kt (hP0.mp h9) H L ls hP hD hS hl) (fun h9 => kf (fun h8 => h9 (hP0.mpr h8)) H L ls hP hD hS hl)
theorem ja_if_le (K : jaC p s m args meth c D cl tys cc nL Ts own ret A) {x : Int32} {off : Int} {tgt : Nat} (P0 : Prop) (hd : decode cc pc = .ok (.ifCond .le off, 3)) (ht : (pc : Int) + off = (tgt : Int)) (hP0 : x ≤ 0 ↔ P0) (kt : P0 → jaW p l e R s m args below meth c cells slots Q D cl A nL ws lv (tgt) (st)) (kf : ¬ P0 → jaW p l e R s m args below meth c cells slots Q D cl A nL ws lv (pc + 3) (st)) : jaW p l e R s m args below meth c cells slots Q D cl A nL ws lv (pc) (Value.int x :: st) := fun H L ls hP hD hS hl => lv_if_le K.1.1 K.1.2.1 hd ht (fun h9 => kt (hP0.mp h9) H L ls hP hD hS hl) (fun h9 => kf (fun h8 => h9 (hP0.mpr h8)) H L ls hP hD hS hl)
theorem ja_icmp_eq (K : jaC p s m args meth c D cl tys cc nL Ts own ret A) {x y : Int32} {off : Int} {tgt : Nat} (P0 : Prop) (hd : decode cc pc = .ok (.if_icmp .eq off, 3)) (ht : (pc : Int) + off = (tgt : Int)) (hP0 : x = y ↔ P0) (kt : P0 → jaW p l e R s m args below meth c cells slots Q D cl A nL ws lv (tgt) (st)) (kf : ¬ P0 → jaW p l e R s m args below meth c cells slots Q D cl A nL ws lv (pc + 3) (st)) : jaW p l e R s m args below meth c cells slots Q D cl A nL ws lv (pc) (Value.int y :: Value.int x :: st) := fun H L ls hP hD hS hl => lv_icmp_eq K.1.1 K.1.2.1 hd ht (fun h9 => kt (hP0.mp h9) H L ls hP hD hS hl) (fun h9 => kf (fun h8 => h9 (hP0.mpr h8)) H L ls hP hD hS hl)
theorem ja_icmp_ne (K : jaC p s m args meth c D cl tys cc nL Ts own ret A) {x y : Int32} {off : Int} {tgt : Nat} (P0 : Prop) (hd : decode cc pc = .ok (.if_icmp .ne off, 3)) (ht : (pc : Int) + off = (tgt : Int)) (hP0 : ¬ x = y ↔ P0) (kt : P0 → jaW p l e R s m args below meth c cells slots Q D cl A nL ws lv (tgt) (st)) (kf : ¬ P0 → jaW p l e R s m args below meth c cells slots Q D cl A nL ws lv (pc + 3) (st)) : jaW p l e R s m args below meth c cells slots Q D cl A nL ws lv (pc) (Value.int y :: Value.int x :: st) := fun H L ls hP hD hS hl => lv_icmp_ne K.1.1 K.1.2.1 hd ht (fun h9 => kt (hP0.mp h9) H L ls hP hD hS hl) (fun h9 => kf (fun h8 => hP0.mpr h8 h9) H L ls hP hD hS hl)
theorem ja_icmp_lt (K : jaC p s m args meth c D cl tys cc nL Ts own ret A) {x y : Int32} {off : Int} {tgt : Nat} (P0 : Prop) (hd : decode cc pc = .ok (.if_icmp .lt off, 3)) (ht : (pc : Int) + off = (tgt : Int)) (hP0 : x < y ↔ P0) (kt : P0 → jaW p l e R s m args below meth c cells slots Q D cl A nL ws lv (tgt) (st)) (kf : ¬ P0 → jaW p l e R s m args below meth c cells slots Q D cl A nL ws lv (pc + 3) (st)) : jaW p l e R s m args below meth c cells slots Q D cl A nL ws lv (pc) (Value.int y :: Value.int x :: st) := fun H L ls hP hD hS hl => lv_icmp_lt K.1.1 K.1.2.1 hd ht (fun h9 => kt (hP0.mp h9) H L ls hP hD hS hl) (fun h9 => kf (fun h8 => h9 (hP0.mpr h8)) H L ls hP hD hS hl)
theorem ja_icmp_ge (K : jaC p s m args meth c D cl tys cc nL Ts own ret A) {x y : Int32} {off : Int} {tgt : Nat} (P0 : Prop) (hd : decode cc pc = .ok (.if_icmp .ge off, 3)) (ht : (pc : Int) + off = (tgt : Int)) (hP0 : y ≤ x ↔ P0) (kt : P0 → jaW p l e R s m args below meth c cells slots Q D cl A nL ws lv (tgt) (st)) (kf : ¬ P0 → jaW p l e R s m args below meth c cells slots Q D cl A nL ws lv (pc + 3) (st)) : jaW p l e R s m args below meth c cells slots Q D cl A nL ws lv (pc) (Value.int y :: Value.int x :: st) := fun H L ls hP hD hS hl => lv_icmp_ge K.1.1 K.1.2.1 hd ht (fun h9 => kt (hP0.mp h9) H L ls hP hD hS hl) (fun h9 => kf (fun h8 => h9 (hP0.mpr h8)) H L ls hP hD hS hl)
theorem ja_icmp_gt (K : jaC p s m args meth c D cl tys cc nL Ts own ret A) {x y : Int32} {off : Int} {tgt : Nat} (P0 : Prop) (hd : decode cc pc = .ok (.if_icmp .gt off, 3)) (ht : (pc : Int) + off = (tgt : Int)) (hP0 : y < x ↔ P0) (kt : P0 → jaW p l e R s m args below meth c cells slots Q D cl A nL ws lv (tgt) (st)) (kf : ¬ P0 → jaW p l e R s m args below meth c cells slots Q D cl A nL ws lv (pc + 3) (st)) : jaW p l e R s m args below meth c cells slots Q D cl A nL ws lv (pc) (Value.int y :: Value.int x :: st) := fun H L ls hP hD hS hl => lv_icmp_gt K.1.1 K.1.2.1 hd ht (fun h9 => kt (hP0.mp h9) H L ls hP hD hS hl) (fun h9 => kf (fun h8 => h9 (hP0.mpr h8)) H L ls hP hD hS hl)
theorem ja_icmp_le (K : jaC p s m args meth c D cl tys cc nL Ts own ret A) {x y : Int32} {off : Int} {tgt : Nat} (P0 : Prop) (hd : decode cc pc = .ok (.if_icmp .le off, 3)) (ht : (pc : Int) + off = (tgt : Int)) (hP0 : x ≤ y ↔ P0) (kt : P0 → jaW p l e R s m args below meth c cells slots Q D cl A nL ws lv (tgt) (st)) (kf : ¬ P0 → jaW p l e R s m args below meth c cells slots Q D cl A nL ws lv (pc + 3) (st)) : jaW p l e R s m args below meth c cells slots Q D cl A nL ws lv (pc) (Value.int y :: Value.int x :: st) := fun H L ls hP hD hS hl => lv_icmp_le K.1.1 K.1.2.1 hd ht (fun h9 => kt (hP0.mp h9) H L ls hP hD hS hl) (fun h9 => kf (fun h8 => h9 (hP0.mpr h8)) H L ls hP hD hS hl)
theorem ja_goto (K : jaC p s m args meth c D cl tys cc nL Ts own ret A) {off : Int} {tgt : Nat} (hd : decode cc pc = .ok (.goto off, 3)) (ht : (pc : Int) + off = (tgt : Int)) (k : jaW p l e R s m args below meth c cells slots Q D cl A nL ws lv (tgt) (st)) : jaW p l e R s m args below meth c cells slots Q D cl A nL ws lv (pc) (st) := fun H L ls hP hD hS hl => lv_goto K.1.1 K.1.2.1 hd ht (k H L ls hP hD hS hl)
theorem ja_tableIn (K : jaC p s m args meth c D cl tys cc nL Ts own ret A) {dflt lo hi : Int} {offs : Array Int} {len : Nat} {x : Int32} {off : Int} {tgt : Nat} (hd : decode cc pc = .ok (.tableswitch dflt lo hi offs, len)) (h1 : ¬ x.toInt < lo) (h2 : ¬ hi < x.toInt) (ho : offs[(x.toInt - lo).toNat]? = some off) (ht : (pc : Int) + off = (tgt : Int)) (k : jaW p l e R s m args below meth c cells slots Q D cl A nL ws lv (tgt) (st)) : jaW p l e R s m args below meth c cells slots Q D cl A nL ws lv (pc) (Value.int x :: st) := fun H L ls hP hD hS hl => lv_tableIn K.1.1 K.1.2.1 hd h1 h2 ho ht (k H L ls hP hD hS hl)
theorem ja_tableOut (K : jaC p s m args meth c D cl tys cc nL Ts own ret A) {dflt lo hi : Int} {offs : Array Int} {len : Nat} {x : Int32} {tgt : Nat} (hd : decode cc pc = .ok (.tableswitch dflt lo hi offs, len)) (h1 : x.toInt < lo ∨ hi < x.toInt) (ht : (pc : Int) + dflt = (tgt : Int)) (k : jaW p l e R s m args below meth c cells slots Q D cl A nL ws lv (tgt) (st)) : jaW p l e R s m args below meth c cells slots Q D cl A nL ws lv (pc) (Value.int x :: st) := fun H L ls hP hD hS hl => lv_tableOut K.1.1 K.1.2.1 hd h1 ht (k H L ls hP hD hS hl)
theorem ja_get (K : jaC p s m args meth c D cl tys cc nL Ts own ret A) {ref C : String} {T : u_T} {N ci index a : Nat} {fs : List Value} (hin : ∀ w ∈ u_ws C T N, w ∈ Ts) (q0 : Nat) (he : ws[q0]? = some (a, .inr (ci, fs))) (hc : cl[ci]? = some (C, T, N)) (k0 : Nat) (hk : k0 < N) (hlink : Cond.fieldLink own index ref (T k0).2.1 (T k0).2.2.1 ∈ Ts) (hsame : (T k0).1 = ref) {v : Value} (hv : fs[k0]? = some v) (hd : decode cc pc = .ok (.getfield index, 3)) (k : jaW p l e R s m args below meth c cells slots Q D cl A nL ws lv (pc + 3) (v :: st)) : jaW p l e R s m args below meth c cells slots Q D cl A nL ws lv (pc) (Value.ref a :: st) := fun H L ls hP hD hS hl => va_get K.1.1 K.1.2.1 K.1.2.2.2.2 hin K.1.2.2.2.1 K.2.1 hP q0 he hc k0 hk (K.1.2.2.2.2 _ hlink) (fun _ h9 => hsame ▸ h9) hv hd (k H L ls hP hD hS hl)
theorem ja_put (K : jaC p s m args meth c D cl tys cc nL Ts own ret A) {ref C : String} {T : u_T} {N ci index a : Nat} {fs : List Value} (hin : ∀ w ∈ u_ws C T N, w ∈ Ts) (q0 : Nat) (he : ws[q0]? = some (a, .inr (ci, fs))) (hc : cl[ci]? = some (C, T, N)) (k0 : Nat) (hk : k0 < N) (hlink : Cond.fieldLink own index ref (T k0).2.1 (T k0).2.2.1 ∈ Ts) (hsame : (T k0).1 = ref) (ty0 : Nat → FieldType) (hty : ∀ k, k < N → parseFieldDescriptor (T k).2.2.1 = some (ty0 k)) (hnm : ∀ a, a < N → ∀ b, b < N → a ≠ b → (T a).2.1 ≠ (T b).2.1) (hfin : (T k0).2.2.2 = false) {ty : FieldType} {v : Value} {ws1 : va_W} (hd0 : parseFieldDescriptor (T k0).2.2.1 = some ty) (hn : narrow ty v = v) (hfit : fits ty v = true) (hl0 : k0 < fs.length) (hd : decode cc pc = .ok (.putfield index, 3)) (hw : ws.set q0 (a, .inr (ci, fs.set k0 v)) = ws1) (k : jaW p l e R s m args below meth c cells slots Q D cl A nL ws1 lv (pc + 3) (st)) : jaW p l e R s m args below meth c cells slots Q D cl A nL ws lv (pc) (v :: Value.ref a :: st) := fun H L ls hP hD hS hl => va_put K.1.1 K.1.2.1 K.1.2.2.2.2 hin ty0 hty hnm K.1.2.2.2.1 K.2.1 hP hD hS q0 he hc k0 hk (K.1.2.2.2.2 _ hlink) (fun _ h9 => hsame ▸ h9) hfin hd0 hn hfit hl0 hd (fun H1 L1 hP1 hD1 hS1 => k H1 L1 ls (hw ▸ hP1) (hw ▸ hD1) hS1 hl)
theorem ja_putF (K : jaC p s m args meth c D cl tys cc nL Ts own ret A) {ref C : String} {T : u_T} {N ci index a : Nat} {fs : List Value} (hin : ∀ w ∈ u_ws C T N, w ∈ Ts) (q0 : Nat) (he : ws[q0]? = some (a, .inr (ci, fs))) (hc : cl[ci]? = some (C, T, N)) (k0 : Nat) (hk : k0 < N) (hlink : Cond.fieldLink own index ref (T k0).2.1 (T k0).2.2.1 ∈ Ts) (hsame : (T k0).1 = ref) (ty0 : Nat → FieldType) (hty : ∀ k, k < N → parseFieldDescriptor (T k).2.2.1 = some (ty0 k)) (hnm : ∀ a, a < N → ∀ b, b < N → a ≠ b → (T a).2.1 ≠ (T b).2.1) (hfin : (T k0).2.2.2 = true) (hin2 : meth.name = "<init>") (hdecl : (T k0).1 = own) {ty : FieldType} {v : Value} {ws1 : va_W} (hd0 : parseFieldDescriptor (T k0).2.2.1 = some ty) (hn : narrow ty v = v) (hfit : fits ty v = true) (hl0 : k0 < fs.length) (hd : decode cc pc = .ok (.putfield index, 3)) (hw : ws.set q0 (a, .inr (ci, fs.set k0 v)) = ws1) (k : jaW p l e R s m args below meth c cells slots Q D cl A nL ws1 lv (pc + 3) (st)) : jaW p l e R s m args below meth c cells slots Q D cl A nL ws lv (pc) (v :: Value.ref a :: st) := fun H L ls hP hD hS hl => va_putF K.1.1 K.1.2.1 K.1.2.2.2.2 hin ty0 hty hnm K.1.2.2.2.1 K.2.1 hP hD hS q0 he hc k0 hk (K.1.2.2.2.2 _ hlink) (fun _ h9 => hsame ▸ h9) hfin hin2 hdecl hd0 hn hfit hl0 hd (fun H1 L1 hP1 hD1 hS1 => k H1 L1 ls (hw ▸ hP1) (hw ▸ hD1) hS1 hl)
theorem ja_in {i : Int32} {j n : Nat} (hi : i = nI j) (hj : j < n) (hn : n < 2 ^ 31) : vp_in i n ∧ i.toNatClampNeg = j := by
  subst hi
  exact ⟨vp_in_nI hj hn, nI_clamp (Nat.lt_trans hj hn)⟩
theorem ja_iald (K : jaC p s m args meth c D cl tys cc nL Ts own ret A) (q0 t0 : Nat) {a : Nat} {cA : ClassId} {n : Nat} {f : Nat → Int32} (he : ws[q0]? = some (a, .inl (cA, n, .inl f))) (ht : tys[t0]? = some (cA, .int)) (j : Nat) {i : Int32} {v : Int32} (hi : i = nI j) (hj : j < n) (hn : n < 2 ^ 31) (hv : f j = v) (hd : decode cc pc = .ok (.iaload, 1)) (k : jaW p l e R s m args below meth c cells slots Q D cl A nL ws lv (pc + 1) (Value.int v :: st)) : jaW p l e R s m args below meth c cells slots Q D cl A nL ws lv (pc) (Value.int i :: Value.ref a :: st) := fun H L ls hP hD hS hl => va_iald K.1.1 K.1.2.1 K.2.1 hP q0 t0 he ht (ja_in hi hj hn).1 hd (by rw [(ja_in hi hj hn).2, hv]; exact (k H L ls hP hD hS hl))
theorem ja_zald (K : jaC p s m args meth c D cl tys cc nL Ts own ret A) (q0 t0 : Nat) {a : Nat} {cA : ClassId} {n : Nat} {f : Nat → Int32} (he : ws[q0]? = some (a, .inl (cA, n, .inl f))) (ht : tys[t0]? = some (cA, .boolean)) (j : Nat) {i : Int32} {v : Int32} (hi : i = nI j) (hj : j < n) (hn : n < 2 ^ 31) (hv : f j = v) (hd : decode cc pc = .ok (.baload, 1)) (k : jaW p l e R s m args below meth c cells slots Q D cl A nL ws lv (pc + 1) (Value.int v :: st)) : jaW p l e R s m args below meth c cells slots Q D cl A nL ws lv (pc) (Value.int i :: Value.ref a :: st) := fun H L ls hP hD hS hl => va_zald K.1.1 K.1.2.1 K.2.1 hP q0 t0 he ht (ja_in hi hj hn).1 hd (by rw [(ja_in hi hj hn).2, hv]; exact (k H L ls hP hD hS hl))
theorem ja_lald (K : jaC p s m args meth c D cl tys cc nL Ts own ret A) (q0 t0 : Nat) {a : Nat} {cA : ClassId} {n : Nat} {f : Nat → Int64} (he : ws[q0]? = some (a, .inl (cA, n, .inr (.inl f)))) (ht : tys[t0]? = some (cA, .long)) (j : Nat) {i : Int32} {v : Int64} (hi : i = nI j) (hj : j < n) (hn : n < 2 ^ 31) (hv : f j = v) (hd : decode cc pc = .ok (.laload, 1)) (k : jaW p l e R s m args below meth c cells slots Q D cl A nL ws lv (pc + 1) (Value.long v :: st)) : jaW p l e R s m args below meth c cells slots Q D cl A nL ws lv (pc) (Value.int i :: Value.ref a :: st) := fun H L ls hP hD hS hl => va_lald K.1.1 K.1.2.1 K.2.1 hP q0 t0 he ht (ja_in hi hj hn).1 hd (by rw [(ja_in hi hj hn).2, hv]; exact (k H L ls hP hD hS hl))
theorem ja_iast (K : jaC p s m args meth c D cl tys cc nL Ts own ret A) (q0 t0 : Nat) {a : Nat} {cA : ClassId} {n : Nat} {f : Nat → Int32} (he : ws[q0]? = some (a, .inl (cA, n, .inl f))) (ht : tys[t0]? = some (cA, .int)) (j : Nat) {i x : Int32} {ws1 : va_W} (hi : i = nI j) (hj : j < n) (hn : n < 2 ^ 31) (hd : decode cc pc = .ok (.iastore, 1)) (hw : ws.set q0 (a, .inl (cA, n, .inl (upd f j x))) = ws1) (k : jaW p l e R s m args below meth c cells slots Q D cl A nL ws1 lv (pc + 1) (st)) : jaW p l e R s m args below meth c cells slots Q D cl A nL ws lv (pc) (Value.int x :: Value.int i :: Value.ref a :: st) := fun H L ls hP hD hS hl => va_iast K.1.1 K.1.2.1 K.2.1 hP hD hS q0 t0 he ht (ja_in hi hj hn).1 hd (by rw [(ja_in hi hj hn).2, hw]; exact fun H1 L1 hP1 hD1 hS1 => k H1 L1 ls hP1 hD1 hS1 hl)
theorem ja_zast (K : jaC p s m args meth c D cl tys cc nL Ts own ret A) (q0 t0 : Nat) {a : Nat} {cA : ClassId} {n : Nat} {f : Nat → Int32} (he : ws[q0]? = some (a, .inl (cA, n, .inl f))) (ht : tys[t0]? = some (cA, .boolean)) (j : Nat) {i x : Int32} {ws1 : va_W} (hx : vp_nar .boolean x = x) (hi : i = nI j) (hj : j < n) (hn : n < 2 ^ 31) (hd : decode cc pc = .ok (.bastore, 1)) (hw : ws.set q0 (a, .inl (cA, n, .inl (upd f j x))) = ws1) (k : jaW p l e R s m args below meth c cells slots Q D cl A nL ws1 lv (pc + 1) (st)) : jaW p l e R s m args below meth c cells slots Q D cl A nL ws lv (pc) (Value.int x :: Value.int i :: Value.ref a :: st) := fun H L ls hP hD hS hl => va_zast K.1.1 K.1.2.1 K.2.1 hP hD hS q0 t0 he ht (ja_in hi hj hn).1 hd (by rw [(ja_in hi hj hn).2, hx, hw]; exact fun H1 L1 hP1 hD1 hS1 => k H1 L1 ls hP1 hD1 hS1 hl)
theorem ja_last (K : jaC p s m args meth c D cl tys cc nL Ts own ret A) (q0 t0 : Nat) {a : Nat} {cA : ClassId} {n : Nat} {f : Nat → Int64} (he : ws[q0]? = some (a, .inl (cA, n, .inr (.inl f)))) (ht : tys[t0]? = some (cA, .long)) (j : Nat) {i : Int32} {x : Int64} {ws1 : va_W} (hi : i = nI j) (hj : j < n) (hn : n < 2 ^ 31) (hd : decode cc pc = .ok (.lastore, 1)) (hw : ws.set q0 (a, .inl (cA, n, .inr (.inl (vp_updL f j x)))) = ws1) (k : jaW p l e R s m args below meth c cells slots Q D cl A nL ws1 lv (pc + 1) (st)) : jaW p l e R s m args below meth c cells slots Q D cl A nL ws lv (pc) (Value.long x :: Value.int i :: Value.ref a :: st) := fun H L ls hP hD hS hl => va_last K.1.1 K.1.2.1 K.2.1 hP hD hS q0 t0 he ht (ja_in hi hj hn).1 hd (by rw [(ja_in hi hj hn).2, hw]; exact fun H1 L1 hP1 hD1 hS1 => k H1 L1 ls hP1 hD1 hS1 hl)
theorem ja_alen (K : jaC p s m args meth c D cl tys cc nL Ts own ret A) (q0 t0 : Nat) {a : Nat} {cA : ClassId} {x : vp_A} {ty : FieldType} (he : ws[q0]? = some (a, .inl (cA, x))) (ht : tys[t0]? = some (cA, ty)) (hd : decode cc pc = .ok (.arraylength, 1)) (k : jaW p l e R s m args below meth c cells slots Q D cl A nL ws lv (pc + 1) (Value.int (nI x.1) :: st)) : jaW p l e R s m args below meth c cells slots Q D cl A nL ws lv (pc) (Value.ref a :: st) := fun H L ls hP hD hS hl => va_alen K.1.1 K.1.2.1 K.2.1 hP q0 t0 he ht rfl hd (k H L ls hP hD hS hl)
theorem ja_world {ws1 : va_W} (h : ws = ws1) (k : jaW p l e R s m args below meth c cells slots Q D cl A nL ws1 lv (pc) (st)) : jaW p l e R s m args below meth c cells slots Q D cl A nL ws lv (pc) (st) := h ▸ k
theorem ja_pc {pc1 : Nat} (h : pc = pc1) (k : jaW p l e R s m args below meth c cells slots Q D cl A nL ws lv (pc1) (st)) : jaW p l e R s m args below meth c cells slots Q D cl A nL ws lv (pc) (st) := h ▸ k
theorem ja_widen {k1 n1 : Nat} (h1 : cells ≤ k1) (h2 : slots ≤ n1) (k : jaW p l e R s m args below meth c k1 n1 Q D cl A nL ws lv (pc) (st)) : jaW p l e R s m args below meth c cells slots Q D cl A nL ws lv (pc) (st) := fun H L ls hP hD hS hl => W.widen h1 h2 (k H L ls hP hD hS hl)
/-- what a method starts from, and what it leaves: the cells ws, the tables, the cells apart -/
def jkP (D : va_G) (cl : List vw_C) (tys : List (ClassId × FieldType)) (ws : va_W) (sz : Nat) : State → Prop := fun U => U.heap.size = sz ∧ va_P D cl ws U.heap ∧ va_K D cl tys U ∧ va_D (fun _ => True) ws
def jkA {S : Type} (D : va_G) (cl : List vw_C) (tys : List (ClassId × FieldType)) (A : Nat → Prop) (cf : S → va_W) : S → State → Prop := fun u t => va_P D cl (cf u) t.heap ∧ va_K D cl tys t ∧ va_D A (cf u)
/-- a contract: an int answer, no exception -/
def jkI {S : Type} (l : Launch) (y : MethodName) (wm : List Cond) (rm : Room) (D : va_G) (cl : List vw_C) (tys : List (ClassId × FieldType)) (cf : S → va_W) (av : List Value) (w0 : va_W) (post : Int32 → S → Prop) : Prop :=
  ∀ sz : Nat, Met l y wm rm (va_Pc av (jkP D cl tys w0 sz)) (va_Qi post (jkA D cl tys (va_A w0 sz) cf) (va_A w0 sz)) rm.cells rm.slots (va_A w0 sz)
def jkV {S : Type} (l : Launch) (y : MethodName) (wm : List Cond) (rm : Room) (D : va_G) (cl : List vw_C) (tys : List (ClassId × FieldType)) (cf : S → va_W) (av : List Value) (w0 : va_W) (post : S → Prop) : Prop :=
  ∀ sz : Nat, Met l y wm rm (va_Pc av (jkP D cl tys w0 sz)) (va_Qv post (jkA D cl tys (va_A w0 sz) cf) (va_A w0 sz)) rm.cells rm.slots (va_A w0 sz)
theorem jk_blind (D : va_G) (cl : List vw_C) (tys : List (ClassId × FieldType)) (av : List Value) (ws : va_W) (sz : Nat) : FrameBlind (va_Pc av (jkP D cl tys ws sz)) := fun a U g mk q => by
  obtain ⟨q0, q1, qP, qK, qD⟩ := q
  exact ⟨q0, q1, qP, va_K.moved (u := U) (U := U.calling g mk a) (Vm.Alike.refl U.vm) qK, qD⟩
theorem jk_freeAll {A : Nat → Prop} {ws : va_W} {H0 H : Heap} {locs : List Loc} (hD : va_D A ws) (hS : va_S A H0 H locs) (hA : ∀ q : Nat, H0.size ≤ q → A q) : ∀ q, va_A ws H.size q → A q := fun q h => by
  rcases h with ⟨k, e, hk⟩ | h
  · exact hD.2 k (q, e) hk
  · exact hA q (Nat.le_trans hS.1 h)
theorem jkI_of {S : Type} {l : Launch} {y : MethodName} {wm wm' : List Cond} {rm : Room} {D : va_G} {cl : List vw_C} {tys : List (ClassId × FieldType)} {cf : S → va_W} {av : List Value} {w0 : va_W} {post : Int32 → S → Prop} {cc : ByteArray} {maxL : Nat} {ret : Option FieldType} (hy : plainName y.cls = true) (hw : wm = Cond.code y cc maxL ret :: wm') (hav : (lg_sl av).length ≤ maxL)
    (body : ∀ (p : Program) (e : Env) (R : Room) (s : State) (m : MethodId) (args : Array Value) (below : List Frame) (meth : Method) (c : Code) (Q : State → Prop) (A : Nat → Prop), jaC p s m args meth c D cl tys cc maxL wm y.cls ret A → meth.name = y.name → R = rm → Q = MQ below (va_Qi post (jkA D cl tys A cf) A) args s rm.cells rm.slots A →
      jaW p l e R s m args below meth c 0 0 Q D cl A maxL w0 (lv_args 0 av) 0 []) : jkI l y wm rm D cl tys cf av w0 post := by
  intro sz
  refine Met.ofW (cc := cc) (maxL := maxL) (ret := ret) hy hw ?_
  intro p e s m args below meth c s₁ B hml hv
  obtain ⟨rfl, hsz, hP, hK, hD0⟩ := hv
  subst hsz
  rw [lg_entry_eq]
  exact body p e (headSpec wm rm).room s m av.toArray below meth c _ (va_A w0 s.heap.size) ⟨⟨B.exec, B.bytes, hml, findClass_of_methodNamed B.named, atoms_spec (ws := wm) B.pre⟩, hK, fun q h => Or.inr h, B.returns, B.notSynchronized⟩ (name_of_methodNamed B.named B.method).1 rfl rfl s.heap [] _ hP (hD0.self) va_S.rf (lv_entry av hav)
theorem jkV_of {S : Type} {l : Launch} {y : MethodName} {wm wm' : List Cond} {rm : Room} {D : va_G} {cl : List vw_C} {tys : List (ClassId × FieldType)} {cf : S → va_W} {av : List Value} {w0 : va_W} {post : S → Prop} {cc : ByteArray} {maxL : Nat} {ret : Option FieldType} (hy : plainName y.cls = true) (hw : wm = Cond.code y cc maxL ret :: wm') (hav : (lg_sl av).length ≤ maxL)
    (body : ∀ (p : Program) (e : Env) (R : Room) (s : State) (m : MethodId) (args : Array Value) (below : List Frame) (meth : Method) (c : Code) (Q : State → Prop) (A : Nat → Prop), jaC p s m args meth c D cl tys cc maxL wm y.cls ret A → meth.name = y.name → R = rm → Q = MQ below (va_Qv post (jkA D cl tys A cf) A) args s rm.cells rm.slots A →
      jaW p l e R s m args below meth c 0 0 Q D cl A maxL w0 (lv_args 0 av) 0 []) : jkV l y wm rm D cl tys cf av w0 post := by
  intro sz
  refine Met.ofW (cc := cc) (maxL := maxL) (ret := ret) hy hw ?_
  intro p e s m args below meth c s₁ B hml hv
  obtain ⟨rfl, hsz, hP, hK, hD0⟩ := hv
  subst hsz
  rw [lg_entry_eq]
  exact body p e (headSpec wm rm).room s m av.toArray below meth c _ (va_A w0 s.heap.size) ⟨⟨B.exec, B.bytes, hml, findClass_of_methodNamed B.named, atoms_spec (ws := wm) B.pre⟩, hK, fun q h => Or.inr h, B.returns, B.notSynchronized⟩ (name_of_methodNamed B.named B.method).1 rfl rfl s.heap [] _ hP (hD0.self) va_S.rf (lv_entry av hav)
theorem ja_iret (K : jaC p s m args meth c D cl tys cc nL Ts own ret A) {S : Type} {cf : S → va_W} {post : Int32 → S → Prop} {mc ms : Nat} {v : Int32} (u : S) (hret : ret = some .int) (hc : cells ≤ mc) (hs : slots ≤ ms) (hd : decode cc pc = .ok (.ireturn, 1)) (hQ : Q = MQ below (va_Qi post (jkA D cl tys A cf) A) args s mc ms A) (hw : ws = cf u) (hp : post v u) : jaW p l e R s m args below meth c cells slots Q D cl A nL ws lv pc [Value.int v] := by
  subst hQ
  subst hw
  subst hret
  intro H L ls hP hD hS hl
  refine W.widen hc hs ?_
  exact W.iret (v := v) K.1.1 K.1.2.1 K.2.2.2.1 (fun t ht hW => ⟨⟨v, u, rfl, hp, by rw [ht]; exact hP, va_K.moved hW.alike K.2.1, hD⟩, hS.F ht⟩) hS.2.2 hd K.2.2.2.2
theorem ja_zret (K : jaC p s m args meth c D cl tys cc nL Ts own ret A) {S : Type} {cf : S → va_W} {post : Int32 → S → Prop} {mc ms : Nat} {v : Int32} {ty : FieldType} (u : S) (hret : ret = some ty) (hn : narrow ty (.int v) = .int v) (hc : cells ≤ mc) (hs : slots ≤ ms) (hd : decode cc pc = .ok (.ireturn, 1)) (hQ : Q = MQ below (va_Qi post (jkA D cl tys A cf) A) args s mc ms A) (hw : ws = cf u) (hp : post v u) : jaW p l e R s m args below meth c cells slots Q D cl A nL ws lv pc [Value.int v] := by
  subst hQ
  subst hw
  subst hret
  intro H L ls hP hD hS hl
  refine W.widen hc hs ?_
  exact W.zret (v := v) K.1.1 K.1.2.1 K.2.2.2.1 hn (fun t ht hW => ⟨⟨v, u, rfl, hp, by rw [ht]; exact hP, va_K.moved hW.alike K.2.1, hD⟩, hS.F ht⟩) hS.2.2 hd K.2.2.2.2
theorem ja_vret (K : jaC p s m args meth c D cl tys cc nL Ts own ret A) {S : Type} {cf : S → va_W} {post : S → Prop} {mc ms : Nat} (u : S) (hret : ret = none) (hc : cells ≤ mc) (hs : slots ≤ ms) (hd : decode cc pc = .ok (.return_, 1)) (hQ : Q = MQ below (va_Qv post (jkA D cl tys A cf) A) args s mc ms A) (hw : ws = cf u) (hp : post u) : jaW p l e R s m args below meth c cells slots Q D cl A nL ws lv pc [] := by
  subst hQ
  subst hw
  subst hret
  intro H L ls hP hD hS hl
  refine W.widen hc hs ?_
  exact W.vret K.1.1 K.1.2.1 K.2.2.2.1 (fun t ht hW => ⟨⟨u, rfl, hp, by rw [ht]; exact hP, va_K.moved hW.alike K.2.1, hD⟩, hS.F ht⟩) hS.2.2 hd K.2.2.2.2
theorem ja_callVI (K : jaC p s m args meth c D cl tys cc nL Ts own ret A) {S : Type} {y : MethodName} {wm : List Cond} {rm : Room} {cf : S → va_W} {av : List Value} {post : Int32 → S → Prop} {index n maxL : Nat} {bytes : ByteArray} {rt : Option FieldType} {st0 : List Value} {b q0 ci : Nat} {fs : List Value} {qc : vw_C} (As : List Value) (hM : jkI l y wm rm D cl tys cf av ws post) (cw : CallW R s args own qc.1 index y bytes maxL rt wm rm rm.cells rm.slots n) (he : ws[q0]? = some (b, .inr (ci, fs))) (hc : cl[ci]? = some qc) (hav : (Value.ref b :: As).toArray = av.toArray) (hn : As.length = n) (hs0 : st0 = As.reverse ++ Value.ref b :: st) (hst : (st.map fun v => v.category).sum ≤ 8) (hd : decode cc pc = .ok (.invokevirtual index, 3)) (hf : cells + rm.cells ≤ R.cells ∧ slots + rm.slots ≤ R.slots) (k : ∀ (r : Int32) (u : S), post r u → jaW p l e R s m args below meth c (cells + rm.cells) (slots + rm.slots) Q D cl A nL (cf u) lv (pc + 3) (Value.int r :: st)) : jaW p l e R s m args below meth c cells slots Q D cl A nL ws lv (pc) (st0) := by
  intro H L ls hP hD hS hl
  exact va_calli (va_runV (g := F0 m pc ls st0) K.1 (hM H.size) cw ⟨jk_blind _ _ _ _ _ _, va_recv K.2.1 hP hc he, fun U hU hW => ⟨hav, by rw [hU], by rw [hU]; exact hP, va_K.moved hW.alike K.2.1, hD.weaken (fun _ _ _ _ => trivial)⟩⟩ rfl hn hl.1 hs0 (lv_room hst) hd hf) hS (fun q _ h => jk_freeAll hD hS K.2.2.1 q h) (jk_freeAll hD hS K.2.2.1) (fun r u t H1 L1 ht hvm hw hB hz hk1 hS1 => k r u hw H1 L1 ls (ht ▸ hB.1) (hB.2.2.weaken (fun _ _ _ h9 => jk_freeAll hD hS K.2.2.1 _ h9)) hS1 hl)
theorem ja_callSI (K : jaC p s m args meth c D cl tys cc nL Ts own ret A) {S : Type} {y : MethodName} {wm : List Cond} {rm : Room} {cf : S → va_W} {av : List Value} {post : Int32 → S → Prop} {index n maxL : Nat} {bytes : ByteArray} {rt : Option FieldType} {st0 : List Value} (As : List Value) (hM : jkI l y wm rm D cl tys cf av ws post) (cw : CallB R s args own index y bytes maxL rt wm rm rm.cells rm.slots n ∧ (Cond.static y).before args s = true) (hav : As.toArray = av.toArray) (hn : As.length = n) (hs0 : st0 = As.reverse ++ st) (hst : (st.map fun v => v.category).sum ≤ 8) (hd : decode cc pc = .ok (.invokestatic index, 3)) (hf : cells + rm.cells ≤ R.cells ∧ slots + rm.slots ≤ R.slots) (k : ∀ (r : Int32) (u : S), post r u → jaW p l e R s m args below meth c (cells + rm.cells) (slots + rm.slots) Q D cl A nL (cf u) lv (pc + 3) (Value.int r :: st)) : jaW p l e R s m args below meth c cells slots Q D cl A nL ws lv (pc) (st0) := by
  intro H L ls hP hD hS hl
  exact va_calli (va_runS (g := F0 m pc ls st0) K.1 (hM H.size) cw ⟨jk_blind _ _ _ _ _ _, fun U hU hW => ⟨hav, by rw [hU], by rw [hU]; exact hP, va_K.moved hW.alike K.2.1, hD.weaken (fun _ _ _ _ => trivial)⟩⟩ rfl hn hl.1 hs0 (lv_room hst) hd hf) hS (fun q _ h => jk_freeAll hD hS K.2.2.1 q h) (jk_freeAll hD hS K.2.2.1) (fun r u t H1 L1 ht hvm hw hB hz hk1 hS1 => k r u hw H1 L1 ls (ht ▸ hB.1) (hB.2.2.weaken (fun _ _ _ h9 => jk_freeAll hD hS K.2.2.1 _ h9)) hS1 hl)
theorem ja_callVV (K : jaC p s m args meth c D cl tys cc nL Ts own ret A) {S : Type} {y : MethodName} {wm : List Cond} {rm : Room} {cf : S → va_W} {av : List Value} {post : S → Prop} {index n maxL : Nat} {bytes : ByteArray} {rt : Option FieldType} {st0 : List Value} {b q0 ci : Nat} {fs : List Value} {qc : vw_C} (As : List Value) (hM : jkV l y wm rm D cl tys cf av ws post) (cw : CallW R s args own qc.1 index y bytes maxL rt wm rm rm.cells rm.slots n) (he : ws[q0]? = some (b, .inr (ci, fs))) (hc : cl[ci]? = some qc) (hav : (Value.ref b :: As).toArray = av.toArray) (hn : As.length = n) (hs0 : st0 = As.reverse ++ Value.ref b :: st) (hst : (st.map fun v => v.category).sum ≤ 8) (hd : decode cc pc = .ok (.invokevirtual index, 3)) (hf : cells + rm.cells ≤ R.cells ∧ slots + rm.slots ≤ R.slots) (k : ∀ (u : S), post u → jaW p l e R s m args below meth c (cells + rm.cells) (slots + rm.slots) Q D cl A nL (cf u) lv (pc + 3) (st)) : jaW p l e R s m args below meth c cells slots Q D cl A nL ws lv (pc) (st0) := by
  intro H L ls hP hD hS hl
  exact va_callv (va_runV (g := F0 m pc ls st0) K.1 (hM H.size) cw ⟨jk_blind _ _ _ _ _ _, va_recv K.2.1 hP hc he, fun U hU hW => ⟨hav, by rw [hU], by rw [hU]; exact hP, va_K.moved hW.alike K.2.1, hD.weaken (fun _ _ _ _ => trivial)⟩⟩ rfl hn hl.1 hs0 (lv_room hst) hd hf) hS (fun q _ h => jk_freeAll hD hS K.2.2.1 q h) (jk_freeAll hD hS K.2.2.1) (fun u t H1 L1 ht hvm hw hB hz hk1 hS1 => k u hw H1 L1 ls (ht ▸ hB.1) (hB.2.2.weaken (fun _ _ _ h9 => jk_freeAll hD hS K.2.2.1 _ h9)) hS1 hl)
theorem ja_callSV (K : jaC p s m args meth c D cl tys cc nL Ts own ret A) {S : Type} {y : MethodName} {wm : List Cond} {rm : Room} {cf : S → va_W} {av : List Value} {post : S → Prop} {index n maxL : Nat} {bytes : ByteArray} {rt : Option FieldType} {st0 : List Value} (As : List Value) (hM : jkV l y wm rm D cl tys cf av ws post) (cw : CallB R s args own index y bytes maxL rt wm rm rm.cells rm.slots n ∧ (Cond.static y).before args s = true) (hav : As.toArray = av.toArray) (hn : As.length = n) (hs0 : st0 = As.reverse ++ st) (hst : (st.map fun v => v.category).sum ≤ 8) (hd : decode cc pc = .ok (.invokestatic index, 3)) (hf : cells + rm.cells ≤ R.cells ∧ slots + rm.slots ≤ R.slots) (k : ∀ (u : S), post u → jaW p l e R s m args below meth c (cells + rm.cells) (slots + rm.slots) Q D cl A nL (cf u) lv (pc + 3) (st)) : jaW p l e R s m args below meth c cells slots Q D cl A nL ws lv (pc) (st0) := by
  intro H L ls hP hD hS hl
  exact va_callv (va_runS (g := F0 m pc ls st0) K.1 (hM H.size) cw ⟨jk_blind _ _ _ _ _ _, fun U hU hW => ⟨hav, by rw [hU], by rw [hU]; exact hP, va_K.moved hW.alike K.2.1, hD.weaken (fun _ _ _ _ => trivial)⟩⟩ rfl hn hl.1 hs0 (lv_room hst) hd hf) hS (fun q _ h => jk_freeAll hD hS K.2.2.1 q h) (jk_freeAll hD hS K.2.2.1) (fun u t H1 L1 ht hvm hw hB hz hk1 hS1 => k u hw H1 L1 ls (ht ▸ hB.1) (hB.2.2.weaken (fun _ _ _ h9 => jk_freeAll hD hS K.2.2.1 _ h9)) hS1 hl)
end JA
/-- loops: a measure that falls -/
theorem jl_1 {A1 : Type} (μ : A1 → Nat) (I G : A1 → Prop) (h : ∀ a, I a → (∀ b, I b → μ b < μ a → G b) → G a) : ∀ a, I a → G a := by
  have key : ∀ n a, μ a < n → I a → G a := by
    intro n
    induction n with
    | zero => intro a h0; omega
    | succ n ih => exact fun a hn hi => h a hi (fun b hb hm => ih b (by omega) hb)
  exact fun a hi => key (μ a + 1) a (Nat.lt_succ_self _) hi
theorem jl_2 {A1 A2 : Type} (μ : A1 → A2 → Nat) (I G : A1 → A2 → Prop) (h : ∀ a1 a2, I a1 a2 → (∀ b1 b2, I b1 b2 → μ b1 b2 < μ a1 a2 → G b1 b2) → G a1 a2) : ∀ a1 a2, I a1 a2 → G a1 a2 := fun a1 a2 hi =>
  jl_1 (A1 := A1 × A2) (fun a => μ a.1 a.2) (fun a => I a.1 a.2) (fun a => G a.1 a.2) (fun a ha k => h a.1 a.2 ha (fun b1 b2 hb hm => k (b1, b2) hb hm)) (a1, a2) hi
theorem jl_3 {A1 A2 A3 : Type} (μ : A1 → A2 → A3 → Nat) (I G : A1 → A2 → A3 → Prop) (h : ∀ a1 a2 a3, I a1 a2 a3 → (∀ b1 b2 b3, I b1 b2 b3 → μ b1 b2 b3 < μ a1 a2 a3 → G b1 b2 b3) → G a1 a2 a3) : ∀ a1 a2 a3, I a1 a2 a3 → G a1 a2 a3 := fun a1 a2 a3 hi =>
  jl_1 (A1 := A1 × A2 × A3) (fun a => μ a.1 a.2.1 a.2.2) (fun a => I a.1 a.2.1 a.2.2) (fun a => G a.1 a.2.1 a.2.2) (fun a ha k => h a.1 a.2.1 a.2.2 ha (fun b1 b2 b3 hb hm => k (b1, b2, b3) hb hm)) (a1, a2, a3) hi
end
