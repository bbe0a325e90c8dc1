/-! Numbers and lists: what the sums and the orders of both sides come to. -/
theorem jct_add (P : Nat → Bool) (m k : Nat) : jct P (m + k) = jct P m + jct (fun c => P (m + c)) k := by
  induction k with
  | zero => rfl
  | succ k ih => show jct P (m + k) + (if P (m + k) then 1 else 0) = _; rw [ih]; simp only [jct]; omega
theorem jct_trunc {P : Nat → Bool} {n m : Nat} (hn : n ≤ m) (h : ∀ k, n ≤ k → k < m → P k = false) : jct P m = jct P n := by
  obtain ⟨d, rfl⟩ : ∃ d, m = n + d := ⟨m - n, by omega⟩
  rw [jct_add]
  have a : jct (fun c => P (n + c)) d = 0 := by
    rw [jct_sm]
    exact jsm_zero (fun k hk => by simp [h (n + k) (by omega) (by omega)])
  omega
theorem jsm_trunc {f : Nat → Nat} {n m : Nat} (hn : n ≤ m) (h : ∀ k, n ≤ k → k < m → f k = 0) : jsm f m = jsm f n := by
  induction m with
  | zero => rw [Nat.le_zero.mp hn]
  | succ m ih =>
    by_cases e : n = m + 1
    · rw [e]
    · simp only [jsm]
      rw [ih (by omega) (fun k h1 h2 => h k h1 (by omega)), h m (by omega) (by omega)]
      rfl
theorem jct_rows (P : Nat → Bool) (b a : Nat) : jct P (a * b) = jsm (fun i => jct (fun c => P (i * b + c)) b) a := by
  induction a with
  | zero => rw [Nat.zero_mul]; rfl
  | succ a ih => rw [Nat.succ_mul, jct_add, ih]; rfl
theorem jct_one {P : Nat → Bool} {n j : Nat} (hj : j < n) (hP : P j = true) (h : ∀ k, k < n → P k = true → k = j) : jct P n = 1 := by
  induction n with
  | zero => omega
  | succ n ih =>
    simp only [jct]
    by_cases e : j = n
    · subst e
      have a : jct P j = 0 := by
        rw [jct_sm]
        refine jsm_zero (fun k hk => ?_)
        cases hq : P k with
        | false => rfl
        | true => have := h k (by omega) hq; omega
      rw [a, hP]
      rfl
    · have a := ih (by omega) (fun k hk => h k (by omega))
      have b : P n = false := by
        cases hq : P n with
        | false => rfl
        | true => have := h n (by omega) hq; omega
      rw [a, b]
      rfl
/-- all mutations: over the rows of the component, and over what there is -/
def jcm (S : JS) : Nat := jsm (fun i => jct (fun c => (jL S i c).isSome) (jN S)) (jK S)
theorem jcm_eq {S : JS} (h : jWf S) : jct (fun i => (jL S (i / 14) (i % 14)).isSome) 112 = jcm S := by
  obtain ⟨wn, -, -, wk, -, wl, -⟩ := h
  have e : jct (fun i => (jL S (i / 14) (i % 14)).isSome) (8 * 14) = _ := jct_rows (fun i => (jL S (i / 14) (i % 14)).isSome) 14 8
  rw [show (112 : Nat) = 8 * 14 from rfl, e]
  have e2 : jsm (fun i => jct (fun c => (jL S ((i * 14 + c) / 14) ((i * 14 + c) % 14)).isSome) 14) 8 = jsm (fun i => jct (fun c => (jL S i c).isSome) (jN S)) 8 := by
    refine jsm_congr (fun i _ => ?_)
    rw [show jct (fun c => (jL S ((i * 14 + c) / 14) ((i * 14 + c) % 14)).isSome) 14 = jct (fun c => (jL S i c).isSome) 14 from jct_congr (fun c hc => by rw [show (i * 14 + c) / 14 = i by omega, show (i * 14 + c) % 14 = c by omega])]
    refine jct_trunc wn (fun k h1 _ => ?_)
    cases hl : jL S i k with
    | none => rfl
    | some a => have := (wl i k a hl).2.1; omega
  rw [e2]
  refine jsm_trunc wk (fun i h1 _ => ?_)
  rw [jct_sm]
  refine jsm_zero (fun k _ => ?_)
  cases hl : jL S i k with
  | none => rfl
  | some a => have := (wl i k a hl).1; omega
/-- pairs of different letters, by a tally -/
def jtal (sm : Nat → Bool) (f : Nat → Nat) (n a : Nat) : Nat := jct (fun c => sm c && f c == a) n
def jprs (sm : Nat → Bool) (f : Nat → Nat) (n : Nat) : Nat := jsm (fun a => jct (fun b => sm a && sm b && f a != f b) a) n
theorem jtal_ne (sm : Nat → Bool) (f : Nat → Nat) (hf : ∀ c, sm c = true → f c < 4) (n a : Nat) : jct (fun b => sm b && a != f b) n + jtal sm f n a = jtal sm f n 0 + jtal sm f n 1 + jtal sm f n 2 + jtal sm f n 3 ∨ 4 ≤ a := by
  by_cases ha : 4 ≤ a
  · exact Or.inr ha
  · refine Or.inl ?_
    induction n with
    | zero => rfl
    | succ n ih =>
      simp only [jtal, jct] at ih ⊢
      by_cases hs : sm n = true
      · have h4 := hf n hs
        have h5 : f n = 0 ∨ f n = 1 ∨ f n = 2 ∨ f n = 3 := by omega
        have h6 : a = 0 ∨ a = 1 ∨ a = 2 ∨ a = 3 := by omega
        rcases h5 with h5 | h5 | h5 | h5 <;> rcases h6 with h6 | h6 | h6 | h6 <;> subst h6 <;> simp [hs, h5] <;> omega
      · simp only [Bool.not_eq_true] at hs
        simp [hs]
        omega
theorem jprs_eq (sm : Nat → Bool) (f : Nat → Nat) (hf : ∀ c, sm c = true → f c < 4) (n : Nat) : jprs sm f n = jtal sm f n 0 * jtal sm f n 1 + (jtal sm f n 0 + jtal sm f n 1) * jtal sm f n 2 + (jtal sm f n 0 + jtal sm f n 1 + jtal sm f n 2) * jtal sm f n 3 := by
  induction n with
  | zero => rfl
  | succ n ih =>
    have e : jprs sm f (n + 1) = jprs sm f n + jct (fun b => sm n && sm b && f n != f b) n := rfl
    have t : ∀ a, jtal sm f (n + 1) a = jtal sm f n a + (if (sm n && f n == a) = true then 1 else 0) := fun a => rfl
    rw [e, ih, t, t, t, t]
    by_cases hs : sm n = true
    · have h4 := hf n hs
      rcases jtal_ne sm f hf n (f n) with h | h
      · simp only [hs, Bool.true_and]
        generalize jct (fun b => sm b && f n != f b) n = g at h ⊢
        generalize e0 : jtal sm f n 0 = t0 at h ⊢
        generalize e1 : jtal sm f n 1 = t1 at h ⊢
        generalize e2 : jtal sm f n 2 = t2 at h ⊢
        generalize e3 : jtal sm f n 3 = t3 at h ⊢
        have h5 : f n = 0 ∨ f n = 1 ∨ f n = 2 ∨ f n = 3 := by omega
        rcases h5 with h5 | h5 | h5 | h5 <;> simp only [h5, e0, e1, e2, e3] at h ⊢ <;> simp [Nat.add_mul, Nat.mul_add] <;> omega
      · omega
    · simp only [Bool.not_eq_true] at hs
      simp only [hs]
      have z : jct (fun b => false && sm b && f n != f b) n = 0 := by
        rw [jct_sm]
        exact jsm_zero (fun k _ => by simp)
      rw [z]
      simp
/-- where an edge begins; the edges of a parent; all edges in their order -/
def jst (up : Nat → Nat → Option Nat) (x c : Nat) : Bool := (up x c).isSome && (x == 0 || up (x - 1) c != up x c)
def jeX (up : Nat → Nat → Option Nat) (p c x : Nat) : List (Nat × Nat) := if up x c == some p && jst up x c then [(x, c)] else []
def jeP (n : Nat) (up : Nat → Nat → Option Nat) (p : Nat) : List (Nat × Nat) := jfl (fun c => jfl (fun x => jeX up p c x) 60) n
def jeT (n : Nat) (t : Nat → Nat) (up : Nat → Nat → Option Nat) (k : Nat) : List (Nat × Nat) := jfl (fun p => if t p == k then jeP n up p else []) n
def jeA (n : Nat) (t : Nat → Nat) (up : Nat → Nat → Option Nat) : List (Nat × Nat) := jfl (fun k => jeT n t up k) 1001
def jlt (t : Nat → Nat) (a b : Nat) : Bool := decide (t a < t b) || (t a == t b && decide (a < b))
def jnx (t : Nat → Nat) (o : Option Nat) : Nat → Option Nat
  | 0 => none
  | m + 1 => if o.all (fun a => jlt t a m) && (jnx t o m).all (fun b => jlt t m b) then some m else jnx t o m
def jeR (n : Nat) (t : Nat → Nat) (up : Nat → Nat → Option Nat) : Nat → Option Nat → List (Nat × Nat)
  | 0, _ => []
  | _ + 1, none => []
  | k + 1, some p => jeP n up p ++ jeR n t up k (jnx t (some p) n)
def jod (n : Nat) (t : Nat → Nat) : List Nat := jfl (fun k => jfl (fun p => if t p == k then [p] else []) n) 1001
theorem jfl_mem {α : Type} {f : Nat → List α} {n : Nat} {a : α} : a ∈ jfl f n ↔ ∃ k, k < n ∧ a ∈ f k := by
  induction n with
  | zero => simp [jfl]
  | succ n ih =>
    simp only [jfl, List.mem_append, ih]
    constructor
    · rintro (⟨k, h1, h2⟩ | h)
      · exact ⟨k, by omega, h2⟩
      · exact ⟨n, by omega, h⟩
    · rintro ⟨k, h1, h2⟩
      by_cases e : k = n
      · subst e; exact Or.inr h2
      · exact Or.inl ⟨k, by omega, h2⟩
theorem jfl_pw {α : Type} {R : α → α → Prop} {f : Nat → List α} {n : Nat} (h1 : ∀ k, k < n → (f k).Pairwise R) (h2 : ∀ i j, i < j → j < n → ∀ a ∈ f i, ∀ b ∈ f j, R a b) : (jfl f n).Pairwise R := by
  induction n with
  | zero => simp [jfl]
  | succ n ih =>
    simp only [jfl, List.pairwise_append]
    refine ⟨ih (fun k hk => h1 k (by omega)) (fun i j hi hj => h2 i j hi (by omega)), h1 n (by omega), fun a ha b hb => ?_⟩
    obtain ⟨k, hk, hka⟩ := jfl_mem.mp ha
    exact h2 k n hk (by omega) a hka b hb
theorem jfl_flat {α β : Type} (g : α → List β) (f : Nat → List α) (n : Nat) : (jfl f n).flatMap g = jfl (fun k => (f k).flatMap g) n := by
  induction n with
  | zero => rfl
  | succ n ih => simp only [jfl, List.flatMap_append, ih]
theorem jfl_congr {α : Type} {f g : Nat → List α} {n : Nat} (h : ∀ k, k < n → f k = g k) : jfl f n = jfl g n := by
  induction n with
  | zero => rfl
  | succ n ih => simp only [jfl]; rw [ih (fun k hk => h k (by omega)), h n (by omega)]
theorem jod_flat (n : Nat) (t : Nat → Nat) (up : Nat → Nat → Option Nat) : (jod n t).flatMap (jeP n up) = jeA n t up := by
  simp only [jod, jeA, jeT]
  rw [jfl_flat]
  refine jfl_congr (fun k _ => ?_)
  rw [jfl_flat]
  refine jfl_congr (fun p _ => ?_)
  split <;> simp
theorem jod_mem {n : Nat} {t : Nat → Nat} (ht : ∀ i, i < n → t i ≤ 1000) {p : Nat} : p ∈ jod n t ↔ p < n := by
  simp only [jod, jfl_mem]
  constructor
  · rintro ⟨k, -, p', h1, h2⟩
    split at h2
    · simp only [List.mem_singleton] at h2
      omega
    · simp at h2
  · intro h
    exact ⟨t p, by have := ht p h; omega, p, h, by simp⟩
theorem jod_pw (n : Nat) (t : Nat → Nat) : (jod n t).Pairwise (fun a b => jlt t a b = true) := by
  refine jfl_pw (fun k _ => ?_) (fun i j hij _ a ha b hb => ?_)
  · refine jfl_pw (fun p _ => by split <;> simp) (fun i j hij _ a ha b hb => ?_)
    split at ha
    · split at hb
      · rename_i h1 h2
        simp only [List.mem_singleton] at ha hb
        subst ha; subst hb
        simp only [beq_iff_eq] at h1 h2
        simp [jlt, h1, h2, hij]
      · simp at hb
    · simp at ha
  · obtain ⟨p, -, h1⟩ := jfl_mem.mp ha
    obtain ⟨p', -, h2⟩ := jfl_mem.mp hb
    split at h1
    · split at h2
      · rename_i e1 e2
        simp only [List.mem_singleton] at h1 h2
        subst h1; subst h2
        simp only [beq_iff_eq] at e1 e2
        simp [jlt]
        omega
      · simp at h2
    · simp at h1
theorem jlt_asym {t : Nat → Nat} {a b : Nat} (h : jlt t a b = true) : jlt t b a = false := by
  simp only [jlt, Bool.or_eq_true, Bool.and_eq_true, decide_eq_true_eq, beq_iff_eq] at h
  cases hb : jlt t b a with
  | false => rfl
  | true =>
    simp only [jlt, Bool.or_eq_true, Bool.and_eq_true, decide_eq_true_eq, beq_iff_eq] at hb
    omega
theorem jlt_irr (t : Nat → Nat) (a : Nat) : jlt t a a = false := by simp [jlt]
theorem jlt_trans {t : Nat → Nat} {a b c : Nat} (h1 : jlt t a b = true) (h2 : jlt t b c = true) : jlt t a c = true := by
  simp only [jlt, Bool.or_eq_true, Bool.and_eq_true, decide_eq_true_eq, beq_iff_eq] at h1 h2 ⊢
  omega
theorem jlt_tot {t : Nat → Nat} {a b : Nat} (h : a ≠ b) : jlt t a b = true ∨ jlt t b a = true := by
  simp only [jlt, Bool.or_eq_true, Bool.and_eq_true, decide_eq_true_eq, beq_iff_eq]
  omega
/-- the least behind o, of those below m -/
theorem jnx_spec (t : Nat → Nat) (o : Option Nat) (m : Nat) : (∀ b, jnx t o m = some b → b < m ∧ o.all (fun a => jlt t a b) = true ∧ ∀ x, x < m → o.all (fun a => jlt t a x) = true → x = b ∨ jlt t b x = true) ∧ (jnx t o m = none → ∀ x, x < m → o.all (fun a => jlt t a x) = false) := by
  induction m with
  | zero => exact ⟨fun b h => by simp [jnx] at h, fun _ x hx => by omega⟩
  | succ m ih =>
    obtain ⟨i1, i2⟩ := ih
    simp only [jnx]
    cases ho : o.all (fun a => jlt t a m) with
    | false =>
      simp only [Bool.false_and, Bool.false_eq_true, if_false]
      refine ⟨fun b hb => ?_, fun hn x hx => ?_⟩
      · obtain ⟨h1, h2, h3⟩ := i1 b hb
        refine ⟨by omega, h2, fun x hx hxo => ?_⟩
        by_cases e : x = m
        · subst e; rw [ho] at hxo; cases hxo
        · exact h3 x (by omega) hxo
      · by_cases e : x = m
        · subst e; exact ho
        · exact i2 hn x (by omega)
    | true =>
      cases hn : jnx t o m with
      | none =>
        simp only [Option.all_none, Bool.and_self, if_true]
        refine ⟨fun b hb => ?_, fun h => by cases h⟩
        cases hb
        refine ⟨by omega, ho, fun x hx hxo => ?_⟩
        by_cases e : x = m
        · exact Or.inl e
        · rw [i2 hn x (by omega)] at hxo; cases hxo
      | some b0 =>
        obtain ⟨h1, h2, h3⟩ := i1 b0 hn
        cases hc : jlt t m b0 with
        | true =>
          simp only [Option.all_some, hc, Bool.and_self, if_true]
          refine ⟨fun b hb => ?_, fun h => by cases h⟩
          cases hb
          refine ⟨by omega, ho, fun x hx hxo => ?_⟩
          by_cases e : x = m
          · exact Or.inl e
          · rcases h3 x (by omega) hxo with rfl | h4
            · exact Or.inr hc
            · exact Or.inr (jlt_trans hc h4)
        | false =>
          simp only [Option.all_some, hc, Bool.and_false, Bool.false_eq_true, if_false]
          refine ⟨fun b hb => ?_, fun h => by cases h⟩
          cases hb
          refine ⟨by omega, h2, fun x hx hxo => ?_⟩
          by_cases e : x = m
          · subst e
            rcases jlt_tot (t := t) (show x ≠ b0 by omega) with h4 | h4
            · rw [hc] at h4; cases h4
            · exact Or.inr h4
          · exact h3 x (by omega) hxo
theorem jnx_next {n : Nat} {t : Nat → Nat} {o : Option Nat} {suf : List Nat} (hs : suf.Pairwise (fun a b => jlt t a b = true)) (h1 : ∀ x, x ∈ suf ↔ x < n ∧ o.all (fun a => jlt t a x) = true) : jnx t o n = suf.head? := by
  obtain ⟨i1, i2⟩ := jnx_spec t o n
  cases hj : jnx t o n with
  | none =>
    cases suf with
    | nil => rfl
    | cons a r =>
      obtain ⟨h2, h3⟩ := (h1 a).mp List.mem_cons_self
      rw [i2 hj a h2] at h3
      cases h3
  | some b =>
    obtain ⟨h2, h3, h4⟩ := i1 b hj
    cases suf with
    | nil => exact absurd ((h1 b).mpr ⟨h2, h3⟩) List.not_mem_nil
    | cons a r =>
      have hb := (h1 b).mpr ⟨h2, h3⟩
      obtain ⟨ha, hao⟩ := (h1 a).mp List.mem_cons_self
      rcases List.mem_cons.mp hb with rfl | hb
      · rfl
      · have h5 := (List.pairwise_cons.mp hs).1 b hb
        rcases h4 a ha hao with rfl | h6
        · rw [jlt_irr] at h5; cases h5
        · rw [jlt_asym h5] at h6; cases h6
theorem jeR_run {n : Nat} {t : Nat → Nat} (ht : ∀ i, i < n → t i ≤ 1000) (up : Nat → Nat → Option Nat) : ∀ (k : Nat) (pre suf : List Nat), jod n t = pre ++ suf → suf.length ≤ k → jeR n t up k suf.head? = suf.flatMap (jeP n up) := by
  intro k
  induction k with
  | zero =>
    intro pre suf _ h2
    rw [List.length_eq_zero_iff.mp (Nat.le_zero.mp h2)]
    rfl
  | succ k ih =>
    intro pre suf h1 h2
    cases suf with
    | nil => rfl
    | cons p r =>
      have pw := jod_pw n t
      rw [h1] at pw
      obtain ⟨p1, p2, p3⟩ := List.pairwise_append.mp pw
      obtain ⟨p4, p5⟩ := List.pairwise_cons.mp p2
      have e : jnx t (some p) n = r.head? := by
        refine jnx_next p5 (fun x => ?_)
        simp only [Option.all_some]
        constructor
        · intro hx
          refine ⟨(jod_mem ht).mp (h1 ▸ List.mem_append_right _ (List.mem_cons_of_mem _ hx)), p4 x hx⟩
        · rintro ⟨hx, hl⟩
          have hm : x ∈ pre ++ p :: r := h1 ▸ (jod_mem ht).mpr hx
          rcases List.mem_append.mp hm with h3 | h3
          · have h4 := p3 x h3 p List.mem_cons_self
            rw [jlt_asym h4] at hl
            cases hl
          · rcases List.mem_cons.mp h3 with rfl | h3
            · rw [jlt_irr] at hl; cases hl
            · exact h3
      simp only [List.head?_cons, jeR, List.flatMap_cons]
      rw [e, ih (pre ++ [p]) r (by rw [h1]; simp) (by simp at h2; omega)]
theorem jod_len {n : Nat} {t : Nat → Nat} (ht : ∀ i, i < n → t i ≤ 1000) : (jod n t).length = n := by
  simp only [jod, jfl_len]
  have e : jsm (fun k => jsm (fun p => (if t p == k then [p] else [] : List Nat).length) n) 1001 = jsm (fun p => jsm (fun k => (if t p == k then [p] else [] : List Nat).length) 1001) n := jsm_swap _ _ _
  rw [e]
  have e2 : jsm (fun p => jsm (fun k => (if t p == k then [p] else [] : List Nat).length) 1001) n = jsm (fun _ => 1) n := by
    refine jsm_congr (fun p hp => ?_)
    have e3 : jsm (fun k => (if t p == k then [p] else [] : List Nat).length) 1001 = jct (fun k => t p == k) 1001 := by
      rw [jct_sm]
      exact jsm_congr (fun k _ => by split <;> simp)
    rw [e3]
    exact jct_one (j := t p) (by have := ht p hp; omega) (by simp) (fun k _ hk => (eq_of_beq hk).symm)
  rw [e2]
  clear e e2 ht
  induction n with
  | zero => rfl
  | succ n ih => simp only [jsm, ih]
/-- the order of the component and that of the reference are one -/
theorem jeR_eq {n : Nat} {t : Nat → Nat} (hn : n ≤ 14) (ht : ∀ i, i < n → t i ≤ 1000) (up : Nat → Nat → Option Nat) : jeR n t up 14 (jnx t none n) = jeA n t up := by
  have e : jnx t none n = (jod n t).head? := jnx_next (jod_pw n t) (fun x => by rw [jod_mem ht]; simp)
  rw [e, jeR_run ht up 14 [] (jod n t) (List.nil_append _).symm (by rw [jod_len ht]; exact hn), jod_flat]
/-- how many edges there are -/
theorem jeA_len {n : Nat} {t : Nat → Nat} {up : Nat → Nat → Option Nat} (ht : ∀ i, i < n → t i ≤ 1000) (hu : ∀ x c p, up x c = some p → c < n ∧ p < n ∧ t c < t p) : (jeA n t up).length = jsm (fun x => jct (fun c => jst up x c) n) 60 := by
  have h1 : (jeA n t up).length = jsm (fun k => jsm (fun p => if t p == k then (jeP n up p).length else 0) n) 1001 := by
    simp only [jeA, jeT, jfl_len]
    refine jsm_congr (fun k _ => jsm_congr (fun p _ => ?_))
    split <;> rfl
  have h2 : jsm (fun k => jsm (fun p => if t p == k then (jeP n up p).length else 0) n) 1001 = jsm (fun p => (jeP n up p).length) n := by
    rw [jsm_swap]
    refine jsm_congr (fun p hp => ?_)
    have a : ∀ m, jsm (fun k => if t p == k then (jeP n up p).length else 0) m = jct (fun k => t p == k) m * (jeP n up p).length := by
      intro m
      induction m with
      | zero => simp [jsm, jct]
      | succ m ih =>
        simp only [jsm, jct, ih]
        split <;> simp [Nat.add_mul]
    rw [a, jct_one (j := t p) (by have := ht p hp; omega) (by simp) (fun k _ hk => (eq_of_beq hk).symm), Nat.one_mul]
  have h3 : jsm (fun p => (jeP n up p).length) n = jsm (fun p => jsm (fun c => jsm (fun x => (jeX up p c x).length) 60) n) n := by
    refine jsm_congr (fun p _ => ?_)
    simp only [jeP, jfl_len]
  rw [h1, h2, h3, jsm_swap]
  have h4 : jsm (fun c => jsm (fun p => jsm (fun x => (jeX up p c x).length) 60) n) n = jsm (fun c => jsm (fun x => if jst up x c then 1 else 0) 60) n := by
    refine jsm_congr (fun c _ => ?_)
    rw [jsm_swap]
    refine jsm_congr (fun x _ => ?_)
    cases hs : jst up x c with
    | false => exact jsm_zero (fun p _ => by simp [jeX, hs])
    | true =>
      have hs2 := hs
      simp only [jst, Bool.and_eq_true] at hs2
      obtain ⟨p, hp⟩ := Option.isSome_iff_exists.mp hs2.1
      have e3 : jsm (fun p => (jeX up p c x).length) n = jct (fun p' => p' == p) n := by
        rw [jct_sm]
        refine jsm_congr (fun p' _ => ?_)
        simp only [jeX, hs, hp, Bool.and_true]
        by_cases e : p' = p
        · subst e; simp
        · simp [e, Ne.symm e]
      rw [e3]
      exact jct_one (j := p) (hu x c p hp).2.1 (by simp) (fun k _ hk => by simpa using hk)
  rw [h4, jsm_swap]
  exact jsm_congr (fun x _ => (jct_sm _ _).symm)
