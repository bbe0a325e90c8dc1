/-! More values. -/
theorem jin_tt {z : Int32} {n : Nat} (h1 : ¬ z < 0) (h2 : z < nI n) : jin z n = true := by
  simp only [jin, decide_eq_true_eq]
  rw [Int32.lt_iff_toInt_lt] at h1
  refine ⟨?_, h2⟩
  rw [Int32.le_iff_toInt_le]
  omega
theorem jin_ff1 {z : Int32} {n : Nat} (h1 : z < 0) : jin z n = false := by
  simp only [jin, decide_eq_false_iff_not]
  rw [Int32.lt_iff_toInt_lt] at h1
  rw [Int32.le_iff_toInt_le]
  omega
theorem jin_ff2 {z : Int32} {n : Nat} (h2 : ¬ z < nI n) : jin z n = false := by
  simp only [jin, decide_eq_false_iff_not]
  exact fun h => h2 h.2
def jbec (S : JS) (z : Int32) : Option Nat := if jin z 14 = true then jB S z.toNatClampNeg else none
theorem jbec_f1 {S : JS} {z : Int32} (h : z < 0) : jeI (jbec S z) = -1 := by rw [jbec, jin_ff1 h]; rfl
theorem jbec_f2 {S : JS} {z : Int32} (h : ¬ z < nI 14) : jeI (jbec S z) = -1 := by rw [jbec, jin_ff2 h]; rfl
theorem jbec_t {S : JS} {j : Nat} (h : j < 14) : jbec S (nI j) = jB S j := by
  rw [jbec, jin_nI (by omega) (by omega), nI_clamp (by omega)]
  simp [h]
/-- a run begins at x -/
def jsr (S : JS) (x : Nat) : Bool := x == 0 || jany (fun c => jU S x c != jU S (x - 1) c) (jN S)
/-- the first from e on, of k, that has P no more -/
def jene (P : Nat → Bool) : Nat → Nat → Nat
  | 0, e => e
  | k + 1, e => if P e then jene P k (e + 1) else e
def jend (S : JS) (x c : Nat) : Nat := jene (fun e => jU S e c == jU S x c) (60 - (x + 1)) (x + 1)
theorem jz_eq {a : Nat} (h : a < 2 ^ 31) : nI a = 0 ↔ a = 0 := by rw [← nI_0]; exact nI_eq h (by omega)
theorem jz_lt {a : Nat} (h : a < 2 ^ 31) : nI a < 0 ↔ a < 0 := by rw [← nI_0]; exact nI_ltI h (by omega)
theorem jz_ge {a : Nat} (h : a < 2 ^ 31) : 0 ≤ nI a ↔ 0 ≤ a := by rw [← nI_0]; exact nI_leI (by omega) h
theorem jz_gt {a : Nat} (h : a < 2 ^ 31) : 0 < nI a ↔ 0 < a := by rw [← nI_0]; exact nI_ltI (by omega) h
theorem jz_le {a : Nat} (h : a < 2 ^ 31) : nI a ≤ 0 ↔ a ≤ 0 := by rw [← nI_0]; exact nI_leI h (by omega)
theorem jl_4 {A1 A2 A3 A4 : Type} (μ : A1 → A2 → A3 → A4 → Nat) (I G : A1 → A2 → A3 → A4 → Prop) (h : ∀ a1 a2 a3 a4, I a1 a2 a3 a4 → (∀ b1 b2 b3 b4, I b1 b2 b3 b4 → μ b1 b2 b3 b4 < μ a1 a2 a3 a4 → G b1 b2 b3 b4) → G a1 a2 a3 a4) : ∀ a1 a2 a3 a4, I a1 a2 a3 a4 → G a1 a2 a3 a4 := fun a1 a2 a3 a4 hi =>
  jl_1 (A1 := A1 × A2 × A3 × A4) (fun a => μ a.1 a.2.1 a.2.2.1 a.2.2.2) (fun a => I a.1 a.2.1 a.2.2.1 a.2.2.2) (fun a => G a.1 a.2.1 a.2.2.1 a.2.2.2) (fun a ha k => h a.1 a.2.1 a.2.2.1 a.2.2.2 ha (fun b1 b2 b3 b4 hb hm => k (b1, b2, b3, b4) hb hm)) (a1, a2, a3, a4) hi
theorem jtal_f {sm : Nat → Bool} {f : Nat → Nat} {i : Nat} (h : sm i = false) (a : Nat) : jtal sm f (i + 1) a = jtal sm f i a := by simp [jtal, jct, h]
theorem jtal_t {sm : Nat → Bool} {f : Nat → Nat} {i : Nat} (h : sm i = true) : jtal sm f (i + 1) (f i) = jtal sm f i (f i) + 1 := by simp [jtal, jct, h]
theorem jtal_n {sm : Nat → Bool} {f : Nat → Nat} {i a : Nat} (h : sm i = true) (ha : a ≠ f i) : jtal sm f (i + 1) a = jtal sm f i a := by simp [jtal, jct, h, Ne.symm ha]
def jlf (S : JS) (i c : Nat) : Nat := jlet (jU S (jP S i)) (jL S i) (jA S i) c
theorem jlf_lt {S : JS} (h : jWf S) {i : Nat} (hi : i < jK S) (c : Nat) : jlf S i c < 4 := by
  simp only [jlf, jlet]
  split
  · exact (h.2.2.2.2.1 i hi).2
  · rename_i x hx
    cases e : jL S i x with
    | none => simp
    | some a => simpa using (h.2.2.2.2.2.1 i x a e).2.2
def jundS (S : JS) (x c : Nat) : Nat := junder (jN S) (jM S) (jU S x) c
theorem jacyc {n : Nat} {t : Nat → Nat} {up : Nat → Option Nat} (h : jup n t up) (d y : Nat) : jpF up (fun z => z == y) d (up y) = none := by
  cases e : jpF up (fun z => z == y) d (up y) with
  | none => rfl
  | some x =>
    cases e2 : up y with
    | none => rw [e2, jpF_none] at e; cases e
    | some z =>
      rw [e2] at e
      have a := jpF_time h e2 e
      have b := jpF_P e
      simp at b
      subst b
      omega
/-- one step of counting who is carried -/
theorem jcar_step {n : Nat} {t : Nat → Nat} {up : Nat → Option Nat} (h : jup n t up) {e T : Nat → Nat} {d y : Nat} (H : ∀ c, e c + (if (jpF up (fun z => z == c) (d + 1) (some y)).isSome then 1 else 0) = T c) (c : Nat) : (if c = y then e y + 1 else e c) + (if (jpF up (fun z => z == c) d (up y)).isSome then 1 else 0) = T c := by
  have a := H c
  by_cases q : c = y
  · subst q
    simp only [jpF, beq_self_eq_true, if_true, Option.isSome_some] at a
    simp only [jacyc h, if_true]
    simpa using a
  · have e1 : jpF up (fun z => z == c) (d + 1) (some y) = jpF up (fun z => z == c) d (up y) := by
      simp only [jpF]
      rw [if_neg (by simpa using Ne.symm q)]
    rw [e1] at a
    rw [if_neg q]
    exact a
theorem jbit_or {B i c : Nat} : (B ||| 2 ^ i).testBit c = (B.testBit c || decide (i = c)) := by rw [Nat.testBit_or, Nat.testBit_two_pow]
theorem jnI_or (a b : Nat) : nI a ||| nI b = nI (a ||| b) := by
  apply Int32.toBitVec_inj.mp
  show (BitVec.ofNat 32 a) ||| (BitVec.ofNat 32 b) = BitVec.ofNat 32 (a ||| b)
  rw [BitVec.ofNat_or]
theorem jone_shl : ∀ i, i < 14 → (nI 1) <<< (nI i &&& 31) = nI (2 ^ i) := by decide
theorem jsh31 : ∀ i, i < 14 → ((nI i &&& 31).toBitVec.smod 32).toNat = i := by decide
theorem jbit_get {B i : Nat} (hB : B < 16384) (hi : i < 14) : ((nI B >>> (nI i &&& 31)) &&& nI 1 = nI 1) ↔ B.testBit i = true := by
  rw [pk_shrN (by omega) _ i (jsh31 i hi)]
  have h1 : B / 2 ^ i ≤ B := Nat.div_le_self _ _
  rw [pk_andN (by omega) (k := 1) (by decide), nI_eq (by omega) (by omega), Nat.testBit_eq_decide_div_mod_eq]
  simp
def jbt (S : JS) (x B : Nat) : Prop := B < 16384 ∧ ∀ c, B.testBit c = (decide (c < jN S) && jmatS S x c)
def jdif (S : JS) : Nat := jsm (fun i => jprs (jM S) (jlf S i) (jN S)) (jK S)
theorem jdif_4 {S : JS} (h : jWf S) {i : Nat} (hi : i < jK S) : jsm (fun a => jsm (fun b => jtal (jM S) (jlf S i) (jN S) b) a * jtal (jM S) (jlf S i) (jN S) a) 4 = jprs (jM S) (jlf S i) (jN S) := by
  rw [jprs_eq (jM S) (jlf S i) (fun c _ => jlf_lt h hi c)]
  simp [jsm]
def jspec (S : JS) (z : Int32) : Nat := if nI 1 ≤ z then jsm (fun i => jct (fun a => a != jA S i && decide (nI (jtal (jM S) (jlf S i) (jN S) a) = z)) 4) (jK S) else 0
def jarT (S : JS) (x c : Nat) : Int32 := match jU S x c with
  | some p => if 0 < jundS S x c ∧ jundS S x c < jct (jM S) (jN S) then nI (jT S p) - nI (jT S c) else 0
  | none => 0
def jarI (S : JS) (x : Nat) : Nat → Int32
  | 0 => 0
  | c + 1 => jarI S x c + jarT S x c
def jar (S : JS) : Nat → Int32
  | 0 => 0
  | x + 1 => jar S x + jarI S x (jN S)
def jcount (S : JS) (z : Int32) : Int32 := if z = nI 0 then nI (jN S) else if z = nI 1 then nI (jct (jM S) (jN S)) else if z = nI 2 then nI (jsm (fun x => jct (fun c => jst (jU S) x c) (jN S)) 60) else if z = nI 3 then nI (jK S) else if z = nI 4 then nI (jcm S) else -1
theorem jsw5 (z : Int32) : z = nI 0 ∨ z = nI 1 ∨ z = nI 2 ∨ z = nI 3 ∨ z = nI 4 ∨ ((z.toInt < 0 ∨ 4 < z.toInt) ∧ ¬ z = nI 0 ∧ ¬ z = nI 1 ∧ ¬ z = nI 2 ∧ ¬ z = nI 3 ∧ ¬ z = nI 4) := by
  by_cases h0 : z = nI 0
  · exact Or.inl h0
  · by_cases h1 : z = nI 1
    · exact Or.inr (Or.inl h1)
    · by_cases h2 : z = nI 2
      · exact Or.inr (Or.inr (Or.inl h2))
      · by_cases h3 : z = nI 3
        · exact Or.inr (Or.inr (Or.inr (Or.inl h3)))
        · by_cases h4 : z = nI 4
          · exact Or.inr (Or.inr (Or.inr (Or.inr (Or.inl h4))))
          · refine Or.inr (Or.inr (Or.inr (Or.inr (Or.inr ⟨?_, h0, h1, h2, h3, h4⟩))))
            have g : ∀ k : Nat, k < 5 → ¬ z = nI k → ¬ z.toInt = k := fun k hk hz q => hz (Int32.toInt_inj.mp (by rw [nI_toInt (by omega)]; exact q))
            have g0 := g 0 (by omega) h0
            have g1 := g 1 (by omega) h1
            have g2 := g 2 (by omega) h2
            have g3 := g 3 (by omega) h3
            have g4 := g 4 (by omega) h4
            omega
