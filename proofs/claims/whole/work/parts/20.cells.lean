/-! The cells of both sides. -/
/-- the numbers and the rows of one side, by their places: nodeCount times samples parents siteCount sitePlaces ancestrals mutations newNumbers carried mattering tally row -/
abbrev JX : Type := (Nat → Int32) × (Nat → Nat → Int32)
def jxN (u : JX) : Int32 := u.1 0
def jxsN (u : JX) (z : Int32) : JX := (fun k => if k = 0 then z else u.1 k, u.2)
def jxT (u : JX) : Nat → Int32 := u.2 0
def jxsT (u : JX) (z : Nat → Int32) : JX := (u.1, fun k => if k = 0 then z else u.2 k)
def jxM (u : JX) : Nat → Int32 := u.2 1
def jxsM (u : JX) (z : Nat → Int32) : JX := (u.1, fun k => if k = 1 then z else u.2 k)
def jxU (u : JX) : Nat → Int32 := u.2 2
def jxsU (u : JX) (z : Nat → Int32) : JX := (u.1, fun k => if k = 2 then z else u.2 k)
def jxK (u : JX) : Int32 := u.1 1
def jxsK (u : JX) (z : Int32) : JX := (fun k => if k = 1 then z else u.1 k, u.2)
def jxP (u : JX) : Nat → Int32 := u.2 3
def jxsP (u : JX) (z : Nat → Int32) : JX := (u.1, fun k => if k = 3 then z else u.2 k)
def jxA (u : JX) : Nat → Int32 := u.2 4
def jxsA (u : JX) (z : Nat → Int32) : JX := (u.1, fun k => if k = 4 then z else u.2 k)
def jxL (u : JX) : Nat → Int32 := u.2 5
def jxsL (u : JX) (z : Nat → Int32) : JX := (u.1, fun k => if k = 5 then z else u.2 k)
def jxB (u : JX) : Nat → Int32 := u.2 6
def jxsB (u : JX) (z : Nat → Int32) : JX := (u.1, fun k => if k = 6 then z else u.2 k)
def jxC (u : JX) : Nat → Int32 := u.2 7
def jxsC (u : JX) (z : Nat → Int32) : JX := (u.1, fun k => if k = 7 then z else u.2 k)
def jxG (u : JX) : Nat → Int32 := u.2 8
def jxsG (u : JX) (z : Nat → Int32) : JX := (u.1, fun k => if k = 8 then z else u.2 k)
def jxY (u : JX) : Nat → Int32 := u.2 9
def jxsY (u : JX) (z : Nat → Int32) : JX := (u.1, fun k => if k = 9 then z else u.2 k)
def jxR (u : JX) : Nat → Int32 := u.2 10
def jxsR (u : JX) (z : Nat → Int32) : JX := (u.1, fun k => if k = 10 then z else u.2 k)
def jxR1 (S : JS) (u : JX) : Prop := jxN u = nI (jN S) ∧ (∀ i, i < jN S → jxT u i = nI (jT S i)) ∧ (∀ i, i < jN S → jxM u i = jbI (jM S i)) ∧ (∀ x c, x < 60 → c < 14 → jxU u (x * 14 + c) = jeI (jU S x c)) ∧ jxK u = nI (jK S) ∧ (∀ i, i < jK S → jxP u i = nI (jP S i)) ∧ (∀ i, i < jK S → jxA u i = nI (jA S i)) ∧ (∀ i c, i < 8 → c < 14 → jxL u (i * 14 + c) = jeI (jL S i c)) ∧ (∀ c, c < 14 → jxB u c = jeI (jB S c))
/-- the numbers and the rows of one side, by their places: fault nodes time sample parent sites placeOf ancestral mutation became nextParent nextMutation foundLeft foundRight foundParent foundChild -/
abbrev JM : Type := (Nat → Int32) × (Nat → Nat → Int32)
def jmF (u : JM) : Int32 := u.1 0
def jmsF (u : JM) (z : Int32) : JM := (fun k => if k = 0 then z else u.1 k, u.2)
def jmN (u : JM) : Int32 := u.1 1
def jmsN (u : JM) (z : Int32) : JM := (fun k => if k = 1 then z else u.1 k, u.2)
def jmT (u : JM) : Nat → Int32 := u.2 0
def jmsT (u : JM) (z : Nat → Int32) : JM := (u.1, fun k => if k = 0 then z else u.2 k)
def jmM (u : JM) : Nat → Int32 := u.2 1
def jmsM (u : JM) (z : Nat → Int32) : JM := (u.1, fun k => if k = 1 then z else u.2 k)
def jmU (u : JM) : Nat → Int32 := u.2 2
def jmsU (u : JM) (z : Nat → Int32) : JM := (u.1, fun k => if k = 2 then z else u.2 k)
def jmK (u : JM) : Int32 := u.1 2
def jmsK (u : JM) (z : Int32) : JM := (fun k => if k = 2 then z else u.1 k, u.2)
def jmP (u : JM) : Nat → Int32 := u.2 3
def jmsP (u : JM) (z : Nat → Int32) : JM := (u.1, fun k => if k = 3 then z else u.2 k)
def jmA (u : JM) : Nat → Int32 := u.2 4
def jmsA (u : JM) (z : Nat → Int32) : JM := (u.1, fun k => if k = 4 then z else u.2 k)
def jmL (u : JM) : Nat → Int32 := u.2 5
def jmsL (u : JM) (z : Nat → Int32) : JM := (u.1, fun k => if k = 5 then z else u.2 k)
def jmB (u : JM) : Nat → Int32 := u.2 6
def jmsB (u : JM) (z : Nat → Int32) : JM := (u.1, fun k => if k = 6 then z else u.2 k)
def jmV (u : JM) : Nat → Int32 := u.2 7
def jmsV (u : JM) (z : Nat → Int32) : JM := (u.1, fun k => if k = 7 then z else u.2 k)
def jmW (u : JM) : Nat → Int32 := u.2 8
def jmsW (u : JM) (z : Nat → Int32) : JM := (u.1, fun k => if k = 8 then z else u.2 k)
def jm1 (u : JM) : Int32 := u.1 3
def jms1 (u : JM) (z : Int32) : JM := (fun k => if k = 3 then z else u.1 k, u.2)
def jm2 (u : JM) : Int32 := u.1 4
def jms2 (u : JM) (z : Int32) : JM := (fun k => if k = 4 then z else u.1 k, u.2)
def jm3 (u : JM) : Int32 := u.1 5
def jms3 (u : JM) (z : Int32) : JM := (fun k => if k = 5 then z else u.1 k, u.2)
def jm4 (u : JM) : Int32 := u.1 6
def jms4 (u : JM) (z : Int32) : JM := (fun k => if k = 6 then z else u.1 k, u.2)
def jmR1 (S : JS) (v : JM) : Prop := jmN v = nI (jN S) ∧ (∀ i, i < jN S → jmT v i = nI (jT S i)) ∧ (∀ i, i < jN S → jmM v i = jbI (jM S i)) ∧ (∀ x c, x < 60 → c < jN S → jmU v (60 * c + x) = nI (joN (jU S x c))) ∧ jmK v = nI (jK S) ∧ (∀ i, i < jK S → jmP v i = nI (jP S i)) ∧ (∀ i, i < jK S → jmA v i = nI (jA S i)) ∧ (∀ i c, i < 8 → c < jN S → jmL v (14 * i + c) = nI (joN (jL S i c))) ∧ (∀ c, c < 14 → jmB v c = jeI (jB S c))
def jxt (cI cZ : ClassId) : List (ClassId × FieldType) := [(cI, .int), (cZ, .boolean)]
def jxc (q : Nat → Nat) (cI cZ : ClassId) (u : JX) : va_W := [(q 0, .inr (0, [.int (jxN u), .ref (q 1), .ref (q 2), .ref (q 3), .int (jxK u), .ref (q 4), .ref (q 5), .ref (q 6), .ref (q 7), .ref (q 8), .ref (q 9), .ref (q 10), .ref (q 11)])), (q 1, .inl (cI, 14, .inl (jxT u))), (q 2, .inl (cZ, 14, .inl (jxM u))), (q 3, .inl (cI, 840, .inl (jxU u))), (q 4, .inl (cI, 8, .inl (jxP u))), (q 5, .inl (cI, 8, .inl (jxA u))), (q 6, .inl (cI, 112, .inl (jxL u))), (q 7, .inl (cI, 14, .inl (jxB u))), (q 8, .inl (cI, 14, .inl (jxC u))), (q 9, .inl (cI, 60, .inl (jxG u))), (q 10, .inl (cI, 4, .inl (jxY u))), (q 11, .inl (cI, 14, .inl (jxR u)))]
def jmc (q : Nat → Nat) (cI cZ : ClassId) (u : JM) : va_W := [(q 0, .inr (1, [.int (jmF u), .int (jmN u), .ref (q 1), .ref (q 2), .ref (q 3), .int (jmK u), .ref (q 4), .ref (q 5), .ref (q 6), .ref (q 7), .ref (q 8), .ref (q 9), .int (jm1 u), .int (jm2 u), .int (jm3 u), .int (jm4 u)])), (q 1, .inl (cI, 14, .inl (jmT u))), (q 2, .inl (cZ, 14, .inl (jmM u))), (q 3, .inl (cI, 840, .inl (jmU u))), (q 4, .inl (cI, 8, .inl (jmP u))), (q 5, .inl (cI, 8, .inl (jmA u))), (q 6, .inl (cI, 112, .inl (jmL u))), (q 7, .inl (cI, 14, .inl (jmB u))), (q 8, .inl (cI, 840, .inl (jmV u))), (q 9, .inl (cI, 112, .inl (jmW u)))]
