/-! java.util.Arrays.fill of ints -/
set_option maxRecDepth 100000 in
set_option maxHeartbeats 4000000 in
theorem jc_fill (l : Launch) (D : va_G) (cI : ClassId) (a n : Nat) (f : Nat → Int32) (z : Int32) (hn : n < 2 ^ 31) : jkV l yJ7_fill wsJ7_fill ({ frames := 0, cells := 0, slots := 0, locals := 0 }) D vwCl [(cI, .int)] (fun g : Nat → Int32 => [(a, .inl (cI, n, .inl g))]) [.ref a, .int z] [(a, .inl (cI, n, .inl f))] (fun g => ∀ j, j < n → g j = z) := by
  refine jkV_of (cc := cJ7_fill) (maxL := 4) (ret := none) (by decide) rfl (Nat.le_of_ble_eq_true rfl) ?_
  intro p e R s m args below meth c Q A K hn9 hR9 hQ9
  show jaW p l e R s m args below meth c 0 0 Q D vwCl A 4 [(a, .inl (cI, n, .inl f))] [(0, .ref a), (1, .int z)] 0 []
  refine ja_iconst K (nI 0) dJ7_fill_0 (by decide) ?_
  refine ja_istore_n K (lv1 := [(0, .ref a), (1, .int z), (2, .int (nI 0))]) dJ7_fill_1 (by decide) rfl rfl ?_
  refine ja_aload_n K 0 dJ7_fill_2 rfl ?_
  refine ja_alen K 0 0 rfl rfl dJ7_fill_3 ?_
  refine ja_istore_n K (lv1 := [(0, .ref a), (1, .int z), (2, .int (nI 0)), (3, .int (nI n))]) dJ7_fill_4 (by decide) rfl rfl ?_
  have L5 : ∀ (i : Nat) (g : Nat → Int32), (i ≤ n ∧ ∀ j, j < i → g j = z) → jaW p l e R s m args below meth c 0 0 Q D vwCl A 4 [(a, .inl (cI, n, .inl g))] [(0, .ref a), (1, .int z), (2, .int (nI i)), (3, .int (nI n))] 5 [] := by
    refine jl_2 (fun (i : Nat) (g : Nat → Int32) => n - i) (fun (i : Nat) (g : Nat → Int32) => i ≤ n ∧ ∀ j, j < i → g j = z) _ ?_
    intro i g hI IH
    refine ja_iload_n K 2 dJ7_fill_5 rfl ?_
    refine ja_iload_n K 3 dJ7_fill_6 rfl ?_
    refine ja_icmp_ge K (tgt := 20) (n ≤ i) dJ7_fill_7 (by decide) (nI_leI (by omega) (by omega)) (fun h7 => ?_) (fun h7 => ?_)
    · exact ja_vret K g rfl (Nat.zero_le _) (Nat.zero_le _) dJ7_fill_20 hQ9 rfl (fun j hj => hI.2 j (by omega))
    · refine ja_aload_n K 0 dJ7_fill_10 rfl ?_
      refine ja_iload_n K 2 dJ7_fill_11 rfl ?_
      refine ja_iload_n K 1 dJ7_fill_12 rfl ?_
      refine ja_iast K (ws1 := [(a, .inl (cI, n, .inl (upd g i z)))]) 0 0 rfl rfl i rfl (by omega) hn dJ7_fill_13 rfl ?_
      refine ja_iinc K (lv1 := [(0, .ref a), (1, .int z), (2, .int (nI (i + 1))), (3, .int (nI n))]) 2 (nI (i + 1)) dJ7_fill_14 rfl (ja_inc _) (by decide) rfl rfl ?_
      refine ja_goto K (tgt := 5) dJ7_fill_17 (by decide) ?_
      refine IH (i + 1) (upd g i z) ⟨by omega, fun j hj => ?_⟩ (by omega)
      by_cases e1 : j = i
      · subst e1; exact pk_us
      · rw [pk_un e1]; exact hI.2 j (by omega)
  exact L5 0 f ⟨Nat.zero_le _, fun j hj => absurd hj (Nat.not_lt_zero _)⟩
