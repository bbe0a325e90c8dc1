set_option maxRecDepth 100000 in
set_option maxHeartbeats 4000000 in
theorem jd_isNode (l : Launch) (D : va_G) (q : Nat → Nat) (cI cZ : ClassId) (S : JS) (u : JM) (hW9 : jWf S) (hS9 : jmR1 S u) (z : Int32) : jkI l yX1_isNode wsX1_isNode ({ frames := 0, cells := 0, slots := 0, locals := 0 }) D vwCl (jxt cI cZ) (jmc q cI cZ) [.ref (q 0), .int z] (jmc q cI cZ u) (fun r u1 => jbI (jin z (jN S)) = r ∧ u = u1) := by
  refine jkI_of (cc := cX1_isNode) (maxL := 2) (ret := (some .boolean)) (by decide) rfl (Nat.le_of_ble_eq_true rfl) ?_
  intro p e R s m args below meth c Q A K hn9 hR9 hQ9
  obtain ⟨rN, rT, rM, rU, rK, rP, rA, rL, rB⟩ := id hS9
  obtain ⟨wn, wt, wu, wk, wp, wl, wb⟩ := id hW9
  have hu9 : ∀ w ∈ u_ws RX1 TX1 16, w ∈ wsX1_isNode := fun w h => List.mem_cons_of_mem _ (ku_X1 w h)
  show jaW p l e R s m args below meth c 0 0 Q D vwCl A 2 (jmc q cI cZ u) [(0, .ref (q 0)), (1, .int (z))] 0 []
  refine ja_iload_n K 1 dX1_isNode_0 rfl ?_
  refine ja_if_lt K (tgt := 16) (z < 0) dX1_isNode_1 (by decide) Iff.rfl (fun h1 => ?_) (fun h1 => ?_)
  · refine ja_iconst K (nI 0) dX1_isNode_16 (by decide) ?_
    exact ja_zret K (u) rfl (by first | exact ja_nz1 | exact ja_nz0 | exact jbI_narrow _) (Nat.zero_le _) (Nat.zero_le _) dX1_isNode_17 hQ9 rfl ⟨by first | exact jin_t ‹_› ‹_› | exact jin_f1 ‹_› | exact jin_f2 ‹_›, rfl⟩
  · refine ja_iload_n K 1 dX1_isNode_4 rfl ?_
    refine ja_aload_n K 0 dX1_isNode_5 rfl ?_
    refine ja_get K hu9 0 rfl rfl 1 (by decide) (List.mem_cons_of_mem _ kfX1_42) rfl (congrArg (fun z9 => some (Value.int z9)) rN) dX1_isNode_6 ?_
    refine ja_icmp_ge K (tgt := 16) (nI ((jN S)) ≤ z) dX1_isNode_9 (by decide) Iff.rfl (fun h9 => ?_) (fun h9 => ?_)
    · refine ja_iconst K (nI 0) dX1_isNode_16 (by decide) ?_
      exact ja_zret K (u) rfl (by first | exact ja_nz1 | exact ja_nz0 | exact jbI_narrow _) (Nat.zero_le _) (Nat.zero_le _) dX1_isNode_17 hQ9 rfl ⟨by first | exact jin_t ‹_› ‹_› | exact jin_f1 ‹_› | exact jin_f2 ‹_›, rfl⟩
    · refine ja_iconst K (nI 1) dX1_isNode_12 (by decide) ?_
      refine ja_goto K (tgt := 17) dX1_isNode_13 (by decide) ?_
      exact ja_zret K (u) rfl (by first | exact ja_nz1 | exact ja_nz0 | exact jbI_narrow _) (Nat.zero_le _) (Nat.zero_le _) dX1_isNode_17 hQ9 rfl ⟨by first | exact jin_t ‹_› ‹_› | exact jin_f1 ‹_› | exact jin_f2 ‹_›, rfl⟩
