set_option maxRecDepth 100000 in
set_option maxHeartbeats 4000000 in
theorem jd_became (l : Launch) (D : va_G) (q : Nat → Nat) (cI cZ : ClassId) (S : JS) (u : JM) (hW9 : jWf S) (hS9 : jmR1 S u) (z : Int32) : jkI l yX1_became wsX1_became ({ frames := 0, cells := 0, slots := 0, locals := 0 }) D vwCl (jxt cI cZ) (jmc q cI cZ) [.ref (q 0), .int z] (jmc q cI cZ u) (fun r u1 => jmF u1 = nI 0 ∧ jeI (jbec S z) = r ∧ jmR1 S u1) := by
  refine jkI_of (cc := cX1_became) (maxL := 2) (ret := (some .int)) (by decide) rfl (Nat.le_of_ble_eq_true rfl) ?_
  intro p e R s m args below meth c Q A K hn9 hR9 hQ9
  obtain ⟨rN, rT, rM, rU, rK, rP, rA, rL, rB⟩ := id hS9
  obtain ⟨wn, wt, wu, wk, wp, wl, wb⟩ := id hW9
  have hu9 : ∀ w ∈ u_ws RX1 TX1 16, w ∈ wsX1_became := fun w h => List.mem_cons_of_mem _ (ku_X1 w h)
  show jaW p l e R s m args below meth c 0 0 Q D vwCl A 2 (jmc q cI cZ u) [(0, .ref (q 0)), (1, .int (z))] 0 []
  refine ja_aload_n K 0 dX1_became_0 rfl ?_
  refine ja_iconst K (nI 0) dX1_became_1 (by decide) ?_
  refine ja_put K (ws1 := jmc q cI cZ (jmsF (u) (nI 0))) hu9 0 rfl rfl 0 (by decide) (List.mem_cons_of_mem _ kfX1_38) rfl tyX1 tyX1_ok nmX1 rfl rfl rfl rfl (Nat.le_of_ble_eq_true rfl) dX1_became_2 rfl ?_
  refine ja_iload_n K 1 dX1_became_5 rfl ?_
  refine ja_if_lt K (tgt := 15) (z < 0) dX1_became_6 (by decide) Iff.rfl (fun h6 => ?_) (fun h6 => ?_)
  · refine ja_iconst K (-1) dX1_became_15 (by decide) ?_
    refine ja_goto K (tgt := 25) dX1_became_16 (by decide) ?_
    exact ja_iret K (jmsF (u) (nI 0)) rfl (Nat.zero_le _) (Nat.zero_le _) dX1_became_25 hQ9 rfl ⟨rfl, by rw [jbec_f1 h6], hS9⟩
  · refine ja_iload_n K 1 dX1_became_9 rfl ?_
    refine ja_bipush K (nI 13) dX1_became_10 (by decide) ?_
    refine ja_icmp_le K (tgt := 19) (z ≤ nI 13) dX1_became_12 (by decide) Iff.rfl (fun h12 => ?_) (fun h12 => ?_)
    · obtain ⟨j, hj, rfl⟩ := jin_of (n := 14) (jin_le h6 h12) (by omega)
      refine ja_aload_n K 0 dX1_became_19 rfl ?_
      refine ja_get K hu9 0 rfl rfl 9 (by decide) (List.mem_cons_of_mem _ kfX1_29) rfl rfl dX1_became_20 ?_
      refine ja_iload_n K 1 dX1_became_23 rfl ?_
      refine ja_iald K (v := jeI (jB S (j))) 7 0 rfl rfl (j) rfl (by omega) (by decide) (rB _ (by omega)) dX1_became_24 ?_
      exact ja_iret K (jmsF (u) (nI 0)) rfl (Nat.zero_le _) (Nat.zero_le _) dX1_became_25 hQ9 rfl ⟨rfl, by rw [jbec_t hj], hS9⟩
    · refine ja_iconst K (-1) dX1_became_15 (by decide) ?_
      refine ja_goto K (tgt := 25) dX1_became_16 (by decide) ?_
      exact ja_iret K (jmsF (u) (nI 0)) rfl (Nat.zero_le _) (Nat.zero_le _) dX1_became_25 hQ9 rfl ⟨rfl, by rw [jbec, jin_ff3 (k := 13) (by decide) h12]; rfl, hS9⟩
