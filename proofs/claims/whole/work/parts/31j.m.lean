set_option maxRecDepth 100000 in
set_option maxHeartbeats 4000000 in
theorem jd_samples (l : Launch) (D : va_G) (q : Nat → Nat) (cI cZ : ClassId) (S : JS) (u : JM) (hW9 : jWf S) (hS9 : jmR1 S u)  : jkI l yX1_samples wsX1_samples ({ frames := 0, cells := 0, slots := 0, locals := 0 }) D vwCl (jxt cI cZ) (jmc q cI cZ) [.ref (q 0)] (jmc q cI cZ u) (fun r u1 => nI (jct (jM S) (jN S)) = r ∧ u = u1) := by
  refine jkI_of (cc := cX1_samples) (maxL := 3) (ret := (some .int)) (by decide) rfl (Nat.le_of_ble_eq_true rfl) ?_
  intro p e R s m args below meth c Q A K hn9 hR9 hQ9
  obtain ⟨rN, rT, rM, rU, rK, rP, rA, rL, rB⟩ := id hS9
  obtain ⟨wn, wt, wu, wk, wp, wl, wb⟩ := id hW9
  have hu9 : ∀ w ∈ u_ws RX1 TX1 16, w ∈ wsX1_samples := fun w h => List.mem_cons_of_mem _ (ku_X1 w h)
  show jaW p l e R s m args below meth c 0 0 Q D vwCl A 3 (jmc q cI cZ u) [(0, .ref (q 0))] 0 []
  refine ja_iconst K (nI 0) dX1_samples_0 (by decide) ?_
  refine ja_istore_n K (lv1 := [(0, .ref (q 0)), (1, .int (nI 0))]) dX1_samples_1 (by decide) rfl rfl ?_
  refine ja_iconst K (nI 0) dX1_samples_2 (by decide) ?_
  refine ja_istore_n K (lv1 := [(0, .ref (q 0)), (1, .int (nI 0)), (2, .int (nI 0))]) dX1_samples_3 (by decide) rfl rfl ?_
  have L4 : ∀ (i : Nat), (i ≤ jN S) → jaW p l e R s m args below meth c 0 0 Q D vwCl A 3 (jmc q cI cZ u) [(0, .ref (q 0)), (1, .int (nI ((jct (jM S) i)))), (2, .int (nI (i)))] 4 [] := by
    refine jl_1 (fun (i : Nat) => jN S - i) (fun (i : Nat) => i ≤ jN S) _ ?_
    intro i hI4 IH4
    refine ja_iload_n K 2 dX1_samples_4 rfl ?_
    refine ja_aload_n K 0 dX1_samples_5 rfl ?_
    refine ja_get K hu9 0 rfl rfl 1 (by decide) (List.mem_cons_of_mem _ kfX1_42) rfl (congrArg (fun z9 => some (Value.int z9)) rN) dX1_samples_6 ?_
    refine ja_icmp_ge K (tgt := 35) ((jN S) ≤ i) dX1_samples_9 (by decide) (nI_leI (by omega) (by omega)) (fun h9 => ?_) (fun h9 => ?_)
    · refine ja_iload_n K 1 dX1_samples_35 rfl ?_
      exact ja_iret K (u) rfl (Nat.zero_le _) (Nat.zero_le _) dX1_samples_36 hQ9 rfl ⟨by rw [show i = jN S by omega], rfl⟩
    · refine ja_aload_n K 0 dX1_samples_12 rfl ?_
      refine ja_get K hu9 0 rfl rfl 3 (by decide) (List.mem_cons_of_mem _ kfX1_13) rfl rfl dX1_samples_13 ?_
      refine ja_iload_n K 2 dX1_samples_16 rfl ?_
      refine ja_zald K (v := jbI (jM S (i))) 2 1 rfl rfl (i) rfl (by omega) (by decide) (rM _ (by omega)) dX1_samples_17 ?_
      refine ja_if_eq K (tgt := 27) (jM S (i) = false) dX1_samples_18 (by decide) (jbI_ne _) (fun h18 => ?_) (fun h18 => ?_)
      · refine ja_iload_n K 1 dX1_samples_27 rfl ?_
        refine ja_istore_n K (lv1 := [(0, .ref (q 0)), (1, .int (nI ((jct (jM S) i)))), (2, .int (nI (i)))]) dX1_samples_28 (by decide) rfl rfl ?_
        refine ja_iinc K (lv1 := [(0, .ref (q 0)), (1, .int (nI ((jct (jM S) i)))), (2, .int (nI ((i + 1))))]) 2 (nI ((i + 1))) dX1_samples_29 rfl (ja_inc _) (by decide) rfl rfl ?_
        refine ja_goto K (tgt := 4) dX1_samples_32 (by decide) ?_
        have e90 : jct (jM S) (i + 1) = (jct (jM S) i) := by simp [jct, h9, h18]
        have k9 := IH4 (i + 1) (by omega) (by omega)
        rw [e90] at k9
        exact k9
      · refine ja_iload_n K 1 dX1_samples_21 rfl ?_
        refine ja_iconst K (nI 1) dX1_samples_22 (by decide) ?_
        refine ja_iadd K (nI (((jct (jM S) i) + 1))) dX1_samples_23 (nI_add _ _) ?_
        refine ja_goto K (tgt := 28) dX1_samples_24 (by decide) ?_
        refine ja_istore_n K (lv1 := [(0, .ref (q 0)), (1, .int (nI (((jct (jM S) i) + 1)))), (2, .int (nI (i)))]) dX1_samples_28 (by decide) rfl rfl ?_
        refine ja_iinc K (lv1 := [(0, .ref (q 0)), (1, .int (nI (((jct (jM S) i) + 1)))), (2, .int (nI ((i + 1))))]) 2 (nI ((i + 1))) dX1_samples_29 rfl (ja_inc _) (by decide) rfl rfl ?_
        refine ja_goto K (tgt := 4) dX1_samples_32 (by decide) ?_
        have e90 : jct (jM S) (i + 1) = ((jct (jM S) i) + 1) := by simp [jct, h9, h18]
        have k9 := IH4 (i + 1) (by omega) (by omega)
        rw [e90] at k9
        exact k9
  exact L4 0 (Nat.zero_le _)
