set_option maxRecDepth 100000 in
set_option maxHeartbeats 4000000 in
theorem jd_trees (l : Launch) (D : va_G) (q : Nat → Nat) (cI cZ : ClassId) (S : JS) (u : JM) (hW9 : jWf S) (hS9 : jmR1 S u)  : jkI l yX1_trees wsX1_trees ({ frames := 2, cells := 0, slots := 0, locals := 45 }) D vwCl (jxt cI cZ) (jmc q cI cZ) [.ref (q 0)] (jmc q cI cZ u) (fun r u1 => nI (jct (jsr S) 60) = r ∧ jmR1 S u1 ∧ jmF u1 = nI 0) := by
  refine jkI_of (cc := cX1_trees) (maxL := 3) (ret := (some .int)) (by decide) rfl (Nat.le_of_ble_eq_true rfl) ?_
  intro p e R s m args below meth c Q A K hn9 hR9 hQ9
  obtain ⟨rN, rT, rM, rU, rK, rP, rA, rL, rB⟩ := id hS9
  obtain ⟨wn, wt, wu, wk, wp, wl, wb⟩ := id hW9
  have hu9 : ∀ w ∈ u_ws RX1 TX1 16, w ∈ wsX1_trees := fun w h => List.mem_cons_of_mem _ (ku_X1 w h)
  show jaW p l e R s m args below meth c 0 0 Q D vwCl A 3 (jmc q cI cZ u) [(0, .ref (q 0))] 0 []
  refine ja_aload_n K 0 dX1_trees_0 rfl ?_
  refine ja_iconst K (nI 0) dX1_trees_1 (by decide) ?_
  refine ja_put K (ws1 := jmc q cI cZ (jmsF (u) (nI 0))) hu9 0 rfl rfl 0 (by decide) (List.mem_cons_of_mem _ kfX1_38) rfl tyX1 tyX1_ok nmX1 rfl rfl rfl rfl (Nat.le_of_ble_eq_true rfl) dX1_trees_2 rfl ?_
  refine ja_iconst K (nI 1) dX1_trees_5 (by decide) ?_
  refine ja_istore_n K (lv1 := [(0, .ref (q 0)), (1, .int (nI 1))]) dX1_trees_6 (by decide) rfl rfl ?_
  refine ja_iconst K (nI 1) dX1_trees_7 (by decide) ?_
  refine ja_istore_n K (lv1 := [(0, .ref (q 0)), (1, .int (nI 1)), (2, .int (nI 1))]) dX1_trees_8 (by decide) rfl rfl ?_
  have L9 : ∀ (x : Nat), (1 ≤ x ∧ x ≤ 60) → jaW p l e R s m args below meth c 0 0 Q D vwCl A 3 (jmc q cI cZ (jmsF (u) (nI 0))) [(0, .ref (q 0)), (1, .int (nI ((jct (jsr S) x)))), (2, .int (nI (x)))] 9 [] := by
    refine jl_1 (fun (x : Nat) => 60 - x) (fun (x : Nat) => 1 ≤ x ∧ x ≤ 60) _ ?_
    intro x hI9 IH9
    refine ja_iload_n K 2 dX1_trees_9 rfl ?_
    refine ja_bipush K (nI 60) dX1_trees_10 (by decide) ?_
    refine ja_icmp_ge K (tgt := 37) (60 ≤ x) dX1_trees_12 (by decide) (nI_leI (by omega) (by omega)) (fun h12 => ?_) (fun h12 => ?_)
    · refine ja_iload_n K 1 dX1_trees_37 rfl ?_
      exact ja_iret K (jmsF (u) (nI 0)) rfl (Nat.zero_le _) (Nat.zero_le _) dX1_trees_38 hQ9 rfl ⟨by rw [show x = 60 by omega], hS9, rfl⟩
    · refine ja_aload_n K 0 dX1_trees_15 rfl ?_
      refine ja_iload_n K 2 dX1_trees_16 rfl ?_
      refine ja_callVI K (q0 := 0) (qc := (RX1, TX1, 16)) (st := []) [.int (nI (x))] (jd_differs l D q cI cZ S (jmsF (u) (nI 0)) hW9 hS9 (x) (by omega) (by omega)) (cwV 1 K.1.2.2.2.2 (gX1_X1_differs _) rfl rfl rfl (by decide +kernel) (by rw [hR9]; exact ⟨Nat.le_of_ble_eq_true rfl, Nat.le_of_ble_eq_true rfl⟩)) rfl rfl rfl rfl rfl (Nat.le_of_ble_eq_true rfl) dX1_trees_17 (by rw [hR9]; exact ⟨Nat.le_of_ble_eq_true rfl, Nat.le_of_ble_eq_true rfl⟩) (fun r9 u9 h9 => ?_)
      obtain ⟨rfl, rfl⟩ := h9
      refine ja_if_eq K (tgt := 29) (jany (fun c1 => jU S (x) c1 != jU S (x - 1) c1) (jN S) = false) dX1_trees_20 (by decide) (jbI_ne _) (fun h20 => ?_) (fun h20 => ?_)
      · refine ja_iload_n K 1 dX1_trees_29 rfl ?_
        refine ja_istore_n K (lv1 := [(0, .ref (q 0)), (1, .int (nI ((jct (jsr S) x)))), (2, .int (nI (x)))]) dX1_trees_30 (by decide) rfl rfl ?_
        refine ja_iinc K (lv1 := [(0, .ref (q 0)), (1, .int (nI ((jct (jsr S) x)))), (2, .int (nI ((x + 1))))]) 2 (nI ((x + 1))) dX1_trees_31 rfl (ja_inc _) (by decide) rfl rfl ?_
        refine ja_goto K (tgt := 9) dX1_trees_34 (by decide) ?_
        have e90 : jct (jsr S) (x + 1) = (jct (jsr S) x) := by simp only [jct, jsr, show (x == 0) = false by simp; omega, Bool.false_or, h20]; simp [h20]
        have k9 := IH9 (x + 1) (by omega) (by omega)
        rw [e90] at k9
        exact k9
      · refine ja_iload_n K 1 dX1_trees_23 rfl ?_
        refine ja_iconst K (nI 1) dX1_trees_24 (by decide) ?_
        refine ja_iadd K (nI (((jct (jsr S) x) + 1))) dX1_trees_25 (nI_add _ _) ?_
        refine ja_goto K (tgt := 30) dX1_trees_26 (by decide) ?_
        refine ja_istore_n K (lv1 := [(0, .ref (q 0)), (1, .int (nI (((jct (jsr S) x) + 1)))), (2, .int (nI (x)))]) dX1_trees_30 (by decide) rfl rfl ?_
        refine ja_iinc K (lv1 := [(0, .ref (q 0)), (1, .int (nI (((jct (jsr S) x) + 1)))), (2, .int (nI ((x + 1))))]) 2 (nI ((x + 1))) dX1_trees_31 rfl (ja_inc _) (by decide) rfl rfl ?_
        refine ja_goto K (tgt := 9) dX1_trees_34 (by decide) ?_
        have e90 : jct (jsr S) (x + 1) = ((jct (jsr S) x) + 1) := by simp only [jct, jsr, show (x == 0) = false by simp; omega, Bool.false_or, h20]; simp [h20]
        have k9 := IH9 (x + 1) (by omega) (by omega)
        rw [e90] at k9
        exact k9
  have k9 := L9 1 (by omega)
  rw [show jct (jsr S) 1 = 1 by simp [jct, jsr]] at k9
  exact k9
