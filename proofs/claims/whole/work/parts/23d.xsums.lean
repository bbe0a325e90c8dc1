set_option maxRecDepth 100000 in
set_option maxHeartbeats 4000000 in
theorem jc_trees (l : Launch) (D : va_G) (q : Nat → Nat) (cI cZ : ClassId) (S : JS) (u : JX) (hW9 : jWf S) (hS9 : jxR1 S u)  : jkI l yX0_trees wsX0_trees ({ frames := 2, cells := 0, slots := 0, locals := 44 }) D vwCl (jxt cI cZ) (jxc q cI cZ) [.ref (q 0)] (jxc q cI cZ u) (fun r u1 => nI (jct (jsr S) 60) = r ∧ u = u1) := by
  refine jkI_of (cc := cX0_trees) (maxL := 3) (ret := (some .int)) (by decide) rfl (Nat.le_of_ble_eq_true rfl) ?_
  intro p e R s m args below meth c Q A K hn9 hR9 hQ9
  obtain ⟨rN, rT, rM, rU, rK, rP, rA, rL, rB⟩ := id hS9
  obtain ⟨wn, wt, wu, wk, wp, wl, wb⟩ := id hW9
  have hu9 : ∀ w ∈ u_ws RX0 TX0 13, w ∈ wsX0_trees := fun w h => List.mem_cons_of_mem _ (ku_X0 w h)
  show jaW p l e R s m args below meth c 0 0 Q D vwCl A 3 (jxc q cI cZ u) [(0, .ref (q 0))] 0 []
  refine ja_iconst K (nI 0) dX0_trees_0 (by decide) ?_
  refine ja_istore_n K (lv1 := [(0, .ref (q 0)), (1, .int (nI 0))]) dX0_trees_1 (by decide) rfl rfl ?_
  refine ja_iconst K (nI 0) dX0_trees_2 (by decide) ?_
  refine ja_istore_n K (lv1 := [(0, .ref (q 0)), (1, .int (nI 0)), (2, .int (nI 0))]) dX0_trees_3 (by decide) rfl rfl ?_
  have L4 : ∀ (x : Nat), (x ≤ 60) → jaW p l e R s m args below meth c 0 0 Q D vwCl A 3 (jxc q cI cZ u) [(0, .ref (q 0)), (1, .int (nI ((jct (jsr S) x)))), (2, .int (nI (x)))] 4 [] := by
    refine jl_1 (fun (x : Nat) => 60 - x) (fun (x : Nat) => x ≤ 60) _ ?_
    intro x hI4 IH4
    refine ja_iload_n K 2 dX0_trees_4 rfl ?_
    refine ja_bipush K (nI 60) dX0_trees_5 (by decide) ?_
    refine ja_icmp_ge K (tgt := 27) (60 ≤ x) dX0_trees_7 (by decide) (nI_leI (by omega) (by omega)) (fun h7 => ?_) (fun h7 => ?_)
    · refine ja_iload_n K 1 dX0_trees_27 rfl ?_
      exact ja_iret K (u) rfl (Nat.zero_le _) (Nat.zero_le _) dX0_trees_28 hQ9 rfl ⟨by rw [show x = 60 by omega], rfl⟩
    · refine ja_aload_n K 0 dX0_trees_10 rfl ?_
      refine ja_iload_n K 2 dX0_trees_11 rfl ?_
      refine ja_callVI K (q0 := 0) (qc := (RX0, TX0, 13)) (st := []) [.int (nI (x))] (jc_startsRun l D q cI cZ S (u) hW9 hS9 (x) (by omega)) (cwV 1 K.1.2.2.2.2 (gX0_X0_startsRun _) rfl rfl rfl (by decide +kernel) (by rw [hR9]; exact ⟨Nat.le_of_ble_eq_true rfl, Nat.le_of_ble_eq_true rfl⟩)) rfl rfl rfl rfl rfl (Nat.le_of_ble_eq_true rfl) dX0_trees_12 (by rw [hR9]; exact ⟨Nat.le_of_ble_eq_true rfl, Nat.le_of_ble_eq_true rfl⟩) (fun r9 u9 h9 => ?_)
      obtain ⟨rfl, rfl⟩ := h9
      refine ja_if_eq K (tgt := 21) (jsr S (x) = false) dX0_trees_15 (by decide) (jbI_ne _) (fun h15 => ?_) (fun h15 => ?_)
      · refine ja_iinc K (lv1 := [(0, .ref (q 0)), (1, .int (nI ((jct (jsr S) x)))), (2, .int (nI ((x + 1))))]) 2 (nI ((x + 1))) dX0_trees_21 rfl (ja_inc _) (by decide) rfl rfl ?_
        refine ja_goto K (tgt := 4) dX0_trees_24 (by decide) ?_
        have e90 : jct (jsr S) (x + 1) = (jct (jsr S) x) := by simp [jct, h7, h15]
        have k9 := IH4 (x + 1) (by omega) (by omega)
        rw [e90] at k9
        exact k9
      · refine ja_iinc K (lv1 := [(0, .ref (q 0)), (1, .int (nI (((jct (jsr S) x) + 1)))), (2, .int (nI (x)))]) 1 (nI (((jct (jsr S) x) + 1))) dX0_trees_18 rfl (ja_inc _) (by decide) rfl rfl ?_
        refine ja_iinc K (lv1 := [(0, .ref (q 0)), (1, .int (nI (((jct (jsr S) x) + 1)))), (2, .int (nI ((x + 1))))]) 2 (nI ((x + 1))) dX0_trees_21 rfl (ja_inc _) (by decide) rfl rfl ?_
        refine ja_goto K (tgt := 4) dX0_trees_24 (by decide) ?_
        have e90 : jct (jsr S) (x + 1) = ((jct (jsr S) x) + 1) := by simp [jct, h7, h15]
        have k9 := IH4 (x + 1) (by omega) (by omega)
        rw [e90] at k9
        exact k9
  exact L4 0 (Nat.zero_le _)
