set_option maxRecDepth 100000 in
set_option maxHeartbeats 4000000 in
theorem jd_matters (l : Launch) (D : va_G) (q : Nat → Nat) (cI cZ : ClassId) (S : JS) (u : JM) (hW9 : jWf S) (hS9 : jmR1 S u) (c0 x : Nat) (hc : c0 < jN S) (hx : x < 60) : jkI l yX1_matters wsX1_matters ({ frames := 4, cells := 0, slots := 0, locals := 94 }) D vwCl (jxt cI cZ) (jmc q cI cZ) [.ref (q 0), .int (nI c0), .int (nI x)] (jmc q cI cZ u) (fun r u1 => jbI (jmatS S x c0) = r ∧ u = u1) := by
  refine jkI_of (cc := cX1_matters) (maxL := 3) (ret := (some .boolean)) (by decide) rfl (Nat.le_of_ble_eq_true rfl) ?_
  intro p e R s m args below meth c Q A K hn9 hR9 hQ9
  obtain ⟨rN, rT, rM, rU, rK, rP, rA, rL, rB⟩ := id hS9
  obtain ⟨wn, wt, wu, wk, wp, wl, wb⟩ := id hW9
  have hu9 : ∀ w ∈ u_ws RX1 TX1 16, w ∈ wsX1_matters := fun w h => List.mem_cons_of_mem _ (ku_X1 w h)
  show jaW p l e R s m args below meth c 0 0 Q D vwCl A 3 (jmc q cI cZ u) [(0, .ref (q 0)), (1, .int (nI (c0))), (2, .int (nI (x)))] 0 []
  refine ja_aload_n K 0 dX1_matters_0 rfl ?_
  refine ja_get K hu9 0 rfl rfl 3 (by decide) (List.mem_cons_of_mem _ kfX1_13) rfl rfl dX1_matters_1 ?_
  refine ja_iload_n K 1 dX1_matters_4 rfl ?_
  refine ja_zald K (v := jbI (jM S (c0))) 2 1 rfl rfl (c0) rfl (by omega) (by decide) (rM _ (by omega)) dX1_matters_5 ?_
  refine ja_if_ne K (tgt := 18) (jM S (c0) = true) dX1_matters_6 (by decide) (jbI_nz _) (fun h6 => ?_) (fun h6 => ?_)
  · refine ja_iconst K (nI 1) dX1_matters_18 (by decide) ?_
    refine ja_goto K (tgt := 23) dX1_matters_19 (by decide) ?_
    exact ja_zret K (u) rfl (by first | exact ja_nz1 | exact ja_nz0 | exact jbI_narrow _) (Nat.zero_le _) (Nat.zero_le _) dX1_matters_23 hQ9 rfl ⟨by first | exact jb1 (by simp only [jmatS, jmat]; simp [h6]; done) | exact jb1 (by simp only [jmatS, jmat, h6, eq_true_of_ne_false h15]; rfl) | exact jb0 (by simp only [jmatS, jmat, eq_false_of_ne_true h6, h15]; rfl), rfl⟩
  · refine ja_aload_n K 0 dX1_matters_9 rfl ?_
    refine ja_iload_n K 1 dX1_matters_10 rfl ?_
    refine ja_iload_n K 2 dX1_matters_11 rfl ?_
    refine ja_callVI K (q0 := 0) (qc := (RX1, TX1, 16)) (st := []) [.int (nI (c0)), .int (nI (x))] (jd_isFork l D q cI cZ S (u) hW9 hS9 (c0) (x) (by omega) (by omega)) (cwV 2 K.1.2.2.2.2 (gX1_X1_isFork _) rfl rfl rfl (by decide +kernel) (by rw [hR9]; exact ⟨Nat.le_of_ble_eq_true rfl, Nat.le_of_ble_eq_true rfl⟩)) rfl rfl rfl rfl rfl (Nat.le_of_ble_eq_true rfl) dX1_matters_12 (by rw [hR9]; exact ⟨Nat.le_of_ble_eq_true rfl, Nat.le_of_ble_eq_true rfl⟩) (fun r9 u9 h9 => ?_)
    obtain ⟨rfl, rfl⟩ := h9
    refine ja_if_eq K (tgt := 22) (decide (1 < jfork (jN S) (jM S) (jU S (x)) (c0)) = false) dX1_matters_15 (by decide) (jbI_ne _) (fun h15 => ?_) (fun h15 => ?_)
    · refine ja_iconst K (nI 0) dX1_matters_22 (by decide) ?_
      exact ja_zret K (u) rfl (by first | exact ja_nz1 | exact ja_nz0 | exact jbI_narrow _) (Nat.zero_le _) (Nat.zero_le _) dX1_matters_23 hQ9 rfl ⟨by first | exact jb1 (by simp only [jmatS, jmat]; simp [h6, h15]; done) | exact jb1 (by simp only [jmatS, jmat, h6, eq_true_of_ne_false h15]; rfl) | exact jb0 (by simp only [jmatS, jmat, eq_false_of_ne_true h6, h15]; rfl), rfl⟩
    · refine ja_iconst K (nI 1) dX1_matters_18 (by decide) ?_
      refine ja_goto K (tgt := 23) dX1_matters_19 (by decide) ?_
      exact ja_zret K (u) rfl (by first | exact ja_nz1 | exact ja_nz0 | exact jbI_narrow _) (Nat.zero_le _) (Nat.zero_le _) dX1_matters_23 hQ9 rfl ⟨by first | exact jb1 (by simp only [jmatS, jmat]; simp [h6, h15]; done) | exact jb1 (by simp only [jmatS, jmat, h6, eq_true_of_ne_false h15]; rfl) | exact jb0 (by simp only [jmatS, jmat, eq_false_of_ne_true h6, h15]; rfl), rfl⟩
