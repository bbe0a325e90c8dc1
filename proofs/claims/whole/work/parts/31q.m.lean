set_option maxRecDepth 100000 in
set_option maxHeartbeats 4000000 in
theorem jd_stays (l : Launch) (D : va_G) (q : Nat → Nat) (cI cZ : ClassId) (S : JS) (u : JM) (hW9 : jWf S) (hS9 : jmR1 S u) (c0 : Nat) (hc : c0 < jN S) : jkI l yX1_stays wsX1_stays ({ frames := 4, cells := 0, slots := 0, locals := 94 }) D vwCl (jxt cI cZ) (jmc q cI cZ) [.ref (q 0), .int (nI c0)] (jmc q cI cZ u) (fun r u1 => jbI (jstay S c0) = r ∧ u = u1) := by
  refine jkI_of (cc := cX1_stays) (maxL := 4) (ret := (some .boolean)) (by decide) rfl (Nat.le_of_ble_eq_true rfl) ?_
  intro p e R s m args below meth c Q A K hn9 hR9 hQ9
  obtain ⟨rN, rT, rM, rU, rK, rP, rA, rL, rB⟩ := id hS9
  obtain ⟨wn, wt, wu, wk, wp, wl, wb⟩ := id hW9
  have hu9 : ∀ w ∈ u_ws RX1 TX1 16, w ∈ wsX1_stays := fun w h => List.mem_cons_of_mem _ (ku_X1 w h)
  show jaW p l e R s m args below meth c 0 0 Q D vwCl A 4 (jmc q cI cZ u) [(0, .ref (q 0)), (1, .int (nI (c0)))] 0 []
  refine ja_aload_n K 0 dX1_stays_0 rfl ?_
  refine ja_get K hu9 0 rfl rfl 3 (by decide) (List.mem_cons_of_mem _ kfX1_13) rfl rfl dX1_stays_1 ?_
  refine ja_iload_n K 1 dX1_stays_4 rfl ?_
  refine ja_zald K (v := jbI (jM S (c0))) 2 1 rfl rfl (c0) rfl (by omega) (by decide) (rM _ (by omega)) dX1_stays_5 ?_
  refine ja_istore_n K (lv1 := [(0, .ref (q 0)), (1, .int (nI (c0))), (2, .int (jbI (jM S (c0))))]) dX1_stays_6 (by decide) rfl rfl ?_
  refine ja_iconst K (nI 0) dX1_stays_7 (by decide) ?_
  refine ja_istore_n K (lv1 := [(0, .ref (q 0)), (1, .int (nI (c0))), (2, .int (jbI (jM S (c0)))), (3, .int (nI 0))]) dX1_stays_8 (by decide) rfl rfl ?_
  have L9 : ∀ (i : Nat), (i ≤ 60) → jaW p l e R s m args below meth c 0 0 Q D vwCl A 4 (jmc q cI cZ u) [(0, .ref (q 0)), (1, .int (nI (c0))), (2, .int (jbI ((jM S c0 || jany (fun x => decide (1 < jfork (jN S) (jM S) (jU S x) c0)) i)))), (3, .int (nI (i)))] 9 [] := by
    refine jl_1 (fun (i : Nat) => 60 - i) (fun (i : Nat) => i ≤ 60) _ ?_
    intro i hI9 IH9
    refine ja_iload_n K 3 dX1_stays_9 rfl ?_
    refine ja_bipush K (nI 60) dX1_stays_10 (by decide) ?_
    refine ja_icmp_ge K (tgt := 40) (60 ≤ i) dX1_stays_12 (by decide) (nI_leI (by omega) (by omega)) (fun h12 => ?_) (fun h12 => ?_)
    · refine ja_iload_n K 2 dX1_stays_40 rfl ?_
      exact ja_zret K (u) rfl (by first | exact ja_nz1 | exact ja_nz0 | exact jbI_narrow _) (Nat.zero_le _) (Nat.zero_le _) dX1_stays_41 hQ9 rfl ⟨by rw [jstay_eq, show i = 60 by omega], rfl⟩
    · refine ja_iload_n K 2 dX1_stays_15 rfl ?_
      refine ja_if_ne K (tgt := 28) ((jM S c0 || jany (fun x => decide (1 < jfork (jN S) (jM S) (jU S x) c0)) i) = true) dX1_stays_16 (by decide) (jbI_nz _) (fun h16 => ?_) (fun h16 => ?_)
      · refine ja_iconst K (nI 1) dX1_stays_28 (by decide) ?_
        refine ja_goto K (tgt := 33) dX1_stays_29 (by decide) ?_
        refine ja_istore_n K (lv1 := [(0, .ref (q 0)), (1, .int (nI (c0))), (2, .int (nI 1)), (3, .int (nI (i)))]) dX1_stays_33 (by decide) rfl rfl ?_
        refine ja_iinc K (lv1 := [(0, .ref (q 0)), (1, .int (nI (c0))), (2, .int (nI 1)), (3, .int (nI ((i + 1))))]) 3 (nI ((i + 1))) dX1_stays_34 rfl (ja_inc _) (by decide) rfl rfl ?_
        refine ja_goto K (tgt := 9) dX1_stays_37 (by decide) ?_
        have e90 : jbI (jM S c0 || jany (fun x => decide (1 < jfork (jN S) (jM S) (jU S x) c0)) (i + 1)) = nI 1 := by
          simp only [jany]
          first
            | exact jb1 (by rw [← Bool.or_assoc, h16]; rfl)
            | exact jb1 (by rw [eq_true_of_ne_false h25]; simp)
            | exact jb0 (by rw [← Bool.or_assoc, eq_false_of_ne_true h16, h25]; rfl)
        have k9 := IH9 (i + 1) (by omega) (by omega)
        rw [e90] at k9
        exact k9
      · refine ja_aload_n K 0 dX1_stays_19 rfl ?_
        refine ja_iload_n K 1 dX1_stays_20 rfl ?_
        refine ja_iload_n K 3 dX1_stays_21 rfl ?_
        refine ja_callVI K (q0 := 0) (qc := (RX1, TX1, 16)) (st := []) [.int (nI (c0)), .int (nI (i))] (jd_isFork l D q cI cZ S (u) hW9 hS9 (c0) (i) (by omega) (by omega)) (cwV 2 K.1.2.2.2.2 (gX1_X1_isFork _) rfl rfl rfl (by decide +kernel) (by rw [hR9]; exact ⟨Nat.le_of_ble_eq_true rfl, Nat.le_of_ble_eq_true rfl⟩)) rfl rfl rfl rfl rfl (Nat.le_of_ble_eq_true rfl) dX1_stays_22 (by rw [hR9]; exact ⟨Nat.le_of_ble_eq_true rfl, Nat.le_of_ble_eq_true rfl⟩) (fun r9 u9 h9 => ?_)
        obtain ⟨rfl, rfl⟩ := h9
        refine ja_if_eq K (tgt := 32) (decide (1 < jfork (jN S) (jM S) (jU S (i)) (c0)) = false) dX1_stays_25 (by decide) (jbI_ne _) (fun h25 => ?_) (fun h25 => ?_)
        · refine ja_iconst K (nI 0) dX1_stays_32 (by decide) ?_
          refine ja_istore_n K (lv1 := [(0, .ref (q 0)), (1, .int (nI (c0))), (2, .int (nI 0)), (3, .int (nI (i)))]) dX1_stays_33 (by decide) rfl rfl ?_
          refine ja_iinc K (lv1 := [(0, .ref (q 0)), (1, .int (nI (c0))), (2, .int (nI 0)), (3, .int (nI ((i + 1))))]) 3 (nI ((i + 1))) dX1_stays_34 rfl (ja_inc _) (by decide) rfl rfl ?_
          refine ja_goto K (tgt := 9) dX1_stays_37 (by decide) ?_
          have e90 : jbI (jM S c0 || jany (fun x => decide (1 < jfork (jN S) (jM S) (jU S x) c0)) (i + 1)) = nI 0 := by
            simp only [jany]
            first
              | exact jb1 (by rw [← Bool.or_assoc, h16]; rfl)
              | exact jb1 (by rw [eq_true_of_ne_false h25]; simp)
              | exact jb0 (by rw [← Bool.or_assoc, eq_false_of_ne_true h16, h25]; rfl)
          have k9 := IH9 (i + 1) (by omega) (by omega)
          rw [e90] at k9
          exact k9
        · refine ja_iconst K (nI 1) dX1_stays_28 (by decide) ?_
          refine ja_goto K (tgt := 33) dX1_stays_29 (by decide) ?_
          refine ja_istore_n K (lv1 := [(0, .ref (q 0)), (1, .int (nI (c0))), (2, .int (nI 1)), (3, .int (nI (i)))]) dX1_stays_33 (by decide) rfl rfl ?_
          refine ja_iinc K (lv1 := [(0, .ref (q 0)), (1, .int (nI (c0))), (2, .int (nI 1)), (3, .int (nI ((i + 1))))]) 3 (nI ((i + 1))) dX1_stays_34 rfl (ja_inc _) (by decide) rfl rfl ?_
          refine ja_goto K (tgt := 9) dX1_stays_37 (by decide) ?_
          have e90 : jbI (jM S c0 || jany (fun x => decide (1 < jfork (jN S) (jM S) (jU S x) c0)) (i + 1)) = nI 1 := by
            simp only [jany]
            first
              | exact jb1 (by rw [← Bool.or_assoc, h16]; rfl)
              | exact jb1 (by rw [eq_true_of_ne_false h25]; simp)
              | exact jb0 (by rw [← Bool.or_assoc, eq_false_of_ne_true h16, h25]; rfl)
          have k9 := IH9 (i + 1) (by omega) (by omega)
          rw [e90] at k9
          exact k9
  have k9 := L9 0 (Nat.zero_le _)
  rw [show (jM S c0 || jany (fun x => decide (1 < jfork (jN S) (jM S) (jU S x) c0)) 0) = jM S c0 by simp [jany]] at k9
  exact k9
