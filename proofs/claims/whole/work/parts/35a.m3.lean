set_option maxRecDepth 100000 in
set_option maxHeartbeats 4000000 in
theorem jd_mutate (l : Launch) (D : va_G) (q : Nat → Nat) (cI cZ : ClassId) (S : JS) (u : JM) (hW9 : jWf S) (hS9 : jmR1 S u) (i9 c9 z : Int32) : jkI l yX1_mutate wsX1_mutate ({ frames := 1, cells := 0, slots := 0, locals := 21 }) D vwCl (jxt cI cZ) (jmc q cI cZ) [.ref (q 0), .int i9, .int c9, .int z] (jmc q cI cZ u) (fun r u1 => jmF u1 = nI (jcM S i9 c9 z) ∧ ((jcM S i9 c9 z) = 0 → jeI (jL S (jv i9) (jv c9)) = r) ∧ ((jcM S i9 c9 z) = 0 → jmR1 (jsetL S (jv i9) (jv c9) (jlo z)) u1) ∧ (¬ (jcM S i9 c9 z) = 0 → jmR1 S u1)) := by
  refine jkI_of (cc := cX1_mutate) (maxL := 5) (ret := (some .int)) (by decide) rfl (Nat.le_of_ble_eq_true rfl) ?_
  intro p e R s m args below meth c Q A K hn9 hR9 hQ9
  obtain ⟨rN, rT, rM, rU, rK, rP, rA, rL, rB⟩ := id hS9
  obtain ⟨wn, wt, wu, wk, wp, wl, wb⟩ := id hW9
  have hu9 : ∀ w ∈ u_ws RX1 TX1 16, w ∈ wsX1_mutate := fun w h => List.mem_cons_of_mem _ (ku_X1 w h)
  show jaW p l e R s m args below meth c 0 0 Q D vwCl A 5 (jmc q cI cZ u) [(0, .ref (q 0)), (1, .int (i9)), (2, .int (c9)), (3, .int (z))] 0 []
  refine ja_aload_n K 0 dX1_mutate_0 rfl ?_
  refine ja_aload_n K 0 dX1_mutate_1 rfl ?_
  refine ja_iload_n K 1 dX1_mutate_2 rfl ?_
  refine ja_callVI K (q0 := 0) (qc := (RX1, TX1, 16)) (st := [.ref (q 0)]) [.int (i9)] (jd_isSite l D q cI cZ S (u) hW9 hS9 (i9)) (cwV 1 K.1.2.2.2.2 (gX1_X1_isSite _) rfl rfl rfl (by decide +kernel) (by rw [hR9]; exact ⟨Nat.le_of_ble_eq_true rfl, Nat.le_of_ble_eq_true rfl⟩)) rfl rfl rfl rfl rfl (Nat.le_of_ble_eq_true rfl) dX1_mutate_3 (by rw [hR9]; exact ⟨Nat.le_of_ble_eq_true rfl, Nat.le_of_ble_eq_true rfl⟩) (fun r9 u9 h9 => ?_)
  obtain ⟨rfl, rfl⟩ := h9
  refine ja_if_eq K (tgt := 17) (jin (i9) (jK S) = false) dX1_mutate_6 (by decide) (jbI_ne _) (fun h6 => ?_) (fun h6 => ?_)
  · refine ja_iconst K (nI 1) dX1_mutate_17 (by decide) ?_
    refine ja_goto K (tgt := 36) dX1_mutate_18 (by decide) ?_
    refine ja_callVI K (q0 := 0) (qc := (RX1, TX1, 16)) (st := []) [.int (nI 1)] (jd_refused l D q cI cZ (u) (1) (by omega)) (cwV 1 K.1.2.2.2.2 (gX1_X1_refused _) rfl rfl rfl (by decide +kernel) (by rw [hR9]; exact ⟨Nat.le_of_ble_eq_true rfl, Nat.le_of_ble_eq_true rfl⟩)) rfl rfl rfl rfl rfl (Nat.le_of_ble_eq_true rfl) dX1_mutate_36 (by rw [hR9]; exact ⟨Nat.le_of_ble_eq_true rfl, Nat.le_of_ble_eq_true rfl⟩) (fun r9 u9 h9 => ?_)
    obtain ⟨rfl, rfl⟩ := h9
    refine ja_if_eq K (tgt := 44) (decide (0 < 1) = false) dX1_mutate_39 (by decide) (jbI_ne _) (fun h39 => ?_) (fun h39 => ?_)
    · exact absurd h39 (by decide)
    · refine ja_iconst K (nI 0) dX1_mutate_42 (by decide) ?_
      exact ja_iret K (jmsF (u) (nI 1)) rfl (Nat.zero_le _) (Nat.zero_le _) dX1_mutate_43 hQ9 rfl ⟨by rw [show jcM S _ _ _ = 1 by simp [jcM, h6, h39]]; rfl, fun h => (by rw [show jcM S _ _ _ = 1 by simp [jcM, h6, h39]] at h; cases h), fun h => (by rw [show jcM S _ _ _ = 1 by simp [jcM, h6, h39]] at h; cases h), fun _ => hS9⟩
  · refine ja_aload_n K 0 dX1_mutate_9 rfl ?_
    refine ja_iload_n K 2 dX1_mutate_10 rfl ?_
    refine ja_callVI K (q0 := 0) (qc := (RX1, TX1, 16)) (st := [.ref (q 0)]) [.int (c9)] (jd_isNode l D q cI cZ S (u) hW9 hS9 (c9)) (cwV 1 K.1.2.2.2.2 (gX1_X1_isNode _) rfl rfl rfl (by decide +kernel) (by rw [hR9]; exact ⟨Nat.le_of_ble_eq_true rfl, Nat.le_of_ble_eq_true rfl⟩)) rfl rfl rfl rfl rfl (Nat.le_of_ble_eq_true rfl) dX1_mutate_11 (by rw [hR9]; exact ⟨Nat.le_of_ble_eq_true rfl, Nat.le_of_ble_eq_true rfl⟩) (fun r9 u9 h9 => ?_)
    obtain ⟨rfl, rfl⟩ := h9
    refine ja_if_ne K (tgt := 21) (jin (c9) (jN S) = true) dX1_mutate_14 (by decide) (jbI_nz _) (fun h14 => ?_) (fun h14 => ?_)
    · obtain ⟨i, hi, rfl⟩ := jin_of (n := jK S) (by simpa using h6) (by omega)
      have vi := jv_nI (n := i) (by omega)
      obtain ⟨c0, hc0, rfl⟩ := jin_of (n := jN S) (by simpa using h14) (by omega)
      have vc0 := jv_nI (n := c0) (by omega)
      refine ja_iload_n K 3 dX1_mutate_21 rfl ?_
      refine ja_iconst K (-1) dX1_mutate_22 (by decide) ?_
      refine ja_icmp_lt K (tgt := 31) (z < -1) dX1_mutate_23 (by decide) Iff.rfl (fun h23 => ?_) (fun h23 => ?_)
      · have f23 : z < -1 ∨ nI 4 ≤ z := Or.inl h23
        refine ja_iconst K (nI 2) dX1_mutate_31 (by decide) ?_
        refine ja_goto K (tgt := 36) dX1_mutate_32 (by decide) ?_
        refine ja_callVI K (q0 := 0) (qc := (RX1, TX1, 16)) (st := []) [.int (nI 2)] (jd_refused l D q cI cZ (u) (2) (by omega)) (cwV 1 K.1.2.2.2.2 (gX1_X1_refused _) rfl rfl rfl (by decide +kernel) (by rw [hR9]; exact ⟨Nat.le_of_ble_eq_true rfl, Nat.le_of_ble_eq_true rfl⟩)) rfl rfl rfl rfl rfl (Nat.le_of_ble_eq_true rfl) dX1_mutate_36 (by rw [hR9]; exact ⟨Nat.le_of_ble_eq_true rfl, Nat.le_of_ble_eq_true rfl⟩) (fun r9 u9 h9 => ?_)
        obtain ⟨rfl, rfl⟩ := h9
        refine ja_if_eq K (tgt := 44) (decide (0 < 2) = false) dX1_mutate_39 (by decide) (jbI_ne _) (fun h39 => ?_) (fun h39 => ?_)
        · exact absurd h39 (by decide)
        · refine ja_iconst K (nI 0) dX1_mutate_42 (by decide) ?_
          exact ja_iret K (jmsF (u) (nI 2)) rfl (Nat.zero_le _) (Nat.zero_le _) dX1_mutate_43 hQ9 rfl ⟨by rw [show jcM S _ _ _ = 2 by simp [jcM, h6, h14, vi, vc0, h23, f23, h39]]; rfl, fun h => (by rw [show jcM S _ _ _ = 2 by simp [jcM, h6, h14, vi, vc0, h23, f23, h39]] at h; cases h), fun h => (by rw [show jcM S _ _ _ = 2 by simp [jcM, h6, h14, vi, vc0, h23, f23, h39]] at h; cases h), fun _ => hS9⟩
      · refine ja_iload_n K 3 dX1_mutate_26 rfl ?_
        refine ja_iconst K (nI 3) dX1_mutate_27 (by decide) ?_
        refine ja_icmp_le K (tgt := 35) (z ≤ nI 3) dX1_mutate_28 (by decide) Iff.rfl (fun h28 => ?_) (fun h28 => ?_)
        · have g28 : z < nI 4 := by rw [Int32.le_iff_toInt_le, nI_toInt (by omega)] at h28; rw [Int32.lt_iff_toInt_lt, nI_toInt (by omega)]; omega
          have f28 : ¬ (z < -1 ∨ nI 4 ≤ z) := fun h => h.elim h23 (fun h => by rw [Int32.lt_iff_toInt_lt] at g28; rw [Int32.le_iff_toInt_le] at h; omega)
          obtain ⟨o, rfl, ho⟩ := jlo_of h23 g28
          refine ja_iconst K (nI 0) dX1_mutate_35 (by decide) ?_
          refine ja_callVI K (q0 := 0) (qc := (RX1, TX1, 16)) (st := []) [.int (nI 0)] (jd_refused l D q cI cZ (u) (0) (by omega)) (cwV 1 K.1.2.2.2.2 (gX1_X1_refused _) rfl rfl rfl (by decide +kernel) (by rw [hR9]; exact ⟨Nat.le_of_ble_eq_true rfl, Nat.le_of_ble_eq_true rfl⟩)) rfl rfl rfl rfl rfl (Nat.le_of_ble_eq_true rfl) dX1_mutate_36 (by rw [hR9]; exact ⟨Nat.le_of_ble_eq_true rfl, Nat.le_of_ble_eq_true rfl⟩) (fun r9 u9 h9 => ?_)
          obtain ⟨rfl, rfl⟩ := h9
          refine ja_if_eq K (tgt := 44) (decide (0 < 0) = false) dX1_mutate_39 (by decide) (jbI_ne _) (fun h39 => ?_) (fun h39 => ?_)
          · refine ja_aload_n K 0 dX1_mutate_44 rfl ?_
            refine ja_get K hu9 0 rfl rfl 8 (by decide) (List.mem_cons_of_mem _ kfX1_26) rfl rfl dX1_mutate_45 ?_
            refine ja_bipush K (nI 14) dX1_mutate_48 (by decide) ?_
            refine ja_iload_n K 1 dX1_mutate_50 rfl ?_
            refine ja_imul K (nI ((14 * i))) dX1_mutate_51 (pk_mul _ _) ?_
            refine ja_iload_n K 2 dX1_mutate_52 rfl ?_
            refine ja_iadd K (nI (((14 * i) + c0))) dX1_mutate_53 (nI_add _ _) ?_
            refine ja_iald K (v := nI ((joN (jL S (i) (c0))))) 6 0 rfl rfl (((14 * i) + c0)) rfl (by omega) (by decide) (rL _ _ (by omega) (by omega)) dX1_mutate_54 ?_
            refine ja_iconst K (nI 1) dX1_mutate_55 (by decide) ?_
            refine ja_isub K (jeI (jL S (i) (c0))) dX1_mutate_56 (joN_eI1 _) ?_
            refine ja_istore K (lv1 := [(0, .ref (q 0)), (1, .int (nI (i))), (2, .int (nI (c0))), (3, .int (jeI (o))), (4, .int (jeI (jL S (i) (c0))))]) dX1_mutate_57 (by decide) rfl rfl ?_
            refine ja_aload_n K 0 dX1_mutate_59 rfl ?_
            refine ja_get K hu9 0 rfl rfl 8 (by decide) (List.mem_cons_of_mem _ kfX1_26) rfl rfl dX1_mutate_60 ?_
            refine ja_bipush K (nI 14) dX1_mutate_63 (by decide) ?_
            refine ja_iload_n K 1 dX1_mutate_65 rfl ?_
            refine ja_imul K (nI ((14 * i))) dX1_mutate_66 (pk_mul _ _) ?_
            refine ja_iload_n K 2 dX1_mutate_67 rfl ?_
            refine ja_iadd K (nI (((14 * i) + c0))) dX1_mutate_68 (nI_add _ _) ?_
            refine ja_iload_n K 3 dX1_mutate_69 rfl ?_
            refine ja_iconst K (nI 1) dX1_mutate_70 (by decide) ?_
            refine ja_iadd K (nI ((joN o))) dX1_mutate_71 (jeI_joN _) ?_
            refine ja_iast K (ws1 := jmc q cI cZ (jmsL (jmsF (u) (nI 0)) (upd (jmL u) (14 * i + c0) (nI (joN o))))) 6 0 rfl rfl (((14 * i) + c0)) rfl (by omega) (by decide) dX1_mutate_72 rfl ?_
            refine ja_iload K 4 dX1_mutate_73 rfl ?_
            exact ja_iret K (jmsL (jmsF (u) (nI 0)) (upd (jmL u) (14 * i + c0) (nI (joN o)))) rfl (Nat.zero_le _) (Nat.zero_le _) dX1_mutate_75 hQ9 rfl ⟨by rw [show jcM S (nI i) (nI c0) (jeI o) = 0 from by simp only [jcM, if_neg f28]; simp [h6, h14, vi, vc0, f28, h39]]; rfl, fun _ => by rw [vi, vc0], fun _ => by rw [vi, vc0, jlo_eI ho]; exact jmR1_setL hS9 wn (by omega) (by omega) _, fun h => absurd (show jcM S (nI i) (nI c0) (jeI o) = 0 from by simp only [jcM, if_neg f28]; simp [h6, h14, vi, vc0, f28, h39]) h⟩
          · exact absurd (by decide) h39
        · have f28 : nI 4 ≤ z := by rw [Int32.le_iff_toInt_le, nI_toInt (by omega)] at h28; rw [Int32.le_iff_toInt_le, nI_toInt (by omega)]; omega
          refine ja_iconst K (nI 2) dX1_mutate_31 (by decide) ?_
          refine ja_goto K (tgt := 36) dX1_mutate_32 (by decide) ?_
          refine ja_callVI K (q0 := 0) (qc := (RX1, TX1, 16)) (st := []) [.int (nI 2)] (jd_refused l D q cI cZ (u) (2) (by omega)) (cwV 1 K.1.2.2.2.2 (gX1_X1_refused _) rfl rfl rfl (by decide +kernel) (by rw [hR9]; exact ⟨Nat.le_of_ble_eq_true rfl, Nat.le_of_ble_eq_true rfl⟩)) rfl rfl rfl rfl rfl (Nat.le_of_ble_eq_true rfl) dX1_mutate_36 (by rw [hR9]; exact ⟨Nat.le_of_ble_eq_true rfl, Nat.le_of_ble_eq_true rfl⟩) (fun r9 u9 h9 => ?_)
          obtain ⟨rfl, rfl⟩ := h9
          refine ja_if_eq K (tgt := 44) (decide (0 < 2) = false) dX1_mutate_39 (by decide) (jbI_ne _) (fun h39 => ?_) (fun h39 => ?_)
          · exact absurd h39 (by decide)
          · refine ja_iconst K (nI 0) dX1_mutate_42 (by decide) ?_
            exact ja_iret K (jmsF (u) (nI 2)) rfl (Nat.zero_le _) (Nat.zero_le _) dX1_mutate_43 hQ9 rfl ⟨by rw [show jcM S _ _ _ = 2 by simp [jcM, h6, h14, vi, vc0, h23, h28, f28, h39]]; rfl, fun h => (by rw [show jcM S _ _ _ = 2 by simp [jcM, h6, h14, vi, vc0, h23, h28, f28, h39]] at h; cases h), fun h => (by rw [show jcM S _ _ _ = 2 by simp [jcM, h6, h14, vi, vc0, h23, h28, f28, h39]] at h; cases h), fun _ => hS9⟩
    · refine ja_iconst K (nI 1) dX1_mutate_17 (by decide) ?_
      refine ja_goto K (tgt := 36) dX1_mutate_18 (by decide) ?_
      refine ja_callVI K (q0 := 0) (qc := (RX1, TX1, 16)) (st := []) [.int (nI 1)] (jd_refused l D q cI cZ (u) (1) (by omega)) (cwV 1 K.1.2.2.2.2 (gX1_X1_refused _) rfl rfl rfl (by decide +kernel) (by rw [hR9]; exact ⟨Nat.le_of_ble_eq_true rfl, Nat.le_of_ble_eq_true rfl⟩)) rfl rfl rfl rfl rfl (Nat.le_of_ble_eq_true rfl) dX1_mutate_36 (by rw [hR9]; exact ⟨Nat.le_of_ble_eq_true rfl, Nat.le_of_ble_eq_true rfl⟩) (fun r9 u9 h9 => ?_)
      obtain ⟨rfl, rfl⟩ := h9
      refine ja_if_eq K (tgt := 44) (decide (0 < 1) = false) dX1_mutate_39 (by decide) (jbI_ne _) (fun h39 => ?_) (fun h39 => ?_)
      · exact absurd h39 (by decide)
      · refine ja_iconst K (nI 0) dX1_mutate_42 (by decide) ?_
        exact ja_iret K (jmsF (u) (nI 1)) rfl (Nat.zero_le _) (Nat.zero_le _) dX1_mutate_43 hQ9 rfl ⟨by rw [show jcM S _ _ _ = 1 by simp [jcM, h6, h14, h39]]; rfl, fun h => (by rw [show jcM S _ _ _ = 1 by simp [jcM, h6, h14, h39]] at h; cases h), fun h => (by rw [show jcM S _ _ _ = 1 by simp [jcM, h6, h14, h39]] at h; cases h), fun _ => hS9⟩
