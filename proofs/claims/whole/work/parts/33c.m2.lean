set_option maxRecDepth 100000 in
set_option maxHeartbeats 4000000 in
theorem jd_time (l : Launch) (D : va_G) (q : Nat → Nat) (cI cZ : ClassId) (S : JS) (u : JM) (hW9 : jWf S) (hS9 : jmR1 S u) (c9 : Int32) : jkI l yX1_time wsX1_time ({ frames := 1, cells := 0, slots := 0, locals := 21 }) D vwCl (jxt cI cZ) (jmc q cI cZ) [.ref (q 0), .int c9] (jmc q cI cZ u) (fun r u1 => jmF u1 = nI (jc1 (jin c9 (jN S))) ∧ (jin c9 (jN S) = true → nI (jT S (jv c9)) = r) ∧ jmR1 S u1) := by
  refine jkI_of (cc := cX1_time) (maxL := 2) (ret := (some .int)) (by decide) rfl (Nat.le_of_ble_eq_true rfl) ?_
  intro p e R s m args below meth c Q A K hn9 hR9 hQ9
  obtain ⟨rN, rT, rM, rU, rK, rP, rA, rL, rB⟩ := id hS9
  obtain ⟨wn, wt, wu, wk, wp, wl, wb⟩ := id hW9
  have hu9 : ∀ w ∈ u_ws RX1 TX1 16, w ∈ wsX1_time := fun w h => List.mem_cons_of_mem _ (ku_X1 w h)
  show jaW p l e R s m args below meth c 0 0 Q D vwCl A 2 (jmc q cI cZ u) [(0, .ref (q 0)), (1, .int (c9))] 0 []
  refine ja_aload_n K 0 dX1_time_0 rfl ?_
  refine ja_aload_n K 0 dX1_time_1 rfl ?_
  refine ja_iload_n K 1 dX1_time_2 rfl ?_
  refine ja_callVI K (q0 := 0) (qc := (RX1, TX1, 16)) (st := [.ref (q 0)]) [.int (c9)] (jd_isNode l D q cI cZ S (u) hW9 hS9 (c9)) (cwV 1 K.1.2.2.2.2 (gX1_X1_isNode _) rfl rfl rfl (by decide +kernel) (by rw [hR9]; exact ⟨Nat.le_of_ble_eq_true rfl, Nat.le_of_ble_eq_true rfl⟩)) rfl rfl rfl rfl rfl (Nat.le_of_ble_eq_true rfl) dX1_time_3 (by rw [hR9]; exact ⟨Nat.le_of_ble_eq_true rfl, Nat.le_of_ble_eq_true rfl⟩) (fun r9 u9 h9 => ?_)
  obtain ⟨rfl, rfl⟩ := h9
  refine ja_if_eq K (tgt := 13) (jin (c9) (jN S) = false) dX1_time_6 (by decide) (jbI_ne _) (fun h6 => ?_) (fun h6 => ?_)
  · refine ja_iconst K (nI 1) dX1_time_13 (by decide) ?_
    refine ja_callVI K (q0 := 0) (qc := (RX1, TX1, 16)) (st := []) [.int (nI 1)] (jd_refused l D q cI cZ (u) (1) (by omega)) (cwV 1 K.1.2.2.2.2 (gX1_X1_refused _) rfl rfl rfl (by decide +kernel) (by rw [hR9]; exact ⟨Nat.le_of_ble_eq_true rfl, Nat.le_of_ble_eq_true rfl⟩)) rfl rfl rfl rfl rfl (Nat.le_of_ble_eq_true rfl) dX1_time_14 (by rw [hR9]; exact ⟨Nat.le_of_ble_eq_true rfl, Nat.le_of_ble_eq_true rfl⟩) (fun r9 u9 h9 => ?_)
    obtain ⟨rfl, rfl⟩ := h9
    refine ja_if_eq K (tgt := 24) (decide (0 < 1) = false) dX1_time_17 (by decide) (jbI_ne _) (fun h17 => ?_) (fun h17 => ?_)
    · exact absurd h17 (by decide)
    · refine ja_iconst K (nI 0) dX1_time_20 (by decide) ?_
      refine ja_goto K (tgt := 30) dX1_time_21 (by decide) ?_
      exact ja_iret K (jmsF (u) (nI 1)) rfl (Nat.zero_le _) (Nat.zero_le _) dX1_time_30 hQ9 rfl ⟨by rw [h6]; rfl, fun h => (by rw [h6] at h; cases h), hS9⟩
  · obtain ⟨c0, hc0, rfl⟩ := jin_of (n := jN S) (by simpa using h6) (by omega)
    have vc0 := jv_nI (n := c0) (by omega)
    refine ja_iconst K (nI 0) dX1_time_9 (by decide) ?_
    refine ja_goto K (tgt := 14) dX1_time_10 (by decide) ?_
    refine ja_callVI K (q0 := 0) (qc := (RX1, TX1, 16)) (st := []) [.int (nI 0)] (jd_refused l D q cI cZ (u) (0) (by omega)) (cwV 1 K.1.2.2.2.2 (gX1_X1_refused _) rfl rfl rfl (by decide +kernel) (by rw [hR9]; exact ⟨Nat.le_of_ble_eq_true rfl, Nat.le_of_ble_eq_true rfl⟩)) rfl rfl rfl rfl rfl (Nat.le_of_ble_eq_true rfl) dX1_time_14 (by rw [hR9]; exact ⟨Nat.le_of_ble_eq_true rfl, Nat.le_of_ble_eq_true rfl⟩) (fun r9 u9 h9 => ?_)
    obtain ⟨rfl, rfl⟩ := h9
    refine ja_if_eq K (tgt := 24) (decide (0 < 0) = false) dX1_time_17 (by decide) (jbI_ne _) (fun h17 => ?_) (fun h17 => ?_)
    · refine ja_aload_n K 0 dX1_time_24 rfl ?_
      refine ja_get K hu9 0 rfl rfl 2 (by decide) (List.mem_cons_of_mem _ kfX1_7) rfl rfl dX1_time_25 ?_
      refine ja_iload_n K 1 dX1_time_28 rfl ?_
      refine ja_iald K (v := nI ((jT S (c0)))) 1 0 rfl rfl (c0) rfl (by omega) (by decide) (rT _ (by omega)) dX1_time_29 ?_
      exact ja_iret K (jmsF (u) (nI 0)) rfl (Nat.zero_le _) (Nat.zero_le _) dX1_time_30 hQ9 rfl ⟨by rw [eq_true_of_ne_false h6]; rfl, fun _ => by rw [vc0], hS9⟩
    · exact absurd (by decide) h17
