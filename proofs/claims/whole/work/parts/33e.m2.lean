set_option maxRecDepth 100000 in
set_option maxHeartbeats 4000000 in
theorem jd_letter (l : Launch) (D : va_G) (q : Nat → Nat) (cI cZ : ClassId) (S : JS) (u : JM) (hW9 : jWf S) (hS9 : jmR1 S u) (i9 c9 : Int32) : jkI l yX1_letter wsX1_letter ({ frames := 2, cells := 0, slots := 0, locals := 45 }) D vwCl (jxt cI cZ) (jmc q cI cZ) [.ref (q 0), .int i9, .int c9] (jmc q cI cZ u) (fun r u1 => jmF u1 = nI (jc1 (jin i9 (jK S) && jin c9 (jN S))) ∧ ((jin i9 (jK S) && jin c9 (jN S)) = true → nI (jlf S (jv i9) (jv c9)) = r) ∧ jmR1 S u1) := by
  refine jkI_of (cc := cX1_letter) (maxL := 3) (ret := (some .int)) (by decide) rfl (Nat.le_of_ble_eq_true rfl) ?_
  intro p e R s m args below meth c Q A K hn9 hR9 hQ9
  obtain ⟨rN, rT, rM, rU, rK, rP, rA, rL, rB⟩ := id hS9
  obtain ⟨wn, wt, wu, wk, wp, wl, wb⟩ := id hW9
  have hu9 : ∀ w ∈ u_ws RX1 TX1 16, w ∈ wsX1_letter := fun w h => List.mem_cons_of_mem _ (ku_X1 w h)
  show jaW p l e R s m args below meth c 0 0 Q D vwCl A 3 (jmc q cI cZ u) [(0, .ref (q 0)), (1, .int (i9)), (2, .int (c9))] 0 []
  refine ja_aload_n K 0 dX1_letter_0 rfl ?_
  refine ja_aload_n K 0 dX1_letter_1 rfl ?_
  refine ja_iload_n K 1 dX1_letter_2 rfl ?_
  refine ja_callVI K (q0 := 0) (qc := (RX1, TX1, 16)) (st := [.ref (q 0)]) [.int (i9)] (jd_isSite l D q cI cZ S (u) hW9 hS9 (i9)) (cwV 1 K.1.2.2.2.2 (gX1_X1_isSite _) rfl rfl rfl (by decide +kernel) (by rw [hR9]; exact ⟨Nat.le_of_ble_eq_true rfl, Nat.le_of_ble_eq_true rfl⟩)) rfl rfl rfl rfl rfl (Nat.le_of_ble_eq_true rfl) dX1_letter_3 (by rw [hR9]; exact ⟨Nat.le_of_ble_eq_true rfl, Nat.le_of_ble_eq_true rfl⟩) (fun r9 u9 h9 => ?_)
  obtain ⟨rfl, rfl⟩ := h9
  refine ja_if_eq K (tgt := 21) (jin (i9) (jK S) = false) dX1_letter_6 (by decide) (jbI_ne _) (fun h6 => ?_) (fun h6 => ?_)
  · refine ja_iconst K (nI 1) dX1_letter_21 (by decide) ?_
    refine ja_callVI K (q0 := 0) (qc := (RX1, TX1, 16)) (st := []) [.int (nI 1)] (jd_refused l D q cI cZ (u) (1) (by omega)) (cwV 1 K.1.2.2.2.2 (gX1_X1_refused _) rfl rfl rfl (by decide +kernel) (by rw [hR9]; exact ⟨Nat.le_of_ble_eq_true rfl, Nat.le_of_ble_eq_true rfl⟩)) rfl rfl rfl rfl rfl (Nat.le_of_ble_eq_true rfl) dX1_letter_22 (by rw [hR9]; exact ⟨Nat.le_of_ble_eq_true rfl, Nat.le_of_ble_eq_true rfl⟩) (fun r9 u9 h9 => ?_)
    obtain ⟨rfl, rfl⟩ := h9
    refine ja_if_eq K (tgt := 32) (decide (0 < 1) = false) dX1_letter_25 (by decide) (jbI_ne _) (fun h25 => ?_) (fun h25 => ?_)
    · exact absurd h25 (by decide)
    · refine ja_iconst K (nI 0) dX1_letter_28 (by decide) ?_
      refine ja_goto K (tgt := 38) dX1_letter_29 (by decide) ?_
      exact ja_iret K (jmsF (u) (nI 1)) rfl (Nat.zero_le _) (Nat.zero_le _) dX1_letter_38 hQ9 rfl ⟨by rw [h6]; rfl, fun h => (by rw [h6] at h; cases h), hS9⟩
  · refine ja_aload_n K 0 dX1_letter_9 rfl ?_
    refine ja_iload_n K 2 dX1_letter_10 rfl ?_
    refine ja_callVI K (q0 := 0) (qc := (RX1, TX1, 16)) (st := [.ref (q 0)]) [.int (c9)] (jd_isNode l D q cI cZ S (u) hW9 hS9 (c9)) (cwV 1 K.1.2.2.2.2 (gX1_X1_isNode _) rfl rfl rfl (by decide +kernel) (by rw [hR9]; exact ⟨Nat.le_of_ble_eq_true rfl, Nat.le_of_ble_eq_true rfl⟩)) rfl rfl rfl rfl rfl (Nat.le_of_ble_eq_true rfl) dX1_letter_11 (by rw [hR9]; exact ⟨Nat.le_of_ble_eq_true rfl, Nat.le_of_ble_eq_true rfl⟩) (fun r9 u9 h9 => ?_)
    obtain ⟨rfl, rfl⟩ := h9
    refine ja_if_eq K (tgt := 21) (jin (c9) (jN S) = false) dX1_letter_14 (by decide) (jbI_ne _) (fun h14 => ?_) (fun h14 => ?_)
    · refine ja_iconst K (nI 1) dX1_letter_21 (by decide) ?_
      refine ja_callVI K (q0 := 0) (qc := (RX1, TX1, 16)) (st := []) [.int (nI 1)] (jd_refused l D q cI cZ (u) (1) (by omega)) (cwV 1 K.1.2.2.2.2 (gX1_X1_refused _) rfl rfl rfl (by decide +kernel) (by rw [hR9]; exact ⟨Nat.le_of_ble_eq_true rfl, Nat.le_of_ble_eq_true rfl⟩)) rfl rfl rfl rfl rfl (Nat.le_of_ble_eq_true rfl) dX1_letter_22 (by rw [hR9]; exact ⟨Nat.le_of_ble_eq_true rfl, Nat.le_of_ble_eq_true rfl⟩) (fun r9 u9 h9 => ?_)
      obtain ⟨rfl, rfl⟩ := h9
      refine ja_if_eq K (tgt := 32) (decide (0 < 1) = false) dX1_letter_25 (by decide) (jbI_ne _) (fun h25 => ?_) (fun h25 => ?_)
      · exact absurd h25 (by decide)
      · refine ja_iconst K (nI 0) dX1_letter_28 (by decide) ?_
        refine ja_goto K (tgt := 38) dX1_letter_29 (by decide) ?_
        exact ja_iret K (jmsF (u) (nI 1)) rfl (Nat.zero_le _) (Nat.zero_le _) dX1_letter_38 hQ9 rfl ⟨by rw [h14, Bool.and_false]; rfl, fun h => (by rw [h14, Bool.and_false] at h; cases h), hS9⟩
    · obtain ⟨i, hi, rfl⟩ := jin_of (n := jK S) (by simpa using h6) (by omega)
      have vi := jv_nI (n := i) (by omega)
      obtain ⟨c0, hc0, rfl⟩ := jin_of (n := jN S) (by simpa using h14) (by omega)
      have vc0 := jv_nI (n := c0) (by omega)
      refine ja_iconst K (nI 0) dX1_letter_17 (by decide) ?_
      refine ja_goto K (tgt := 22) dX1_letter_18 (by decide) ?_
      refine ja_callVI K (q0 := 0) (qc := (RX1, TX1, 16)) (st := []) [.int (nI 0)] (jd_refused l D q cI cZ (u) (0) (by omega)) (cwV 1 K.1.2.2.2.2 (gX1_X1_refused _) rfl rfl rfl (by decide +kernel) (by rw [hR9]; exact ⟨Nat.le_of_ble_eq_true rfl, Nat.le_of_ble_eq_true rfl⟩)) rfl rfl rfl rfl rfl (Nat.le_of_ble_eq_true rfl) dX1_letter_22 (by rw [hR9]; exact ⟨Nat.le_of_ble_eq_true rfl, Nat.le_of_ble_eq_true rfl⟩) (fun r9 u9 h9 => ?_)
      obtain ⟨rfl, rfl⟩ := h9
      refine ja_if_eq K (tgt := 32) (decide (0 < 0) = false) dX1_letter_25 (by decide) (jbI_ne _) (fun h25 => ?_) (fun h25 => ?_)
      · refine ja_aload_n K 0 dX1_letter_32 rfl ?_
        refine ja_iload_n K 1 dX1_letter_33 rfl ?_
        refine ja_iload_n K 2 dX1_letter_34 rfl ?_
        refine ja_callVI K (q0 := 0) (qc := (RX1, TX1, 16)) (st := []) [.int (nI (i)), .int (nI (c0))] (jd_letterAt l D q cI cZ S (jmsF (u) (nI 0)) hW9 hS9 (i) (c0) (by omega) (by omega)) (cwV 2 K.1.2.2.2.2 (gX1_X1_letterAt _) rfl rfl rfl (by decide +kernel) (by rw [hR9]; exact ⟨Nat.le_of_ble_eq_true rfl, Nat.le_of_ble_eq_true rfl⟩)) rfl rfl rfl rfl rfl (Nat.le_of_ble_eq_true rfl) dX1_letter_35 (by rw [hR9]; exact ⟨Nat.le_of_ble_eq_true rfl, Nat.le_of_ble_eq_true rfl⟩) (fun r9 u9 h9 => ?_)
        obtain ⟨rfl, rfl⟩ := h9
        exact ja_iret K (jmsF (u) (nI 0)) rfl (Nat.zero_le _) (Nat.zero_le _) dX1_letter_38 hQ9 rfl ⟨by rw [eq_true_of_ne_false h6, eq_true_of_ne_false h14]; rfl, fun _ => by rw [vi, vc0], hS9⟩
      · exact absurd (by decide) h25
