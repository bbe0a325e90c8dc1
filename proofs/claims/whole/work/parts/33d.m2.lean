set_option maxRecDepth 100000 in
set_option maxHeartbeats 4000000 in
theorem jd_parent (l : Launch) (D : va_G) (q : Nat → Nat) (cI cZ : ClassId) (S : JS) (u : JM) (hW9 : jWf S) (hS9 : jmR1 S u) (x9 c9 : Int32) : jkI l yX1_parent wsX1_parent ({ frames := 1, cells := 0, slots := 0, locals := 22 }) D vwCl (jxt cI cZ) (jmc q cI cZ) [.ref (q 0), .int x9, .int c9] (jmc q cI cZ u) (fun r u1 => jmF u1 = nI (jc1 (jin x9 60 && jin c9 (jN S))) ∧ ((jin x9 60 && jin c9 (jN S)) = true → jeI (jU S (jv x9) (jv c9)) = r) ∧ jmR1 S u1) := by
  refine jkI_of (cc := cX1_parent) (maxL := 3) (ret := (some .int)) (by decide) rfl (Nat.le_of_ble_eq_true rfl) ?_
  intro p e R s m args below meth c Q A K hn9 hR9 hQ9
  obtain ⟨rN, rT, rM, rU, rK, rP, rA, rL, rB⟩ := id hS9
  obtain ⟨wn, wt, wu, wk, wp, wl, wb⟩ := id hW9
  have hu9 : ∀ w ∈ u_ws RX1 TX1 16, w ∈ wsX1_parent := fun w h => List.mem_cons_of_mem _ (ku_X1 w h)
  show jaW p l e R s m args below meth c 0 0 Q D vwCl A 3 (jmc q cI cZ u) [(0, .ref (q 0)), (1, .int (x9)), (2, .int (c9))] 0 []
  refine ja_aload_n K 0 dX1_parent_0 rfl ?_
  refine ja_iload_n K 1 dX1_parent_1 rfl ?_
  refine ja_callSI K (st := [.ref (q 0)]) [.int (x9)] (jd_isPlace l D q cI cZ (u) (x9)) (va_cwS 1 K.1.2.2.2.2 (gX1_X1_isPlace _) rfl rfl rfl (by decide +kernel) (by rw [hR9]; exact ⟨Nat.le_of_ble_eq_true rfl, Nat.le_of_ble_eq_true rfl⟩)) rfl rfl rfl (Nat.le_of_ble_eq_true rfl) dX1_parent_2 (by rw [hR9]; exact ⟨Nat.le_of_ble_eq_true rfl, Nat.le_of_ble_eq_true rfl⟩) (fun r9 u9 h9 => ?_)
  obtain ⟨rfl, rfl⟩ := h9
  refine ja_if_eq K (tgt := 20) (jin (x9) 60 = false) dX1_parent_5 (by decide) (jbI_ne _) (fun h5 => ?_) (fun h5 => ?_)
  · refine ja_iconst K (nI 1) dX1_parent_20 (by decide) ?_
    refine ja_callVI K (q0 := 0) (qc := (RX1, TX1, 16)) (st := []) [.int (nI 1)] (jd_refused l D q cI cZ (u) (1) (by omega)) (cwV 1 K.1.2.2.2.2 (gX1_X1_refused _) rfl rfl rfl (by decide +kernel) (by rw [hR9]; exact ⟨Nat.le_of_ble_eq_true rfl, Nat.le_of_ble_eq_true rfl⟩)) rfl rfl rfl rfl rfl (Nat.le_of_ble_eq_true rfl) dX1_parent_21 (by rw [hR9]; exact ⟨Nat.le_of_ble_eq_true rfl, Nat.le_of_ble_eq_true rfl⟩) (fun r9 u9 h9 => ?_)
    obtain ⟨rfl, rfl⟩ := h9
    refine ja_if_eq K (tgt := 31) (decide (0 < 1) = false) dX1_parent_24 (by decide) (jbI_ne _) (fun h24 => ?_) (fun h24 => ?_)
    · exact absurd h24 (by decide)
    · refine ja_iconst K (nI 0) dX1_parent_27 (by decide) ?_
      refine ja_goto K (tgt := 37) dX1_parent_28 (by decide) ?_
      exact ja_iret K (jmsF (u) (nI 1)) rfl (Nat.zero_le _) (Nat.zero_le _) dX1_parent_37 hQ9 rfl ⟨by rw [h5]; rfl, fun h => (by rw [h5] at h; cases h), hS9⟩
  · refine ja_aload_n K 0 dX1_parent_8 rfl ?_
    refine ja_iload_n K 2 dX1_parent_9 rfl ?_
    refine ja_callVI K (q0 := 0) (qc := (RX1, TX1, 16)) (st := [.ref (q 0)]) [.int (c9)] (jd_isNode l D q cI cZ S (u) hW9 hS9 (c9)) (cwV 1 K.1.2.2.2.2 (gX1_X1_isNode _) rfl rfl rfl (by decide +kernel) (by rw [hR9]; exact ⟨Nat.le_of_ble_eq_true rfl, Nat.le_of_ble_eq_true rfl⟩)) rfl rfl rfl rfl rfl (Nat.le_of_ble_eq_true rfl) dX1_parent_10 (by rw [hR9]; exact ⟨Nat.le_of_ble_eq_true rfl, Nat.le_of_ble_eq_true rfl⟩) (fun r9 u9 h9 => ?_)
    obtain ⟨rfl, rfl⟩ := h9
    refine ja_if_eq K (tgt := 20) (jin (c9) (jN S) = false) dX1_parent_13 (by decide) (jbI_ne _) (fun h13 => ?_) (fun h13 => ?_)
    · refine ja_iconst K (nI 1) dX1_parent_20 (by decide) ?_
      refine ja_callVI K (q0 := 0) (qc := (RX1, TX1, 16)) (st := []) [.int (nI 1)] (jd_refused l D q cI cZ (u) (1) (by omega)) (cwV 1 K.1.2.2.2.2 (gX1_X1_refused _) rfl rfl rfl (by decide +kernel) (by rw [hR9]; exact ⟨Nat.le_of_ble_eq_true rfl, Nat.le_of_ble_eq_true rfl⟩)) rfl rfl rfl rfl rfl (Nat.le_of_ble_eq_true rfl) dX1_parent_21 (by rw [hR9]; exact ⟨Nat.le_of_ble_eq_true rfl, Nat.le_of_ble_eq_true rfl⟩) (fun r9 u9 h9 => ?_)
      obtain ⟨rfl, rfl⟩ := h9
      refine ja_if_eq K (tgt := 31) (decide (0 < 1) = false) dX1_parent_24 (by decide) (jbI_ne _) (fun h24 => ?_) (fun h24 => ?_)
      · exact absurd h24 (by decide)
      · refine ja_iconst K (nI 0) dX1_parent_27 (by decide) ?_
        refine ja_goto K (tgt := 37) dX1_parent_28 (by decide) ?_
        exact ja_iret K (jmsF (u) (nI 1)) rfl (Nat.zero_le _) (Nat.zero_le _) dX1_parent_37 hQ9 rfl ⟨by rw [h13, Bool.and_false]; rfl, fun h => (by rw [h13, Bool.and_false] at h; cases h), hS9⟩
    · obtain ⟨x0, hx0, rfl⟩ := jin_of (n := 60) (by simpa using h5) (by omega)
      have vx0 := jv_nI (n := x0) (by omega)
      obtain ⟨c0, hc0, rfl⟩ := jin_of (n := jN S) (by simpa using h13) (by omega)
      have vc0 := jv_nI (n := c0) (by omega)
      refine ja_iconst K (nI 0) dX1_parent_16 (by decide) ?_
      refine ja_goto K (tgt := 21) dX1_parent_17 (by decide) ?_
      refine ja_callVI K (q0 := 0) (qc := (RX1, TX1, 16)) (st := []) [.int (nI 0)] (jd_refused l D q cI cZ (u) (0) (by omega)) (cwV 1 K.1.2.2.2.2 (gX1_X1_refused _) rfl rfl rfl (by decide +kernel) (by rw [hR9]; exact ⟨Nat.le_of_ble_eq_true rfl, Nat.le_of_ble_eq_true rfl⟩)) rfl rfl rfl rfl rfl (Nat.le_of_ble_eq_true rfl) dX1_parent_21 (by rw [hR9]; exact ⟨Nat.le_of_ble_eq_true rfl, Nat.le_of_ble_eq_true rfl⟩) (fun r9 u9 h9 => ?_)
      obtain ⟨rfl, rfl⟩ := h9
      refine ja_if_eq K (tgt := 31) (decide (0 < 0) = false) dX1_parent_24 (by decide) (jbI_ne _) (fun h24 => ?_) (fun h24 => ?_)
      · refine ja_aload_n K 0 dX1_parent_31 rfl ?_
        refine ja_iload_n K 2 dX1_parent_32 rfl ?_
        refine ja_iload_n K 1 dX1_parent_33 rfl ?_
        refine ja_callVI K (q0 := 0) (qc := (RX1, TX1, 16)) (st := []) [.int (nI (c0)), .int (nI (x0))] (jd_up l D q cI cZ (jmsF (u) (nI 0)) (c0) (x0) (by omega) (by omega) (jU S (x0) (c0)) (rU (x0) (c0) (by omega) (by omega))) (cwV 2 K.1.2.2.2.2 (gX1_X1_up _) rfl rfl rfl (by decide +kernel) (by rw [hR9]; exact ⟨Nat.le_of_ble_eq_true rfl, Nat.le_of_ble_eq_true rfl⟩)) rfl rfl rfl rfl rfl (Nat.le_of_ble_eq_true rfl) dX1_parent_34 (by rw [hR9]; exact ⟨Nat.le_of_ble_eq_true rfl, Nat.le_of_ble_eq_true rfl⟩) (fun r9 u9 h9 => ?_)
        obtain ⟨rfl, rfl⟩ := h9
        exact ja_iret K (jmsF (u) (nI 0)) rfl (Nat.zero_le _) (Nat.zero_le _) dX1_parent_37 hQ9 rfl ⟨by rw [eq_true_of_ne_false h5, eq_true_of_ne_false h13]; rfl, fun _ => by rw [vx0, vc0], hS9⟩
      · exact absurd (by decide) h24
