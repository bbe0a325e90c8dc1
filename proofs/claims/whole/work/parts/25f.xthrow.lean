set_option maxRecDepth 100000 in
set_option maxHeartbeats 4000000 in
theorem jc_time (l : Launch) (hst9 : l.stackTraces = false) (D : va_G) (q : Nat → Nat) (cI cZ : ClassId) (S : JS) (u : JX) (hW9 : jWf S) (hS9 : jxR1 S u) (c9 : Int32) : jkX l yX0_time wsX0_time ({ frames := 6, cells := 1, slots := 6, locals := 90 }) D vwCl (jxt cI cZ) jzs jtx (jxc q cI cZ) [.ref (q 0), .int c9] (jxc q cI cZ u) (fun r u1 => jin c9 (jN S) = true ∧ nI (jT S (jv c9)) = r ∧ u = u1) (fun E u1 => u = u1 ∧ E = jEO ∧ jin c9 (jN S) = false) := by
  refine jkX_of (cc := cX0_time) (maxL := 2) (ret := (some .int)) (by decide) rfl (Nat.le_of_ble_eq_true rfl) ?_
  intro p e R s m args below meth c Q A K hn9 hR9 hEx9 hZ9 hQ9
  obtain ⟨rN, rT, rM, rU, rK, rP, rA, rL, rB⟩ := id hS9
  obtain ⟨wn, wt, wu, wk, wp, wl, wb⟩ := id hW9
  have hu9 : ∀ w ∈ u_ws RX0 TX0 13, w ∈ wsX0_time := fun w h => List.mem_cons_of_mem _ (ku_X0 w h)
  show jaW p l e R s m args below meth c 0 0 Q D vwCl A 2 (jxc q cI cZ u) [(0, .ref (q 0)), (1, .int (c9))] 0 []
  refine ja_aload_n K 0 dX0_time_0 rfl ?_
  refine ja_iload_n K 1 dX0_time_1 rfl ?_
  refine ja_callVI K (q0 := 0) (qc := (RX0, TX0, 13)) (st := []) [.int (c9)] (jc_isNode l D q cI cZ S (u) hW9 hS9 (c9)) (cwV 1 K.1.2.2.2.2 (gX0_X0_isNode _) rfl rfl rfl (by decide +kernel) (by rw [hR9]; exact ⟨Nat.le_of_ble_eq_true rfl, Nat.le_of_ble_eq_true rfl⟩)) rfl rfl rfl rfl rfl (Nat.le_of_ble_eq_true rfl) dX0_time_2 (by rw [hR9]; exact ⟨Nat.le_of_ble_eq_true rfl, Nat.le_of_ble_eq_true rfl⟩) (fun r9 u9 h9 => ?_)
  obtain ⟨rfl, rfl⟩ := h9
  refine ja_if_ne K (tgt := 18) (jin (c9) (jN S) = true) dX0_time_5 (by decide) (jbI_nz _) (fun h5 => ?_) (fun h5 => ?_)
  · obtain ⟨c0, hc0, rfl⟩ := jin_of (n := jN S) (by simpa using h5) (by omega)
    have vc0 := jv_nI (n := c0) (by omega)
    refine ja_aload_n K 0 dX0_time_18 rfl ?_
    refine ja_get K hu9 0 rfl rfl 1 (by decide) (List.mem_cons_of_mem _ kfX0_13) rfl rfl dX0_time_19 ?_
    refine ja_iload_n K 1 dX0_time_22 rfl ?_
    refine ja_iald K (v := nI ((jT S (c0)))) 1 0 rfl rfl (c0) rfl (by omega) (by decide) (rT _ (by omega)) dX0_time_23 ?_
    exact ja_iretX K (u) rfl (by rfl) (Nat.zero_le _) (Nat.zero_le _) dX0_time_24 hQ9 rfl ⟨h5, by rw [vc0], rfl⟩
  · exact ja_throwS K (names := jnm) (text := "no such node") (u) hst9 hEx9 hZ9 (by decide +kernel) (by decide +kernel) (List.mem_cons_of_mem _ kcX0_77) (List.mem_cons_of_mem _ kini_IOB) (by decide +kernel) (fun w h => List.mem_cons_of_mem _ (jvO1 w h)) jvO2 jvO3 dX0_time_8 dX0_time_11 dX0_time_12 dX0_time_14 dX0_time_17 (by rw [hR9]; exact Nat.le_of_ble_eq_true rfl) (by rw [hR9]; exact Nat.le_of_ble_eq_true rfl) (by rw [hR9]; exact Nat.le_of_ble_eq_true rfl) (by rw [hR9]; exact Nat.le_of_ble_eq_true rfl) (Nat.le_of_ble_eq_true rfl) (Nat.le_of_ble_eq_true rfl) hQ9 rfl ⟨rfl, rfl, by simpa using h5⟩
