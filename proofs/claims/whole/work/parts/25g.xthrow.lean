set_option maxRecDepth 100000 in
set_option maxHeartbeats 4000000 in
theorem jc_parent (l : Launch) (hst9 : l.stackTraces = false) (D : va_G) (q : Nat → Nat) (cI cZ : ClassId) (S : JS) (u : JX) (hW9 : jWf S) (hS9 : jxR1 S u) (x9 c9 : Int32) : jkX l yX0_parent wsX0_parent ({ frames := 6, cells := 1, slots := 6, locals := 90 }) D vwCl (jxt cI cZ) jzs jtx (jxc q cI cZ) [.ref (q 0), .int x9, .int c9] (jxc q cI cZ u) (fun r u1 => (jin x9 60 && jin c9 (jN S)) = true ∧ jeI (jU S (jv x9) (jv c9)) = r ∧ u = u1) (fun E u1 => u = u1 ∧ E = jEO ∧ (jin x9 60 && jin c9 (jN S)) = false) := by
  refine jkX_of (cc := cX0_parent) (maxL := 3) (ret := (some .int)) (by decide) rfl (Nat.le_of_ble_eq_true rfl) ?_
  intro p e R s m args below meth c Q A K hn9 hR9 hEx9 hZ9 hQ9
  obtain ⟨rN, rT, rM, rU, rK, rP, rA, rL, rB⟩ := id hS9
  obtain ⟨wn, wt, wu, wk, wp, wl, wb⟩ := id hW9
  have hu9 : ∀ w ∈ u_ws RX0 TX0 13, w ∈ wsX0_parent := fun w h => List.mem_cons_of_mem _ (ku_X0 w h)
  show jaW p l e R s m args below meth c 0 0 Q D vwCl A 3 (jxc q cI cZ u) [(0, .ref (q 0)), (1, .int (x9)), (2, .int (c9))] 0 []
  refine ja_iload_n K 1 dX0_parent_0 rfl ?_
  refine ja_callSI K (st := []) [.int (x9)] (jc_isPlace l D q cI cZ (u) (x9)) (va_cwS 1 K.1.2.2.2.2 (gX0_X0_isPlace _) rfl rfl rfl (by decide +kernel) (by rw [hR9]; exact ⟨Nat.le_of_ble_eq_true rfl, Nat.le_of_ble_eq_true rfl⟩)) rfl rfl rfl (Nat.le_of_ble_eq_true rfl) dX0_parent_1 (by rw [hR9]; exact ⟨Nat.le_of_ble_eq_true rfl, Nat.le_of_ble_eq_true rfl⟩) (fun r9 u9 h9 => ?_)
  obtain ⟨rfl, rfl⟩ := h9
  refine ja_if_eq K (tgt := 15) (jin (x9) 60 = false) dX0_parent_4 (by decide) (jbI_ne _) (fun h4 => ?_) (fun h4 => ?_)
  · exact ja_throwS K (names := jnm) (text := "no such place or node") (u) hst9 hEx9 hZ9 (by decide +kernel) (by decide +kernel) (List.mem_cons_of_mem _ kcX0_77) (List.mem_cons_of_mem _ kini_IOB) (by decide +kernel) (fun w h => List.mem_cons_of_mem _ (jvO1 w h)) jvO2 jvO3 dX0_parent_15 dX0_parent_18 dX0_parent_19 dX0_parent_21 dX0_parent_24 (by rw [hR9]; exact Nat.le_of_ble_eq_true rfl) (by rw [hR9]; exact Nat.le_of_ble_eq_true rfl) (by rw [hR9]; exact Nat.le_of_ble_eq_true rfl) (by rw [hR9]; exact Nat.le_of_ble_eq_true rfl) (Nat.le_of_ble_eq_true rfl) (Nat.le_of_ble_eq_true rfl) hQ9 rfl ⟨rfl, rfl, by simp [h4]⟩
  · refine ja_aload_n K 0 dX0_parent_7 rfl ?_
    refine ja_iload_n K 2 dX0_parent_8 rfl ?_
    refine ja_callVI K (q0 := 0) (qc := (RX0, TX0, 13)) (st := []) [.int (c9)] (jc_isNode l D q cI cZ S (u) hW9 hS9 (c9)) (cwV 1 K.1.2.2.2.2 (gX0_X0_isNode _) rfl rfl rfl (by decide +kernel) (by rw [hR9]; exact ⟨Nat.le_of_ble_eq_true rfl, Nat.le_of_ble_eq_true rfl⟩)) rfl rfl rfl rfl rfl (Nat.le_of_ble_eq_true rfl) dX0_parent_9 (by rw [hR9]; exact ⟨Nat.le_of_ble_eq_true rfl, Nat.le_of_ble_eq_true rfl⟩) (fun r9 u9 h9 => ?_)
    obtain ⟨rfl, rfl⟩ := h9
    refine ja_if_ne K (tgt := 25) (jin (c9) (jN S) = true) dX0_parent_12 (by decide) (jbI_nz _) (fun h12 => ?_) (fun h12 => ?_)
    · obtain ⟨x0, hx0, rfl⟩ := jin_of (n := 60) (by simpa using h4) (by omega)
      have vx0 := jv_nI (n := x0) (by omega)
      obtain ⟨c0, hc0, rfl⟩ := jin_of (n := jN S) (by simpa using h12) (by omega)
      have vc0 := jv_nI (n := c0) (by omega)
      refine ja_aload_n K 0 dX0_parent_25 rfl ?_
      refine ja_iload_n K 1 dX0_parent_26 rfl ?_
      refine ja_iload_n K 2 dX0_parent_27 rfl ?_
      refine ja_callVI K (q0 := 0) (qc := (RX0, TX0, 13)) (st := []) [.int (nI (x0)), .int (nI (c0))] (jc_parentAt l D q cI cZ (u) (x0) (c0) (by omega) (by omega) (jU S (x0) (c0)) (rU _ _ (by omega) (by omega))) (cwV 2 K.1.2.2.2.2 (gX0_X0_parentAt _) rfl rfl rfl (by decide +kernel) (by rw [hR9]; exact ⟨Nat.le_of_ble_eq_true rfl, Nat.le_of_ble_eq_true rfl⟩)) rfl rfl rfl rfl rfl (Nat.le_of_ble_eq_true rfl) dX0_parent_28 (by rw [hR9]; exact ⟨Nat.le_of_ble_eq_true rfl, Nat.le_of_ble_eq_true rfl⟩) (fun r9 u9 h9 => ?_)
      obtain ⟨rfl, rfl⟩ := h9
      exact ja_iretX K (u) rfl (by rfl) (Nat.zero_le _) (Nat.zero_le _) dX0_parent_31 hQ9 rfl ⟨by simp at h4; simp [h4, h12], by rw [vx0, vc0], rfl⟩
    · exact ja_throwS K (names := jnm) (text := "no such place or node") (u) hst9 hEx9 hZ9 (by decide +kernel) (by decide +kernel) (List.mem_cons_of_mem _ kcX0_77) (List.mem_cons_of_mem _ kini_IOB) (by decide +kernel) (fun w h => List.mem_cons_of_mem _ (jvO1 w h)) jvO2 jvO3 dX0_parent_15 dX0_parent_18 dX0_parent_19 dX0_parent_21 dX0_parent_24 (by rw [hR9]; exact Nat.le_of_ble_eq_true rfl) (by rw [hR9]; exact Nat.le_of_ble_eq_true rfl) (by rw [hR9]; exact Nat.le_of_ble_eq_true rfl) (by rw [hR9]; exact Nat.le_of_ble_eq_true rfl) (Nat.le_of_ble_eq_true rfl) (Nat.le_of_ble_eq_true rfl) hQ9 rfl ⟨rfl, rfl, by simp [h4, h12]⟩
