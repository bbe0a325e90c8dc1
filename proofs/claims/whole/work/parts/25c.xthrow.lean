set_option maxRecDepth 100000 in
set_option maxHeartbeats 4000000 in
theorem jc_part (l : Launch) (hst9 : l.stackTraces = false) (D : va_G) (q : Nat → Nat) (cI cZ : ClassId) (S : JS) (u : JX) (hW9 : jWf S) (hS9 : jxR1 S u) (a b c9 : Int32) : jkX l yX0_part wsX0_part ({ frames := 6, cells := 1, slots := 6, locals := 90 }) D vwCl (jxt cI cZ) jzs jtx (jxc q cI cZ) [.ref (q 0), .int a, .int b, .int c9] (jxc q cI cZ u) (fun r u1 => jcP S a b c9 = 0 ∧ nI (jaU S (jv a) (jv b) (jv c9) none) = r ∧ jxR1 (jsetU S (jv a) (jv b) (jv c9) none) u1) (fun E u1 => u = u1 ∧ ((E = jEO ∧ jcP S a b c9 = 1))) := by
  refine jkX_of (cc := cX0_part) (maxL := 4) (ret := (some .int)) (by decide) rfl (Nat.le_of_ble_eq_true rfl) ?_
  intro p e R s m args below meth c Q A K hn9 hR9 hEx9 hZ9 hQ9
  obtain ⟨rN, rT, rM, rU, rK, rP, rA, rL, rB⟩ := id hS9
  obtain ⟨wn, wt, wu, wk, wp, wl, wb⟩ := id hW9
  have hu9 : ∀ w ∈ u_ws RX0 TX0 13, w ∈ wsX0_part := fun w h => List.mem_cons_of_mem _ (ku_X0 w h)
  show jaW p l e R s m args below meth c 0 0 Q D vwCl A 4 (jxc q cI cZ u) [(0, .ref (q 0)), (1, .int (a)), (2, .int (b)), (3, .int (c9))] 0 []
  refine ja_iload_n K 1 dX0_part_0 rfl ?_
  refine ja_iload_n K 2 dX0_part_1 rfl ?_
  refine ja_callSI K (st := []) [.int (a), .int (b)] (jc_isRun l D q cI cZ (u) (a) (b)) (va_cwS 2 K.1.2.2.2.2 (gX0_X0_isRun _) rfl rfl rfl (by decide +kernel) (by rw [hR9]; exact ⟨Nat.le_of_ble_eq_true rfl, Nat.le_of_ble_eq_true rfl⟩)) rfl rfl rfl (Nat.le_of_ble_eq_true rfl) dX0_part_2 (by rw [hR9]; exact ⟨Nat.le_of_ble_eq_true rfl, Nat.le_of_ble_eq_true rfl⟩) (fun r9 u9 h9 => ?_)
  obtain ⟨rfl, rfl⟩ := h9
  refine ja_if_eq K (tgt := 16) (jrun (a) (b) = false) dX0_part_5 (by decide) (jbI_ne _) (fun h5 => ?_) (fun h5 => ?_)
  · exact ja_throwS K (names := jnm) (text := "no such places or node") (u) hst9 hEx9 hZ9 (by decide +kernel) (by decide +kernel) (List.mem_cons_of_mem _ kcX0_77) (List.mem_cons_of_mem _ kini_IOB) (by decide +kernel) (fun w h => List.mem_cons_of_mem _ (jvO1 w h)) jvO2 jvO3 dX0_part_16 dX0_part_19 dX0_part_20 dX0_part_22 dX0_part_25 (by rw [hR9]; exact Nat.le_of_ble_eq_true rfl) (by rw [hR9]; exact Nat.le_of_ble_eq_true rfl) (by rw [hR9]; exact Nat.le_of_ble_eq_true rfl) (by rw [hR9]; exact Nat.le_of_ble_eq_true rfl) (Nat.le_of_ble_eq_true rfl) (Nat.le_of_ble_eq_true rfl) hQ9 rfl ⟨rfl, ⟨rfl, by simp [jcP, h5]⟩⟩
  · refine ja_aload_n K 0 dX0_part_8 rfl ?_
    refine ja_iload_n K 3 dX0_part_9 rfl ?_
    refine ja_callVI K (q0 := 0) (qc := (RX0, TX0, 13)) (st := []) [.int (c9)] (jc_isNode l D q cI cZ S (u) hW9 hS9 (c9)) (cwV 1 K.1.2.2.2.2 (gX0_X0_isNode _) rfl rfl rfl (by decide +kernel) (by rw [hR9]; exact ⟨Nat.le_of_ble_eq_true rfl, Nat.le_of_ble_eq_true rfl⟩)) rfl rfl rfl rfl rfl (Nat.le_of_ble_eq_true rfl) dX0_part_10 (by rw [hR9]; exact ⟨Nat.le_of_ble_eq_true rfl, Nat.le_of_ble_eq_true rfl⟩) (fun r9 u9 h9 => ?_)
    obtain ⟨rfl, rfl⟩ := h9
    refine ja_if_ne K (tgt := 26) (jin (c9) (jN S) = true) dX0_part_13 (by decide) (jbI_nz _) (fun h13 => ?_) (fun h13 => ?_)
    · obtain ⟨i, j, hij, hj, rfl, rfl⟩ := jrun_of (by simpa using h5)
      have vi := jv_nI (n := i) (by omega)
      have vj := jv_nI (n := j) (by omega)
      obtain ⟨c0, hc0, rfl⟩ := jin_of (n := jN S) (by simpa using h13) (by omega)
      have vc0 := jv_nI (n := c0) (by omega)
      refine ja_aload_n K 0 dX0_part_26 rfl ?_
      refine ja_iload_n K 1 dX0_part_27 rfl ?_
      refine ja_iload_n K 2 dX0_part_28 rfl ?_
      refine ja_iload_n K 3 dX0_part_29 rfl ?_
      refine ja_iconst K (-1) dX0_part_30 (by decide) ?_
      refine ja_callVI K (q0 := 0) (qc := (RX0, TX0, 13)) (st := []) [.int (nI (i)), .int (nI (j)), .int (nI (c0)), .int (-1)] (jc_setParents l D q cI cZ S (u) hW9 hS9 (i) (j) (c0) (none) (by omega) (by omega) (by omega) (fun p9 h9 => by cases h9 <;> omega)) (cwV 4 K.1.2.2.2.2 (gX0_X0_setParents _) rfl rfl rfl (by decide +kernel) (by rw [hR9]; exact ⟨Nat.le_of_ble_eq_true rfl, Nat.le_of_ble_eq_true rfl⟩)) rfl rfl rfl rfl rfl (Nat.le_of_ble_eq_true rfl) dX0_part_31 (by rw [hR9]; exact ⟨Nat.le_of_ble_eq_true rfl, Nat.le_of_ble_eq_true rfl⟩) (fun r9 u9 h9 => ?_)
      obtain ⟨rfl, pa, rfl, hpa⟩ := h9
      exact ja_iretX K (jxsU (u) pa) rfl (by rfl) (Nat.zero_le _) (Nat.zero_le _) dX0_part_34 hQ9 rfl ⟨by simp [jcP, h5, h13, vi, vj, vc0], by rw [vi, vj, vc0]; rfl, by rw [vi, vj, vc0]; exact jxR1_setU hS9 hpa⟩
    · exact ja_throwS K (names := jnm) (text := "no such places or node") (u) hst9 hEx9 hZ9 (by decide +kernel) (by decide +kernel) (List.mem_cons_of_mem _ kcX0_77) (List.mem_cons_of_mem _ kini_IOB) (by decide +kernel) (fun w h => List.mem_cons_of_mem _ (jvO1 w h)) jvO2 jvO3 dX0_part_16 dX0_part_19 dX0_part_20 dX0_part_22 dX0_part_25 (by rw [hR9]; exact Nat.le_of_ble_eq_true rfl) (by rw [hR9]; exact Nat.le_of_ble_eq_true rfl) (by rw [hR9]; exact Nat.le_of_ble_eq_true rfl) (by rw [hR9]; exact Nat.le_of_ble_eq_true rfl) (Nat.le_of_ble_eq_true rfl) (Nat.le_of_ble_eq_true rfl) hQ9 rfl ⟨rfl, ⟨rfl, by simp [jcP, h5, h13]⟩⟩
