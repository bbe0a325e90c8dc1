set_option maxRecDepth 100000 in
set_option maxHeartbeats 4000000 in
theorem jc_letter (l : Launch) (hst9 : l.stackTraces = false) (D : va_G) (q : Nat → Nat) (cI cZ : ClassId) (S : JS) (u : JX) (hW9 : jWf S) (hS9 : jxR1 S u) (i9 c9 : Int32) : jkX l yX0_letter wsX0_letter ({ frames := 6, cells := 1, slots := 6, locals := 90 }) D vwCl (jxt cI cZ) jzs jtx (jxc q cI cZ) [.ref (q 0), .int i9, .int c9] (jxc q cI cZ u) (fun r u1 => (jin i9 (jK S) && jin c9 (jN S)) = true ∧ nI (jlf S (jv i9) (jv c9)) = r ∧ u = u1) (fun E u1 => u = u1 ∧ E = jEO ∧ (jin i9 (jK S) && jin c9 (jN S)) = false) := by
  refine jkX_of (cc := cX0_letter) (maxL := 3) (ret := (some .int)) (by decide) rfl (Nat.le_of_ble_eq_true rfl) ?_
  intro p e R s m args below meth c Q A K hn9 hR9 hEx9 hZ9 hQ9
  obtain ⟨rN, rT, rM, rU, rK, rP, rA, rL, rB⟩ := id hS9
  obtain ⟨wn, wt, wu, wk, wp, wl, wb⟩ := id hW9
  have hu9 : ∀ w ∈ u_ws RX0 TX0 13, w ∈ wsX0_letter := fun w h => List.mem_cons_of_mem _ (ku_X0 w h)
  show jaW p l e R s m args below meth c 0 0 Q D vwCl A 3 (jxc q cI cZ u) [(0, .ref (q 0)), (1, .int (i9)), (2, .int (c9))] 0 []
  refine ja_aload_n K 0 dX0_letter_0 rfl ?_
  refine ja_iload_n K 1 dX0_letter_1 rfl ?_
  refine ja_callVI K (q0 := 0) (qc := (RX0, TX0, 13)) (st := []) [.int (i9)] (jc_isSite l D q cI cZ S (u) hW9 hS9 (i9)) (cwV 1 K.1.2.2.2.2 (gX0_X0_isSite _) rfl rfl rfl (by decide +kernel) (by rw [hR9]; exact ⟨Nat.le_of_ble_eq_true rfl, Nat.le_of_ble_eq_true rfl⟩)) rfl rfl rfl rfl rfl (Nat.le_of_ble_eq_true rfl) dX0_letter_2 (by rw [hR9]; exact ⟨Nat.le_of_ble_eq_true rfl, Nat.le_of_ble_eq_true rfl⟩) (fun r9 u9 h9 => ?_)
  obtain ⟨rfl, rfl⟩ := h9
  refine ja_if_eq K (tgt := 16) (jin (i9) (jK S) = false) dX0_letter_5 (by decide) (jbI_ne _) (fun h5 => ?_) (fun h5 => ?_)
  · exact ja_throwS K (names := jnm) (text := "no such site or node") (u) hst9 hEx9 hZ9 (by decide +kernel) (by decide +kernel) (List.mem_cons_of_mem _ kcX0_77) (List.mem_cons_of_mem _ kini_IOB) (by decide +kernel) (fun w h => List.mem_cons_of_mem _ (jvO1 w h)) jvO2 jvO3 dX0_letter_16 dX0_letter_19 dX0_letter_20 dX0_letter_22 dX0_letter_25 (by rw [hR9]; exact Nat.le_of_ble_eq_true rfl) (by rw [hR9]; exact Nat.le_of_ble_eq_true rfl) (by rw [hR9]; exact Nat.le_of_ble_eq_true rfl) (by rw [hR9]; exact Nat.le_of_ble_eq_true rfl) (Nat.le_of_ble_eq_true rfl) (Nat.le_of_ble_eq_true rfl) hQ9 rfl ⟨rfl, rfl, by simp [h5]⟩
  · refine ja_aload_n K 0 dX0_letter_8 rfl ?_
    refine ja_iload_n K 2 dX0_letter_9 rfl ?_
    refine ja_callVI K (q0 := 0) (qc := (RX0, TX0, 13)) (st := []) [.int (c9)] (jc_isNode l D q cI cZ S (u) hW9 hS9 (c9)) (cwV 1 K.1.2.2.2.2 (gX0_X0_isNode _) rfl rfl rfl (by decide +kernel) (by rw [hR9]; exact ⟨Nat.le_of_ble_eq_true rfl, Nat.le_of_ble_eq_true rfl⟩)) rfl rfl rfl rfl rfl (Nat.le_of_ble_eq_true rfl) dX0_letter_10 (by rw [hR9]; exact ⟨Nat.le_of_ble_eq_true rfl, Nat.le_of_ble_eq_true rfl⟩) (fun r9 u9 h9 => ?_)
    obtain ⟨rfl, rfl⟩ := h9
    refine ja_if_ne K (tgt := 26) (jin (c9) (jN S) = true) dX0_letter_13 (by decide) (jbI_nz _) (fun h13 => ?_) (fun h13 => ?_)
    · obtain ⟨i, hi, rfl⟩ := jin_of (n := jK S) (by simpa using h5) (by omega)
      have vi := jv_nI (n := i) (by omega)
      obtain ⟨c0, hc0, rfl⟩ := jin_of (n := jN S) (by simpa using h13) (by omega)
      have vc0 := jv_nI (n := c0) (by omega)
      refine ja_aload_n K 0 dX0_letter_26 rfl ?_
      refine ja_iload_n K 1 dX0_letter_27 rfl ?_
      refine ja_iload_n K 2 dX0_letter_28 rfl ?_
      refine ja_callVI K (q0 := 0) (qc := (RX0, TX0, 13)) (st := []) [.int (nI (i)), .int (nI (c0))] (jc_letterAt l D q cI cZ S (u) hW9 hS9 (i) (c0) (by omega) (by omega)) (cwV 2 K.1.2.2.2.2 (gX0_X0_letterAt _) rfl rfl rfl (by decide +kernel) (by rw [hR9]; exact ⟨Nat.le_of_ble_eq_true rfl, Nat.le_of_ble_eq_true rfl⟩)) rfl rfl rfl rfl rfl (Nat.le_of_ble_eq_true rfl) dX0_letter_29 (by rw [hR9]; exact ⟨Nat.le_of_ble_eq_true rfl, Nat.le_of_ble_eq_true rfl⟩) (fun r9 u9 h9 => ?_)
      obtain ⟨rfl, rfl⟩ := h9
      exact ja_iretX K (u) rfl (by rfl) (Nat.zero_le _) (Nat.zero_le _) dX0_letter_32 hQ9 rfl ⟨by simp at h5; simp [h5, h13], by rw [vi, vc0]; rfl, rfl⟩
    · exact ja_throwS K (names := jnm) (text := "no such site or node") (u) hst9 hEx9 hZ9 (by decide +kernel) (by decide +kernel) (List.mem_cons_of_mem _ kcX0_77) (List.mem_cons_of_mem _ kini_IOB) (by decide +kernel) (fun w h => List.mem_cons_of_mem _ (jvO1 w h)) jvO2 jvO3 dX0_letter_16 dX0_letter_19 dX0_letter_20 dX0_letter_22 dX0_letter_25 (by rw [hR9]; exact Nat.le_of_ble_eq_true rfl) (by rw [hR9]; exact Nat.le_of_ble_eq_true rfl) (by rw [hR9]; exact Nat.le_of_ble_eq_true rfl) (by rw [hR9]; exact Nat.le_of_ble_eq_true rfl) (Nat.le_of_ble_eq_true rfl) (Nat.le_of_ble_eq_true rfl) hQ9 rfl ⟨rfl, rfl, by simp [h5, h13]⟩
