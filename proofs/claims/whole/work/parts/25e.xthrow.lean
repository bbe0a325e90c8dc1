set_option maxRecDepth 100000 in
set_option maxHeartbeats 4000000 in
theorem jc_mutate (l : Launch) (hst9 : l.stackTraces = false) (D : va_G) (q : Nat → Nat) (cI cZ : ClassId) (S : JS) (u : JX) (hW9 : jWf S) (hS9 : jxR1 S u) (i9 c9 z : Int32) : jkX l yX0_mutate wsX0_mutate ({ frames := 6, cells := 1, slots := 6, locals := 90 }) D vwCl (jxt cI cZ) jzs jtx (jxc q cI cZ) [.ref (q 0), .int i9, .int c9, .int z] (jxc q cI cZ u) (fun r u1 => jcM S i9 c9 z = 0 ∧ jeI (jL S (jv i9) (jv c9)) = r ∧ jxR1 (jsetL S (jv i9) (jv c9) (jlo z)) u1) (fun E u1 => u = u1 ∧ ((E = jEO ∧ jcM S i9 c9 z = 1) ∨ (E = jEA ∧ jcM S i9 c9 z = 2))) := by
  refine jkX_of (cc := cX0_mutate) (maxL := 5) (ret := (some .int)) (by decide) rfl (Nat.le_of_ble_eq_true rfl) ?_
  intro p e R s m args below meth c Q A K hn9 hR9 hEx9 hZ9 hQ9
  obtain ⟨rN, rT, rM, rU, rK, rP, rA, rL, rB⟩ := id hS9
  obtain ⟨wn, wt, wu, wk, wp, wl, wb⟩ := id hW9
  have hu9 : ∀ w ∈ u_ws RX0 TX0 13, w ∈ wsX0_mutate := fun w h => List.mem_cons_of_mem _ (ku_X0 w h)
  show jaW p l e R s m args below meth c 0 0 Q D vwCl A 5 (jxc q cI cZ u) [(0, .ref (q 0)), (1, .int (i9)), (2, .int (c9)), (3, .int (z))] 0 []
  refine ja_aload_n K 0 dX0_mutate_0 rfl ?_
  refine ja_iload_n K 1 dX0_mutate_1 rfl ?_
  refine ja_callVI K (q0 := 0) (qc := (RX0, TX0, 13)) (st := []) [.int (i9)] (jc_isSite l D q cI cZ S (u) hW9 hS9 (i9)) (cwV 1 K.1.2.2.2.2 (gX0_X0_isSite _) rfl rfl rfl (by decide +kernel) (by rw [hR9]; exact ⟨Nat.le_of_ble_eq_true rfl, Nat.le_of_ble_eq_true rfl⟩)) rfl rfl rfl rfl rfl (Nat.le_of_ble_eq_true rfl) dX0_mutate_2 (by rw [hR9]; exact ⟨Nat.le_of_ble_eq_true rfl, Nat.le_of_ble_eq_true rfl⟩) (fun r9 u9 h9 => ?_)
  obtain ⟨rfl, rfl⟩ := h9
  refine ja_if_eq K (tgt := 16) (jin (i9) (jK S) = false) dX0_mutate_5 (by decide) (jbI_ne _) (fun h5 => ?_) (fun h5 => ?_)
  · exact ja_throwS K (names := jnm) (text := "no such site or node") (u) hst9 hEx9 hZ9 (by decide +kernel) (by decide +kernel) (List.mem_cons_of_mem _ kcX0_77) (List.mem_cons_of_mem _ kini_IOB) (by decide +kernel) (fun w h => List.mem_cons_of_mem _ (jvO1 w h)) jvO2 jvO3 dX0_mutate_16 dX0_mutate_19 dX0_mutate_20 dX0_mutate_22 dX0_mutate_25 (by rw [hR9]; exact Nat.le_of_ble_eq_true rfl) (by rw [hR9]; exact Nat.le_of_ble_eq_true rfl) (by rw [hR9]; exact Nat.le_of_ble_eq_true rfl) (by rw [hR9]; exact Nat.le_of_ble_eq_true rfl) (Nat.le_of_ble_eq_true rfl) (Nat.le_of_ble_eq_true rfl) hQ9 rfl ⟨rfl, Or.inl ⟨rfl, by simp [jcM, h5]⟩⟩
  · refine ja_aload_n K 0 dX0_mutate_8 rfl ?_
    refine ja_iload_n K 2 dX0_mutate_9 rfl ?_
    refine ja_callVI K (q0 := 0) (qc := (RX0, TX0, 13)) (st := []) [.int (c9)] (jc_isNode l D q cI cZ S (u) hW9 hS9 (c9)) (cwV 1 K.1.2.2.2.2 (gX0_X0_isNode _) rfl rfl rfl (by decide +kernel) (by rw [hR9]; exact ⟨Nat.le_of_ble_eq_true rfl, Nat.le_of_ble_eq_true rfl⟩)) rfl rfl rfl rfl rfl (Nat.le_of_ble_eq_true rfl) dX0_mutate_10 (by rw [hR9]; exact ⟨Nat.le_of_ble_eq_true rfl, Nat.le_of_ble_eq_true rfl⟩) (fun r9 u9 h9 => ?_)
    obtain ⟨rfl, rfl⟩ := h9
    refine ja_if_ne K (tgt := 26) (jin (c9) (jN S) = true) dX0_mutate_13 (by decide) (jbI_nz _) (fun h13 => ?_) (fun h13 => ?_)
    · obtain ⟨i, hi, rfl⟩ := jin_of (n := jK S) (by simpa using h5) (by omega)
      have vi := jv_nI (n := i) (by omega)
      obtain ⟨c0, hc0, rfl⟩ := jin_of (n := jN S) (by simpa using h13) (by omega)
      have vc0 := jv_nI (n := c0) (by omega)
      refine ja_iload_n K 3 dX0_mutate_26 rfl ?_
      refine ja_iconst K (-1) dX0_mutate_27 (by decide) ?_
      refine ja_icmp_lt K (tgt := 36) (z < -1) dX0_mutate_28 (by decide) Iff.rfl (fun h28 => ?_) (fun h28 => ?_)
      · have f28 : z < -1 ∨ nI 4 ≤ z := Or.inl h28
        exact ja_throwS K (names := jnm) (text := "letter is not -1 .. 3") (u) hst9 hEx9 hZ9 (by decide +kernel) (by decide +kernel) (List.mem_cons_of_mem _ kcX0_57) (List.mem_cons_of_mem _ kini_IAE) (by decide +kernel) (fun w h => List.mem_cons_of_mem _ (jvA1 w h)) jvA2 jvA3 dX0_mutate_36 dX0_mutate_39 dX0_mutate_40 dX0_mutate_42 dX0_mutate_45 (by rw [hR9]; exact Nat.le_of_ble_eq_true rfl) (by rw [hR9]; exact Nat.le_of_ble_eq_true rfl) (by rw [hR9]; exact Nat.le_of_ble_eq_true rfl) (by rw [hR9]; exact Nat.le_of_ble_eq_true rfl) (Nat.le_of_ble_eq_true rfl) (Nat.le_of_ble_eq_true rfl) hQ9 rfl ⟨rfl, Or.inr (⟨rfl, by simp [jcM, h5, h13, vi, vc0, h28, f28]⟩)⟩
      · refine ja_iload_n K 3 dX0_mutate_31 rfl ?_
        refine ja_iconst K (nI 4) dX0_mutate_32 (by decide) ?_
        refine ja_icmp_lt K (tgt := 46) (z < nI 4) dX0_mutate_33 (by decide) Iff.rfl (fun h33 => ?_) (fun h33 => ?_)
        · have f33 : ¬ (z < -1 ∨ nI 4 ≤ z) := fun h => h.elim h28 (fun h => by rw [Int32.lt_iff_toInt_lt] at h33; rw [Int32.le_iff_toInt_le] at h; omega)
          obtain ⟨o, rfl, ho⟩ := jlo_of h28 h33
          refine ja_aload_n K 0 dX0_mutate_46 rfl ?_
          refine ja_get K hu9 0 rfl rfl 7 (by decide) (List.mem_cons_of_mem _ kfX0_33) rfl rfl dX0_mutate_47 ?_
          refine ja_iload_n K 1 dX0_mutate_50 rfl ?_
          refine ja_bipush K (nI 14) dX0_mutate_51 (by decide) ?_
          refine ja_imul K (nI ((i * 14))) dX0_mutate_53 (pk_mul _ _) ?_
          refine ja_iload_n K 2 dX0_mutate_54 rfl ?_
          refine ja_iadd K (nI (((i * 14) + c0))) dX0_mutate_55 (nI_add _ _) ?_
          refine ja_iald K (v := jeI (jL S (i) (c0))) 6 0 rfl rfl (((i * 14) + c0)) rfl (by omega) (by decide) (rL _ _ (by omega) (by omega)) dX0_mutate_56 ?_
          refine ja_istore K (lv1 := [(0, .ref (q 0)), (1, .int (nI (i))), (2, .int (nI (c0))), (3, .int (jeI (o))), (4, .int (jeI (jL S (i) (c0))))]) dX0_mutate_57 (by decide) rfl rfl ?_
          refine ja_aload_n K 0 dX0_mutate_59 rfl ?_
          refine ja_get K hu9 0 rfl rfl 7 (by decide) (List.mem_cons_of_mem _ kfX0_33) rfl rfl dX0_mutate_60 ?_
          refine ja_iload_n K 1 dX0_mutate_63 rfl ?_
          refine ja_bipush K (nI 14) dX0_mutate_64 (by decide) ?_
          refine ja_imul K (nI ((i * 14))) dX0_mutate_66 (pk_mul _ _) ?_
          refine ja_iload_n K 2 dX0_mutate_67 rfl ?_
          refine ja_iadd K (nI (((i * 14) + c0))) dX0_mutate_68 (nI_add _ _) ?_
          refine ja_iload_n K 3 dX0_mutate_69 rfl ?_
          refine ja_iast K (ws1 := jxc q cI cZ (jxsL (u) (upd (jxL (u)) (((i * 14) + c0)) (jeI (o))))) 6 0 rfl rfl (((i * 14) + c0)) rfl (by omega) (by decide) dX0_mutate_70 rfl ?_
          refine ja_iload K 4 dX0_mutate_71 rfl ?_
          exact ja_iretX K (jxsL (u) (upd (jxL (u)) (((i * 14) + c0)) (jeI (o)))) rfl (by rfl) (Nat.zero_le _) (Nat.zero_le _) dX0_mutate_73 hQ9 rfl ⟨by simp only [jcM, if_neg f33]; simp [h5, h13, vi, vc0, f33], by rw [vi, vc0], by rw [vi, vc0, jlo_eI ho]; exact jxR1_setL hS9 (by omega) (by omega)⟩
        · have f33 : z < -1 ∨ nI 4 ≤ z := Or.inr (by rw [Int32.lt_iff_toInt_lt] at h33; rw [Int32.le_iff_toInt_le]; omega)
          exact ja_throwS K (names := jnm) (text := "letter is not -1 .. 3") (u) hst9 hEx9 hZ9 (by decide +kernel) (by decide +kernel) (List.mem_cons_of_mem _ kcX0_57) (List.mem_cons_of_mem _ kini_IAE) (by decide +kernel) (fun w h => List.mem_cons_of_mem _ (jvA1 w h)) jvA2 jvA3 dX0_mutate_36 dX0_mutate_39 dX0_mutate_40 dX0_mutate_42 dX0_mutate_45 (by rw [hR9]; exact Nat.le_of_ble_eq_true rfl) (by rw [hR9]; exact Nat.le_of_ble_eq_true rfl) (by rw [hR9]; exact Nat.le_of_ble_eq_true rfl) (by rw [hR9]; exact Nat.le_of_ble_eq_true rfl) (Nat.le_of_ble_eq_true rfl) (Nat.le_of_ble_eq_true rfl) hQ9 rfl ⟨rfl, Or.inr (⟨rfl, by simp [jcM, h5, h13, vi, vc0, h28, h33, f33]⟩)⟩
    · exact ja_throwS K (names := jnm) (text := "no such site or node") (u) hst9 hEx9 hZ9 (by decide +kernel) (by decide +kernel) (List.mem_cons_of_mem _ kcX0_77) (List.mem_cons_of_mem _ kini_IOB) (by decide +kernel) (fun w h => List.mem_cons_of_mem _ (jvO1 w h)) jvO2 jvO3 dX0_mutate_16 dX0_mutate_19 dX0_mutate_20 dX0_mutate_22 dX0_mutate_25 (by rw [hR9]; exact Nat.le_of_ble_eq_true rfl) (by rw [hR9]; exact Nat.le_of_ble_eq_true rfl) (by rw [hR9]; exact Nat.le_of_ble_eq_true rfl) (by rw [hR9]; exact Nat.le_of_ble_eq_true rfl) (Nat.le_of_ble_eq_true rfl) (Nat.le_of_ble_eq_true rfl) hQ9 rfl ⟨rfl, Or.inl ⟨rfl, by simp [jcM, h5, h13]⟩⟩
