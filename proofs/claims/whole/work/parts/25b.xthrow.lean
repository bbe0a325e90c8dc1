set_option maxRecDepth 100000 in
set_option maxHeartbeats 4000000 in
theorem jc_join (l : Launch) (hst9 : l.stackTraces = false) (D : va_G) (q : Nat → Nat) (cI cZ : ClassId) (S : JS) (u : JX) (hW9 : jWf S) (hS9 : jxR1 S u) (a b p9 c9 : Int32) : jkX l yX0_join wsX0_join ({ frames := 6, cells := 1, slots := 6, locals := 90 }) D vwCl (jxt cI cZ) jzs jtx (jxc q cI cZ) [.ref (q 0), .int a, .int b, .int p9, .int c9] (jxc q cI cZ u) (fun r u1 => jcJ S a b p9 c9 = 0 ∧ nI (jaU S (jv a) (jv b) (jv c9) (some (jv p9))) = r ∧ jxR1 (jsetU S (jv a) (jv b) (jv c9) (some (jv p9))) u1) (fun E u1 => u = u1 ∧ ((E = jEO ∧ jcJ S a b p9 c9 = 1) ∨ (E = jEA ∧ jcJ S a b p9 c9 = 2) ∨ (E = jES ∧ jcJ S a b p9 c9 = 3))) := by
  refine jkX_of (cc := cX0_join) (maxL := 5) (ret := (some .int)) (by decide) rfl (Nat.le_of_ble_eq_true rfl) ?_
  intro p e R s m args below meth c Q A K hn9 hR9 hEx9 hZ9 hQ9
  obtain ⟨rN, rT, rM, rU, rK, rP, rA, rL, rB⟩ := id hS9
  obtain ⟨wn, wt, wu, wk, wp, wl, wb⟩ := id hW9
  have hu9 : ∀ w ∈ u_ws RX0 TX0 13, w ∈ wsX0_join := fun w h => List.mem_cons_of_mem _ (ku_X0 w h)
  show jaW p l e R s m args below meth c 0 0 Q D vwCl A 5 (jxc q cI cZ u) [(0, .ref (q 0)), (1, .int (a)), (2, .int (b)), (3, .int (p9)), (4, .int (c9))] 0 []
  refine ja_iload_n K 1 dX0_join_0 rfl ?_
  refine ja_iload_n K 2 dX0_join_1 rfl ?_
  refine ja_callSI K (st := []) [.int (a), .int (b)] (jc_isRun l D q cI cZ (u) (a) (b)) (va_cwS 2 K.1.2.2.2.2 (gX0_X0_isRun _) rfl rfl rfl (by decide +kernel) (by rw [hR9]; exact ⟨Nat.le_of_ble_eq_true rfl, Nat.le_of_ble_eq_true rfl⟩)) rfl rfl rfl (Nat.le_of_ble_eq_true rfl) dX0_join_2 (by rw [hR9]; exact ⟨Nat.le_of_ble_eq_true rfl, Nat.le_of_ble_eq_true rfl⟩) (fun r9 u9 h9 => ?_)
  obtain ⟨rfl, rfl⟩ := h9
  refine ja_if_eq K (tgt := 25) (jrun (a) (b) = false) dX0_join_5 (by decide) (jbI_ne _) (fun h5 => ?_) (fun h5 => ?_)
  · exact ja_throwS K (names := jnm) (text := "no such places or node") (u) hst9 hEx9 hZ9 (by decide +kernel) (by decide +kernel) (List.mem_cons_of_mem _ kcX0_77) (List.mem_cons_of_mem _ kini_IOB) (by decide +kernel) (fun w h => List.mem_cons_of_mem _ (jvO1 w h)) jvO2 jvO3 dX0_join_25 dX0_join_28 dX0_join_29 dX0_join_31 dX0_join_34 (by rw [hR9]; exact Nat.le_of_ble_eq_true rfl) (by rw [hR9]; exact Nat.le_of_ble_eq_true rfl) (by rw [hR9]; exact Nat.le_of_ble_eq_true rfl) (by rw [hR9]; exact Nat.le_of_ble_eq_true rfl) (Nat.le_of_ble_eq_true rfl) (Nat.le_of_ble_eq_true rfl) hQ9 rfl ⟨rfl, Or.inl ⟨rfl, by simp [jcJ, h5]⟩⟩
  · refine ja_aload_n K 0 dX0_join_8 rfl ?_
    refine ja_iload_n K 3 dX0_join_9 rfl ?_
    refine ja_callVI K (q0 := 0) (qc := (RX0, TX0, 13)) (st := []) [.int (p9)] (jc_isNode l D q cI cZ S (u) hW9 hS9 (p9)) (cwV 1 K.1.2.2.2.2 (gX0_X0_isNode _) rfl rfl rfl (by decide +kernel) (by rw [hR9]; exact ⟨Nat.le_of_ble_eq_true rfl, Nat.le_of_ble_eq_true rfl⟩)) rfl rfl rfl rfl rfl (Nat.le_of_ble_eq_true rfl) dX0_join_10 (by rw [hR9]; exact ⟨Nat.le_of_ble_eq_true rfl, Nat.le_of_ble_eq_true rfl⟩) (fun r9 u9 h9 => ?_)
    obtain ⟨rfl, rfl⟩ := h9
    refine ja_if_eq K (tgt := 25) (jin (p9) (jN S) = false) dX0_join_13 (by decide) (jbI_ne _) (fun h13 => ?_) (fun h13 => ?_)
    · exact ja_throwS K (names := jnm) (text := "no such places or node") (u) hst9 hEx9 hZ9 (by decide +kernel) (by decide +kernel) (List.mem_cons_of_mem _ kcX0_77) (List.mem_cons_of_mem _ kini_IOB) (by decide +kernel) (fun w h => List.mem_cons_of_mem _ (jvO1 w h)) jvO2 jvO3 dX0_join_25 dX0_join_28 dX0_join_29 dX0_join_31 dX0_join_34 (by rw [hR9]; exact Nat.le_of_ble_eq_true rfl) (by rw [hR9]; exact Nat.le_of_ble_eq_true rfl) (by rw [hR9]; exact Nat.le_of_ble_eq_true rfl) (by rw [hR9]; exact Nat.le_of_ble_eq_true rfl) (Nat.le_of_ble_eq_true rfl) (Nat.le_of_ble_eq_true rfl) hQ9 rfl ⟨rfl, Or.inl ⟨rfl, by simp [jcJ, h5, h13]⟩⟩
    · refine ja_aload_n K 0 dX0_join_16 rfl ?_
      refine ja_iload K 4 dX0_join_17 rfl ?_
      refine ja_callVI K (q0 := 0) (qc := (RX0, TX0, 13)) (st := []) [.int (c9)] (jc_isNode l D q cI cZ S (u) hW9 hS9 (c9)) (cwV 1 K.1.2.2.2.2 (gX0_X0_isNode _) rfl rfl rfl (by decide +kernel) (by rw [hR9]; exact ⟨Nat.le_of_ble_eq_true rfl, Nat.le_of_ble_eq_true rfl⟩)) rfl rfl rfl rfl rfl (Nat.le_of_ble_eq_true rfl) dX0_join_19 (by rw [hR9]; exact ⟨Nat.le_of_ble_eq_true rfl, Nat.le_of_ble_eq_true rfl⟩) (fun r9 u9 h9 => ?_)
      obtain ⟨rfl, rfl⟩ := h9
      refine ja_if_ne K (tgt := 35) (jin (c9) (jN S) = true) dX0_join_22 (by decide) (jbI_nz _) (fun h22 => ?_) (fun h22 => ?_)
      · obtain ⟨i, j, hij, hj, rfl, rfl⟩ := jrun_of (by simpa using h5)
        have vi := jv_nI (n := i) (by omega)
        have vj := jv_nI (n := j) (by omega)
        obtain ⟨p0, hp0, rfl⟩ := jin_of (n := jN S) (by simpa using h13) (by omega)
        have vp0 := jv_nI (n := p0) (by omega)
        obtain ⟨c0, hc0, rfl⟩ := jin_of (n := jN S) (by simpa using h22) (by omega)
        have vc0 := jv_nI (n := c0) (by omega)
        have tp := wt p0 hp0
        have tc := wt c0 hc0
        refine ja_aload_n K 0 dX0_join_35 rfl ?_
        refine ja_get K hu9 0 rfl rfl 1 (by decide) (List.mem_cons_of_mem _ kfX0_13) rfl rfl dX0_join_36 ?_
        refine ja_iload_n K 3 dX0_join_39 rfl ?_
        refine ja_iald K (v := nI ((jT S (p0)))) 1 0 rfl rfl (p0) rfl (by omega) (by decide) (rT _ (by omega)) dX0_join_40 ?_
        refine ja_aload_n K 0 dX0_join_41 rfl ?_
        refine ja_get K hu9 0 rfl rfl 1 (by decide) (List.mem_cons_of_mem _ kfX0_13) rfl rfl dX0_join_42 ?_
        refine ja_iload K 4 dX0_join_45 rfl ?_
        refine ja_iald K (v := nI ((jT S (c0)))) 1 0 rfl rfl (c0) rfl (by omega) (by decide) (rT _ (by omega)) dX0_join_47 ?_
        refine ja_icmp_gt K (tgt := 61) ((jT S (c0)) < (jT S (p0))) dX0_join_48 (by decide) (nI_ltI (by omega) (by omega)) (fun h48 => ?_) (fun h48 => ?_)
        · refine ja_aload_n K 0 dX0_join_61 rfl ?_
          refine ja_iload_n K 1 dX0_join_62 rfl ?_
          refine ja_iload_n K 2 dX0_join_63 rfl ?_
          refine ja_iload_n K 3 dX0_join_64 rfl ?_
          refine ja_iload K 4 dX0_join_65 rfl ?_
          refine ja_callVI K (q0 := 0) (qc := (RX0, TX0, 13)) (st := []) [.int (nI (i)), .int (nI (j)), .int (nI (p0)), .int (nI (c0))] (jc_hasParentBeside l D q cI cZ S (u) hW9 hS9 (i) (j) (p0) (c0) (by omega) (by omega) (by omega) (by omega)) (cwV 4 K.1.2.2.2.2 (gX0_X0_hasParentBeside _) rfl rfl rfl (by decide +kernel) (by rw [hR9]; exact ⟨Nat.le_of_ble_eq_true rfl, Nat.le_of_ble_eq_true rfl⟩)) rfl rfl rfl rfl rfl (Nat.le_of_ble_eq_true rfl) dX0_join_67 (by rw [hR9]; exact ⟨Nat.le_of_ble_eq_true rfl, Nat.le_of_ble_eq_true rfl⟩) (fun r9 u9 h9 => ?_)
          obtain ⟨rfl, rfl⟩ := h9
          refine ja_if_eq K (tgt := 83) (jany (fun d => jU S (i + d) (c0) != none && jU S (i + d) (c0) != some (p0)) (j - i) = false) dX0_join_70 (by decide) (jbI_ne _) (fun h70 => ?_) (fun h70 => ?_)
          · have f70 : jbes S i j p0 c0 = false := h70
            refine ja_aload_n K 0 dX0_join_83 rfl ?_
            refine ja_iload_n K 1 dX0_join_84 rfl ?_
            refine ja_iload_n K 2 dX0_join_85 rfl ?_
            refine ja_iload K 4 dX0_join_86 rfl ?_
            refine ja_iload_n K 3 dX0_join_88 rfl ?_
            refine ja_callVI K (q0 := 0) (qc := (RX0, TX0, 13)) (st := []) [.int (nI (i)), .int (nI (j)), .int (nI (c0)), .int (nI (p0))] (jc_setParents l D q cI cZ S (u) hW9 hS9 (i) (j) (c0) (some (p0)) (by omega) (by omega) (by omega) (fun p9 h9 => by cases h9 <;> omega)) (cwV 4 K.1.2.2.2.2 (gX0_X0_setParents _) rfl rfl rfl (by decide +kernel) (by rw [hR9]; exact ⟨Nat.le_of_ble_eq_true rfl, Nat.le_of_ble_eq_true rfl⟩)) rfl rfl rfl rfl rfl (Nat.le_of_ble_eq_true rfl) dX0_join_89 (by rw [hR9]; exact ⟨Nat.le_of_ble_eq_true rfl, Nat.le_of_ble_eq_true rfl⟩) (fun r9 u9 h9 => ?_)
            obtain ⟨rfl, pa, rfl, hpa⟩ := h9
            exact ja_iretX K (jxsU (u) pa) rfl (by rfl) (Nat.zero_le _) (Nat.zero_le _) dX0_join_92 hQ9 rfl ⟨by simp [jcJ, h5, h13, h22, vi, vj, vp0, vc0, h48, h70, f70], by rw [vi, vj, vc0, vp0]; rfl, by rw [vi, vj, vc0, vp0]; exact jxR1_setU hS9 hpa⟩
          · have f70 : jbes S i j p0 c0 = true := eq_true_of_ne_false h70
            exact ja_throwS K (names := jnm) (text := "the child has another parent") (u) hst9 hEx9 hZ9 (by decide +kernel) (by decide +kernel) (List.mem_cons_of_mem _ kcX0_64) (List.mem_cons_of_mem _ kini_ISE) (by decide +kernel) (fun w h => List.mem_cons_of_mem _ (jvS1 w h)) jvS2 jvS3 dX0_join_73 dX0_join_76 dX0_join_77 dX0_join_79 dX0_join_82 (by rw [hR9]; exact Nat.le_of_ble_eq_true rfl) (by rw [hR9]; exact Nat.le_of_ble_eq_true rfl) (by rw [hR9]; exact Nat.le_of_ble_eq_true rfl) (by rw [hR9]; exact Nat.le_of_ble_eq_true rfl) (Nat.le_of_ble_eq_true rfl) (Nat.le_of_ble_eq_true rfl) hQ9 rfl ⟨rfl, Or.inr (Or.inr (⟨rfl, by simp [jcJ, h5, h13, h22, vi, vj, vp0, vc0, h48, h70, f70]⟩))⟩
        · exact ja_throwS K (names := jnm) (text := "the parent's time is not greater") (u) hst9 hEx9 hZ9 (by decide +kernel) (by decide +kernel) (List.mem_cons_of_mem _ kcX0_57) (List.mem_cons_of_mem _ kini_IAE) (by decide +kernel) (fun w h => List.mem_cons_of_mem _ (jvA1 w h)) jvA2 jvA3 dX0_join_51 dX0_join_54 dX0_join_55 dX0_join_57 dX0_join_60 (by rw [hR9]; exact Nat.le_of_ble_eq_true rfl) (by rw [hR9]; exact Nat.le_of_ble_eq_true rfl) (by rw [hR9]; exact Nat.le_of_ble_eq_true rfl) (by rw [hR9]; exact Nat.le_of_ble_eq_true rfl) (Nat.le_of_ble_eq_true rfl) (Nat.le_of_ble_eq_true rfl) hQ9 rfl ⟨rfl, Or.inr (Or.inl ⟨rfl, by simp [jcJ, h5, h13, h22, vi, vj, vp0, vc0, h48]⟩)⟩
      · exact ja_throwS K (names := jnm) (text := "no such places or node") (u) hst9 hEx9 hZ9 (by decide +kernel) (by decide +kernel) (List.mem_cons_of_mem _ kcX0_77) (List.mem_cons_of_mem _ kini_IOB) (by decide +kernel) (fun w h => List.mem_cons_of_mem _ (jvO1 w h)) jvO2 jvO3 dX0_join_25 dX0_join_28 dX0_join_29 dX0_join_31 dX0_join_34 (by rw [hR9]; exact Nat.le_of_ble_eq_true rfl) (by rw [hR9]; exact Nat.le_of_ble_eq_true rfl) (by rw [hR9]; exact Nat.le_of_ble_eq_true rfl) (by rw [hR9]; exact Nat.le_of_ble_eq_true rfl) (Nat.le_of_ble_eq_true rfl) (Nat.le_of_ble_eq_true rfl) hQ9 rfl ⟨rfl, Or.inl ⟨rfl, by simp [jcJ, h5, h13, h22]⟩⟩
