set_option maxRecDepth 100000 in
set_option maxHeartbeats 4000000 in
theorem jc_moveMutations (l : Launch) (D : va_G) (q : Nat → Nat) (cI cZ : ClassId) (S : JS) (u : JX) (hW9 : jWf S)   (i : Nat) (hS9 : jxPh S i 0 u) (hi : i < jK S) : jkV l yX0_moveMutations wsX0_moveMutations ({ frames := 2, cells := 0, slots := 0, locals := 48 }) D vwCl (jxt cI cZ) (jxc q cI cZ) [.ref (q 0), .int (nI i)] (jxc q cI cZ u) (fun u1 => jxPh S (i + 1) 0 u1) := by
  refine jkV_of (cc := cX0_moveMutations) (maxL := 4) (ret := none) (by decide) rfl (Nat.le_of_ble_eq_true rfl) ?_
  intro p e R s m args below meth c Q A K hn9 hR9 hQ9
  obtain ⟨rN, rT, rM, rU, rK, rP, rA, rL, rB, rG⟩ := id hS9
  obtain ⟨wn, wt, wu, wk, wp, wl, wb⟩ := id hW9
  have hu9 : ∀ w ∈ u_ws RX0 TX0 13, w ∈ wsX0_moveMutations := fun w h => List.mem_cons_of_mem _ (ku_X0 w h)
  have bp := (wp i hi).1
  obtain ⟨B, hG, hB⟩ := rG (jP S i) bp
  show jaW p l e R s m args below meth c 0 0 Q D vwCl A 4 (jxc q cI cZ u) [(0, .ref (q 0)), (1, .int (nI (i)))] 0 []
  refine ja_aload_n K 0 dX0_moveMutations_0 rfl ?_
  refine ja_get K hu9 0 rfl rfl 5 (by decide) (List.mem_cons_of_mem _ kfX0_27) rfl rfl dX0_moveMutations_1 ?_
  refine ja_iload_n K 1 dX0_moveMutations_4 rfl ?_
  refine ja_iald K (v := nI ((jP S (i)))) 4 0 rfl rfl (i) rfl (by omega) (by decide) (rP _ (by omega)) dX0_moveMutations_5 ?_
  refine ja_istore_n K (lv1 := [(0, .ref (q 0)), (1, .int (nI (i))), (2, .int (nI ((jP S (i)))))]) dX0_moveMutations_6 (by decide) rfl rfl ?_
  refine ja_aload_n K 0 dX0_moveMutations_7 rfl ?_
  refine ja_get K hu9 0 rfl rfl 12 (by decide) (List.mem_cons_of_mem _ kfX0_48) rfl rfl dX0_moveMutations_8 ?_
  refine ja_iconst K (-1) dX0_moveMutations_11 (by decide) ?_
  refine jx_fillR K (by rw [hR9]; exact ⟨Nat.le_of_ble_eq_true rfl, Nat.le_of_ble_eq_true rfl⟩) (Nat.le_of_ble_eq_true rfl) dX0_moveMutations_12 (by rw [hR9]; exact ⟨Nat.le_of_ble_eq_true rfl, Nat.le_of_ble_eq_true rfl⟩) (fun g12 hg12 => ?_)
  refine ja_iconst K (nI 0) dX0_moveMutations_15 (by decide) ?_
  refine ja_istore_n K (lv1 := [(0, .ref (q 0)), (1, .int (nI (i))), (2, .int (nI ((jP S (i))))), (3, .int (nI 0))]) dX0_moveMutations_16 (by decide) rfl rfl ?_
  have L17 : ∀ (n0 : Nat) (ro : Nat → Int32), (n0 ≤ jN S ∧ ∀ k, k < 14 → ro k = jeI (jrowL S i n0 k)) → jaW p l e R s m args below meth c 0 0 Q D vwCl A 4 (jxc q cI cZ (jxsR u ro)) [(0, .ref (q 0)), (1, .int (nI (i))), (2, .int (nI ((jP S i)))), (3, .int (nI (n0)))] 17 [] := by
    refine jl_2 (fun (n0 : Nat) (ro : Nat → Int32) => jN S - n0) (fun (n0 : Nat) (ro : Nat → Int32) => n0 ≤ jN S ∧ ∀ k, k < 14 → ro k = jeI (jrowL S i n0 k)) _ ?_
    intro n0 ro hI17 IH17
    refine ja_iload_n K 3 dX0_moveMutations_17 rfl ?_
    refine ja_aload_n K 0 dX0_moveMutations_18 rfl ?_
    refine ja_get K hu9 0 rfl rfl 0 (by decide) (List.mem_cons_of_mem _ kfX0_7) rfl (congrArg (fun z9 => some (Value.int z9)) rN) dX0_moveMutations_19 ?_
    refine ja_icmp_ge K (tgt := 57) ((jN S) ≤ n0) dX0_moveMutations_22 (by decide) (nI_leI (by omega) (by omega)) (fun h22 => ?_) (fun h22 => ?_)
    · refine ja_aload_n K 0 dX0_moveMutations_57 rfl ?_
      refine ja_get K hu9 0 rfl rfl 12 (by decide) (List.mem_cons_of_mem _ kfX0_48) rfl rfl dX0_moveMutations_58 ?_
      refine ja_iconst K (nI 0) dX0_moveMutations_61 (by decide) ?_
      refine ja_aload_n K 0 dX0_moveMutations_62 rfl ?_
      refine ja_get K hu9 0 rfl rfl 7 (by decide) (List.mem_cons_of_mem _ kfX0_33) rfl rfl dX0_moveMutations_63 ?_
      refine ja_iload_n K 1 dX0_moveMutations_66 rfl ?_
      refine ja_bipush K (nI 14) dX0_moveMutations_67 (by decide) ?_
      refine ja_imul K (nI ((i * 14))) dX0_moveMutations_69 (pk_mul _ _) ?_
      refine ja_bipush K (nI 14) dX0_moveMutations_70 (by decide) ?_
      refine ja_copy K (ws1 := jxc q cI cZ (jxsL (jxsR u ro) (va_cpy (jxR (jxsR u ro)) (jxL (jxsR u ro)) 0 (i * 14) 14))) (st := []) (List.mem_cons_of_mem _ klX0_192) (List.mem_cons_of_mem _ karc_n) (List.mem_cons_of_mem _ karc_s) (List.mem_cons_of_mem _ kini_sys) 11 6 0 rfl rfl rfl 0 (i * 14) 14 rfl rfl rfl (by omega) (by omega) (by decide) (by decide) (by rw [hR9]; exact Nat.le_of_ble_eq_true rfl) (by rw [hR9]; exact Nat.le_of_ble_eq_true rfl) dX0_moveMutations_72 rfl ?_
      exact ja_vret K (jxsL (jxsR u ro) (va_cpy (jxR (jxsR u ro)) (jxL (jxsR u ro)) 0 (i * 14) 14)) rfl (Nat.zero_le _) (Nat.zero_le _) dX0_moveMutations_75 hQ9 rfl (jPh_L hW9 hS9 hi (fun k hk => jcpy_row (F := fun j => jeI (jrowL S i (jN S) j)) (fun j hj => by have h9 := hI17.2 j hj; rw [show n0 = jN S by omega] at h9; exact h9)) ro)
    · refine ja_aload_n K 0 dX0_moveMutations_25 rfl ?_
      refine ja_iload_n K 2 dX0_moveMutations_26 rfl ?_
      refine ja_iload_n K 3 dX0_moveMutations_27 rfl ?_
      refine ja_callVI K (q0 := 0) (qc := (RX0, TX0, 13)) (st := []) [.int (nI ((jP S i))), .int (nI (n0))] (jc_matters l D q cI cZ (jxsR u ro) ((jP S i)) (n0) B (by omega) (by omega) hB.1 hG) (cwV 2 K.1.2.2.2.2 (gX0_X0_matters _) rfl rfl rfl (by decide +kernel) (by rw [hR9]; exact ⟨Nat.le_of_ble_eq_true rfl, Nat.le_of_ble_eq_true rfl⟩)) rfl rfl rfl rfl rfl (Nat.le_of_ble_eq_true rfl) dX0_moveMutations_28 (by rw [hR9]; exact ⟨Nat.le_of_ble_eq_true rfl, Nat.le_of_ble_eq_true rfl⟩) (fun r9 u9 h9 => ?_)
      rw [jbt_at hB (by omega)] at h9
      obtain ⟨rfl, rfl⟩ := h9
      refine ja_if_eq K (tgt := 51) (jmatS S ((jP S i)) (n0) = false) dX0_moveMutations_31 (by decide) (jbI_ne _) (fun h31 => ?_) (fun h31 => ?_)
      · refine ja_iinc K (lv1 := [(0, .ref (q 0)), (1, .int (nI (i))), (2, .int (nI ((jP S i)))), (3, .int (nI ((n0 + 1))))]) 3 (nI ((n0 + 1))) dX0_moveMutations_51 rfl (ja_inc _) (by decide) rfl rfl ?_
        refine ja_goto K (tgt := 17) dX0_moveMutations_54 (by decide) ?_
        exact IH17 (n0 + 1) ro ⟨by omega, fun k hk => by rw [hI17.2 k hk, jrowL_no h31]⟩ (by omega)
      · have hm : jmatS S (jP S i) n0 = true := by simpa using h31
        have hs := jstay_of bp hm
        have hr := jrk_lt hW9 (c := n0) (by omega) hs
        refine ja_aload_n K 0 dX0_moveMutations_34 rfl ?_
        refine ja_get K hu9 0 rfl rfl 12 (by decide) (List.mem_cons_of_mem _ kfX0_48) rfl rfl dX0_moveMutations_35 ?_
        refine ja_aload_n K 0 dX0_moveMutations_38 rfl ?_
        refine ja_get K hu9 0 rfl rfl 8 (by decide) (List.mem_cons_of_mem _ kfX0_36) rfl rfl dX0_moveMutations_39 ?_
        refine ja_iload_n K 3 dX0_moveMutations_42 rfl ?_
        refine ja_iald K (v := nI ((jrk S n0))) 7 0 rfl rfl (n0) rfl (by omega) (by decide) (by have h9 := rB n0 (by omega); rw [jsm_B (by omega) hs] at h9; exact h9) dX0_moveMutations_43 ?_
        refine ja_aload_n K 0 dX0_moveMutations_44 rfl ?_
        refine ja_iload_n K 1 dX0_moveMutations_45 rfl ?_
        refine ja_iload_n K 3 dX0_moveMutations_46 rfl ?_
        refine ja_callVI K (q0 := 0) (qc := (RX0, TX0, 13)) (st := [.int (nI ((jrk S n0))), .ref (q 11)]) [.int (nI (i)), .int (nI (n0))] (jc_mcoming l D q cI cZ S (jxsR u ro) hW9 (i) (n0) hS9 (by omega) (by omega)) (cwV 2 K.1.2.2.2.2 (gX0_X0_mutationComingTo _) rfl rfl rfl (by decide +kernel) (by rw [hR9]; exact ⟨Nat.le_of_ble_eq_true rfl, Nat.le_of_ble_eq_true rfl⟩)) rfl rfl rfl rfl rfl (Nat.le_of_ble_eq_true rfl) dX0_moveMutations_47 (by rw [hR9]; exact ⟨Nat.le_of_ble_eq_true rfl, Nat.le_of_ble_eq_true rfl⟩) (fun r9 u9 h9 => ?_)
        obtain ⟨rfl, rfl⟩ := h9
        refine ja_iast K (ws1 := jxc q cI cZ (jxsR u (upd ro (jrk S n0) (jeI (jcome S (i) (n0)))))) 11 0 rfl rfl ((jrk S n0)) rfl (by omega) (by decide) dX0_moveMutations_50 rfl ?_
        refine ja_iinc K (lv1 := [(0, .ref (q 0)), (1, .int (nI (i))), (2, .int (nI ((jP S i)))), (3, .int (nI ((n0 + 1))))]) 3 (nI ((n0 + 1))) dX0_moveMutations_51 rfl (ja_inc _) (by decide) rfl rfl ?_
        refine ja_goto K (tgt := 17) dX0_moveMutations_54 (by decide) ?_
        exact IH17 (n0 + 1) (upd ro (jrk S n0) (jeI (jcome S i n0))) ⟨by omega, fun k hk => by
          by_cases q1 : k = jrk S n0
          · subst q1; rw [pk_us, jrowL_at hm]
          · rw [pk_un q1, hI17.2 k hk, jrowL_ne q1]⟩ (by omega)
  exact L17 0 g12 ⟨Nat.zero_le _, fun k hk => hg12 k hk⟩
