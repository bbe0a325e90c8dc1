set_option maxRecDepth 100000 in
set_option maxHeartbeats 4000000 in
theorem jc_moveParents (l : Launch) (D : va_G) (q : Nat → Nat) (cI cZ : ClassId) (S : JS) (u : JX) (hW9 : jWf S)   (k9 x : Nat) (hS9 : jxPh S k9 x u) (hx : x < 60) : jkV l yX0_moveParents wsX0_moveParents ({ frames := 2, cells := 0, slots := 0, locals := 46 }) D vwCl (jxt cI cZ) (jxc q cI cZ) [.ref (q 0), .int (nI x)] (jxc q cI cZ u) (fun u1 => jxPh S k9 (x + 1) u1) := by
  refine jkV_of (cc := cX0_moveParents) (maxL := 4) (ret := none) (by decide) rfl (Nat.le_of_ble_eq_true rfl) ?_
  intro p e R s m args below meth c Q A K hn9 hR9 hQ9
  obtain ⟨rN, rT, rM, rU, rK, rP, rA, rL, rB, rG⟩ := id hS9
  obtain ⟨wn, wt, wu, wk, wp, wl, wb⟩ := id hW9
  have hu9 : ∀ w ∈ u_ws RX0 TX0 13, w ∈ wsX0_moveParents := fun w h => List.mem_cons_of_mem _ (ku_X0 w h)
  obtain ⟨B, hG, hB⟩ := rG x hx
  show jaW p l e R s m args below meth c 0 0 Q D vwCl A 4 (jxc q cI cZ u) [(0, .ref (q 0)), (1, .int (nI (x)))] 0 []
  refine ja_aload_n K 0 dX0_moveParents_0 rfl ?_
  refine ja_get K hu9 0 rfl rfl 12 (by decide) (List.mem_cons_of_mem _ kfX0_48) rfl rfl dX0_moveParents_1 ?_
  refine ja_iconst K (-1) dX0_moveParents_4 (by decide) ?_
  refine jx_fillR K (by rw [hR9]; exact ⟨Nat.le_of_ble_eq_true rfl, Nat.le_of_ble_eq_true rfl⟩) (Nat.le_of_ble_eq_true rfl) dX0_moveParents_5 (by rw [hR9]; exact ⟨Nat.le_of_ble_eq_true rfl, Nat.le_of_ble_eq_true rfl⟩) (fun g5 hg5 => ?_)
  refine ja_iconst K (nI 0) dX0_moveParents_8 (by decide) ?_
  refine ja_istore_n K (lv1 := [(0, .ref (q 0)), (1, .int (nI (x))), (2, .int (nI 0))]) dX0_moveParents_9 (by decide) rfl rfl ?_
  have L10 : ∀ (n0 : Nat) (ro : Nat → Int32), (n0 ≤ jN S ∧ ∀ k, k < 14 → ro k = jeI (jrowU S x n0 k)) → jaW p l e R s m args below meth c 0 0 Q D vwCl A 4 (jxc q cI cZ (jxsR u ro)) [(0, .ref (q 0)), (1, .int (nI (x))), (2, .int (nI (n0)))] 10 [] := by
    refine jl_2 (fun (n0 : Nat) (ro : Nat → Int32) => jN S - n0) (fun (n0 : Nat) (ro : Nat → Int32) => n0 ≤ jN S ∧ ∀ k, k < 14 → ro k = jeI (jrowU S x n0 k)) _ ?_
    intro n0 ro hI10 IH10
    refine ja_iload_n K 2 dX0_moveParents_10 rfl ?_
    refine ja_aload_n K 0 dX0_moveParents_11 rfl ?_
    refine ja_get K hu9 0 rfl rfl 0 (by decide) (List.mem_cons_of_mem _ kfX0_7) rfl (congrArg (fun z9 => some (Value.int z9)) rN) dX0_moveParents_12 ?_
    refine ja_icmp_ge K (tgt := 66) ((jN S) ≤ n0) dX0_moveParents_15 (by decide) (nI_leI (by omega) (by omega)) (fun h15 => ?_) (fun h15 => ?_)
    · refine ja_aload_n K 0 dX0_moveParents_66 rfl ?_
      refine ja_get K hu9 0 rfl rfl 12 (by decide) (List.mem_cons_of_mem _ kfX0_48) rfl rfl dX0_moveParents_67 ?_
      refine ja_iconst K (nI 0) dX0_moveParents_70 (by decide) ?_
      refine ja_aload_n K 0 dX0_moveParents_71 rfl ?_
      refine ja_get K hu9 0 rfl rfl 3 (by decide) (List.mem_cons_of_mem _ kfX0_21) rfl rfl dX0_moveParents_72 ?_
      refine ja_iload_n K 1 dX0_moveParents_75 rfl ?_
      refine ja_bipush K (nI 14) dX0_moveParents_76 (by decide) ?_
      refine ja_imul K (nI ((x * 14))) dX0_moveParents_78 (pk_mul _ _) ?_
      refine ja_bipush K (nI 14) dX0_moveParents_79 (by decide) ?_
      refine ja_copy K (ws1 := jxc q cI cZ (jxsU (jxsR u ro) (va_cpy (jxR (jxsR u ro)) (jxU (jxsR u ro)) 0 (x * 14) 14))) (st := []) (List.mem_cons_of_mem _ klX0_192) (List.mem_cons_of_mem _ karc_n) (List.mem_cons_of_mem _ karc_s) (List.mem_cons_of_mem _ kini_sys) 11 3 0 rfl rfl rfl 0 (x * 14) 14 rfl rfl rfl (by omega) (by omega) (by decide) (by decide) (by rw [hR9]; exact Nat.le_of_ble_eq_true rfl) (by rw [hR9]; exact Nat.le_of_ble_eq_true rfl) dX0_moveParents_81 rfl ?_
      exact ja_vret K (jxsU (jxsR u ro) (va_cpy (jxR (jxsR u ro)) (jxU (jxsR u ro)) 0 (x * 14) 14)) rfl (Nat.zero_le _) (Nat.zero_le _) dX0_moveParents_84 hQ9 rfl (jPh_U hS9 hx (fun k hk => jcpy_row (F := fun j => jeI (jrowU S x (jN S) j)) (fun j hj => by have h9 := hI10.2 j hj; rw [show n0 = jN S by omega] at h9; exact h9)) ro)
    · refine ja_aload_n K 0 dX0_moveParents_18 rfl ?_
      refine ja_iload_n K 1 dX0_moveParents_19 rfl ?_
      refine ja_iload_n K 2 dX0_moveParents_20 rfl ?_
      refine ja_callVI K (q0 := 0) (qc := (RX0, TX0, 13)) (st := []) [.int (nI (x)), .int (nI (n0))] (jc_matters l D q cI cZ (jxsR u ro) (x) (n0) B (by omega) (by omega) hB.1 hG) (cwV 2 K.1.2.2.2.2 (gX0_X0_matters _) rfl rfl rfl (by decide +kernel) (by rw [hR9]; exact ⟨Nat.le_of_ble_eq_true rfl, Nat.le_of_ble_eq_true rfl⟩)) rfl rfl rfl rfl rfl (Nat.le_of_ble_eq_true rfl) dX0_moveParents_21 (by rw [hR9]; exact ⟨Nat.le_of_ble_eq_true rfl, Nat.le_of_ble_eq_true rfl⟩) (fun r9 u9 h9 => ?_)
      rw [jbt_at hB (by omega)] at h9
      obtain ⟨rfl, rfl⟩ := h9
      refine ja_if_eq K (tgt := 60) (jmatS S (x) (n0) = false) dX0_moveParents_24 (by decide) (jbI_ne _) (fun h24 => ?_) (fun h24 => ?_)
      · refine ja_iinc K (lv1 := [(0, .ref (q 0)), (1, .int (nI (x))), (2, .int (nI ((n0 + 1))))]) 2 (nI ((n0 + 1))) dX0_moveParents_60 rfl (ja_inc _) (by decide) rfl rfl ?_
        refine ja_goto K (tgt := 10) dX0_moveParents_63 (by decide) ?_
        exact IH10 (n0 + 1) ro ⟨by omega, fun k hk => by rw [hI10.2 k hk, jrowU_no h24]⟩ (by omega)
      · have hm : jmatS S x n0 = true := by simpa using h24
        have hs := jstay_of hx hm
        have hr := jrk_lt hW9 (c := n0) (by omega) hs
        refine ja_aload_n K 0 dX0_moveParents_27 rfl ?_
        refine ja_iload_n K 1 dX0_moveParents_28 rfl ?_
        refine ja_iload_n K 2 dX0_moveParents_29 rfl ?_
        refine ja_callVI K (q0 := 0) (qc := (RX0, TX0, 13)) (st := []) [.int (nI (x)), .int (nI (n0))] (jc_nearest l D q cI cZ S (jxsR u ro) hW9 k9 (x) (n0) hS9 (by omega) (by omega)) (cwV 2 K.1.2.2.2.2 (gX0_X0_nearestMatteringAbove _) rfl rfl rfl (by decide +kernel) (by rw [hR9]; exact ⟨Nat.le_of_ble_eq_true rfl, Nat.le_of_ble_eq_true rfl⟩)) rfl rfl rfl rfl rfl (Nat.le_of_ble_eq_true rfl) dX0_moveParents_30 (by rw [hR9]; exact ⟨Nat.le_of_ble_eq_true rfl, Nat.le_of_ble_eq_true rfl⟩) (fun r9 u9 h9 => ?_)
        obtain ⟨rfl, rfl⟩ := h9
        refine ja_istore_n K (lv1 := [(0, .ref (q 0)), (1, .int (nI (x))), (2, .int (nI (n0))), (3, .int (jeI (jnear S (x) (n0))))]) dX0_moveParents_33 (by decide) rfl rfl ?_
        refine ja_aload_n K 0 dX0_moveParents_34 rfl ?_
        refine ja_get K hu9 0 rfl rfl 12 (by decide) (List.mem_cons_of_mem _ kfX0_48) rfl rfl dX0_moveParents_35 ?_
        refine ja_aload_n K 0 dX0_moveParents_38 rfl ?_
        refine ja_get K hu9 0 rfl rfl 8 (by decide) (List.mem_cons_of_mem _ kfX0_36) rfl rfl dX0_moveParents_39 ?_
        refine ja_iload_n K 2 dX0_moveParents_42 rfl ?_
        refine ja_iald K (v := nI ((jrk S n0))) 7 0 rfl rfl (n0) rfl (by omega) (by decide) (by have h9 := rB n0 (by omega); rw [jsm_B (by omega) hs] at h9; exact h9) dX0_moveParents_43 ?_
        refine ja_iload_n K 3 dX0_moveParents_44 rfl ?_
        refine ja_iconst K (-1) dX0_moveParents_45 (by decide) ?_
        refine ja_icmp_ne K (tgt := 53) (¬ jnear S (x) (n0) = none) dX0_moveParents_46 (by decide) (not_congr (jeI_m1 (o := jnear S (x) (n0)) (fun p9 h9 => by have := (jnear_of hW9 h9); omega))) (fun h46 => ?_) (fun h46 => ?_)
        · obtain ⟨y46, ey46⟩ := Option.ne_none_iff_exists'.mp h46
          try rw [ey46]
          have by46 := (jnear_of hW9 ey46)
          have hs2 := jstay_of hx by46.2.1
          have hr2 := jrk_lt hW9 by46.1 hs2
          refine ja_aload_n K 0 dX0_moveParents_53 rfl ?_
          refine ja_get K hu9 0 rfl rfl 8 (by decide) (List.mem_cons_of_mem _ kfX0_36) rfl rfl dX0_moveParents_54 ?_
          refine ja_iload_n K 3 dX0_moveParents_57 rfl ?_
          refine ja_iald K (v := nI ((jrk S y46))) 7 0 rfl rfl (y46) rfl (by omega) (by decide) (by have h9 := rB y46 (by omega); rw [jsm_B by46.1 hs2] at h9; exact h9) dX0_moveParents_58 ?_
          refine ja_iast K (ws1 := jxc q cI cZ (jxsR u (upd ro (jrk S n0) (nI ((jrk S y46)))))) 11 0 rfl rfl ((jrk S n0)) rfl (by omega) (by decide) dX0_moveParents_59 rfl ?_
          refine ja_iinc K (lv1 := [(0, .ref (q 0)), (1, .int (nI (x))), (2, .int (nI ((n0 + 1)))), (3, .int (nI (y46)))]) 2 (nI ((n0 + 1))) dX0_moveParents_60 rfl (ja_inc _) (by decide) rfl rfl ?_
          refine ja_goto K (tgt := 10) dX0_moveParents_63 (by decide) ?_
          refine ja_locals (lv1 := [(0, .ref (q 0)), (1, .int (nI (x))), (2, .int (nI ((n0 + 1))))]) [0, 1, 2] rfl ?_
          exact IH10 (n0 + 1) (upd ro (jrk S n0) (nI (jrk S y46))) ⟨by omega, fun k hk => by
            by_cases q1 : k = jrk S n0
            · subst q1; rw [pk_us, jrowU_at hm]; rw [ey46]; rfl
            · rw [pk_un q1, hI10.2 k hk, jrowU_ne q1]⟩ (by omega)
        · replace h46 := Classical.not_not.mp h46
          have h46n : jnear S x n0 = none := h46
          refine ja_iconst K (-1) dX0_moveParents_49 (by decide) ?_
          refine ja_goto K (tgt := 59) dX0_moveParents_50 (by decide) ?_
          refine ja_iast K (ws1 := jxc q cI cZ (jxsR u (upd ro (jrk S n0) (-1)))) 11 0 rfl rfl ((jrk S n0)) rfl (by omega) (by decide) dX0_moveParents_59 rfl ?_
          refine ja_iinc K (lv1 := [(0, .ref (q 0)), (1, .int (nI (x))), (2, .int (nI ((n0 + 1)))), (3, .int (jeI (jnear S (x) (n0))))]) 2 (nI ((n0 + 1))) dX0_moveParents_60 rfl (ja_inc _) (by decide) rfl rfl ?_
          refine ja_goto K (tgt := 10) dX0_moveParents_63 (by decide) ?_
          refine ja_locals (lv1 := [(0, .ref (q 0)), (1, .int (nI (x))), (2, .int (nI ((n0 + 1))))]) [0, 1, 2] rfl ?_
          exact IH10 (n0 + 1) (upd ro (jrk S n0) (-1)) ⟨by omega, fun k hk => by
            by_cases q1 : k = jrk S n0
            · subst q1; rw [pk_us, jrowU_at hm]; rw [h46n]; rfl
            · rw [pk_un q1, hI10.2 k hk, jrowU_ne q1]⟩ (by omega)
  exact L10 0 g5 ⟨Nat.zero_le _, fun k hk => hg5 k hk⟩
