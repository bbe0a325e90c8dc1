set_option maxRecDepth 100000 in
set_option maxHeartbeats 4000000 in
theorem jc_mcoming (l : Launch) (D : va_G) (q : Nat → Nat) (cI cZ : ClassId) (S : JS) (u : JX) (hW9 : jWf S)   (i c0 : Nat) (hS9 : jxPh S i 0 u) (hi : i < jK S) (hc : c0 < jN S) : jkI l yX0_mutationComingTo wsX0_mutationComingTo ({ frames := 1, cells := 0, slots := 0, locals := 22 }) D vwCl (jxt cI cZ) (jxc q cI cZ) [.ref (q 0), .int (nI i), .int (nI c0)] (jxc q cI cZ u) (fun r u1 => jeI (jcome S i c0) = r ∧ u = u1) := by
  refine jkI_of (cc := cX0_mutationComingTo) (maxL := 7) (ret := (some .int)) (by decide) rfl (Nat.le_of_ble_eq_true rfl) ?_
  intro p e R s m args below meth c Q A K hn9 hR9 hQ9
  obtain ⟨rN, rT, rM, rU, rK, rP, rA, rL, rB, rG⟩ := id hS9
  obtain ⟨wn, wt, wu, wk, wp, wl, wb⟩ := id hW9
  have hu9 : ∀ w ∈ u_ws RX0 TX0 13, w ∈ wsX0_mutationComingTo := fun w h => List.mem_cons_of_mem _ (ku_X0 w h)
  have bp := (wp i hi).1
  obtain ⟨B, hG, hB⟩ := rG (jP S i) bp
  show jaW p l e R s m args below meth c 0 0 Q D vwCl A 7 (jxc q cI cZ u) [(0, .ref (q 0)), (1, .int (nI (i))), (2, .int (nI (c0)))] 0 []
  refine ja_aload_n K 0 dX0_mutationComingTo_0 rfl ?_
  refine ja_get K hu9 0 rfl rfl 5 (by decide) (List.mem_cons_of_mem _ kfX0_27) rfl rfl dX0_mutationComingTo_1 ?_
  refine ja_iload_n K 1 dX0_mutationComingTo_4 rfl ?_
  refine ja_iald K (v := nI ((jP S (i)))) 4 0 rfl rfl (i) rfl (by omega) (by decide) (rP _ (by omega)) dX0_mutationComingTo_5 ?_
  refine ja_istore_n K (lv1 := [(0, .ref (q 0)), (1, .int (nI (i))), (2, .int (nI (c0))), (3, .int (nI ((jP S (i)))))]) dX0_mutationComingTo_6 (by decide) rfl rfl ?_
  refine ja_aload_n K 0 dX0_mutationComingTo_7 rfl ?_
  refine ja_get K hu9 0 rfl rfl 7 (by decide) (List.mem_cons_of_mem _ kfX0_33) rfl rfl dX0_mutationComingTo_8 ?_
  refine ja_iload_n K 1 dX0_mutationComingTo_11 rfl ?_
  refine ja_bipush K (nI 14) dX0_mutationComingTo_12 (by decide) ?_
  refine ja_imul K (nI ((i * 14))) dX0_mutationComingTo_14 (pk_mul _ _) ?_
  refine ja_iload_n K 2 dX0_mutationComingTo_15 rfl ?_
  refine ja_iadd K (nI (((i * 14) + c0))) dX0_mutationComingTo_16 (nI_add _ _) ?_
  refine ja_iald K (v := jeI (jL S i (c0))) 6 0 rfl rfl (((i * 14) + c0)) rfl (by omega) (by decide) (by have h9 := rL i (c0) (by omega) (by omega); rw [if_neg (by omega)] at h9; exact h9) dX0_mutationComingTo_17 ?_
  refine ja_istore K (lv1 := [(0, .ref (q 0)), (1, .int (nI (i))), (2, .int (nI (c0))), (3, .int (nI ((jP S (i))))), (4, .int (jeI (jL S i (c0))))]) dX0_mutationComingTo_18 (by decide) rfl rfl ?_
  refine ja_aload_n K 0 dX0_mutationComingTo_20 rfl ?_
  refine ja_iload_n K 3 dX0_mutationComingTo_21 rfl ?_
  refine ja_iload_n K 2 dX0_mutationComingTo_22 rfl ?_
  refine ja_callVI K (q0 := 0) (qc := (RX0, TX0, 13)) (st := []) [.int (nI ((jP S (i)))), .int (nI (c0))] (jc_parentAt l D q cI cZ (u) ((jP S (i))) (c0) (by omega) (by omega) (jU S ((jP S (i))) (c0)) (by have h9 := rU ((jP S (i))) (c0) (by omega) (by omega); rw [if_neg (by omega)] at h9; exact h9)) (cwV 2 K.1.2.2.2.2 (gX0_X0_parentAt _) rfl rfl rfl (by decide +kernel) (by rw [hR9]; exact ⟨Nat.le_of_ble_eq_true rfl, Nat.le_of_ble_eq_true rfl⟩)) rfl rfl rfl rfl rfl (Nat.le_of_ble_eq_true rfl) dX0_mutationComingTo_23 (by rw [hR9]; exact ⟨Nat.le_of_ble_eq_true rfl, Nat.le_of_ble_eq_true rfl⟩) (fun r9 u9 h9 => ?_)
  obtain ⟨rfl, rfl⟩ := h9
  refine ja_istore K (lv1 := [(0, .ref (q 0)), (1, .int (nI (i))), (2, .int (nI (c0))), (3, .int (nI ((jP S (i))))), (4, .int (jeI (jL S i (c0)))), (5, .int (jeI (jU S ((jP S (i))) (c0))))]) dX0_mutationComingTo_26 (by decide) rfl rfl ?_
  refine ja_iconst K (nI 0) dX0_mutationComingTo_28 (by decide) ?_
  refine ja_istore K (lv1 := [(0, .ref (q 0)), (1, .int (nI (i))), (2, .int (nI (c0))), (3, .int (nI ((jP S (i))))), (4, .int (jeI (jL S i (c0)))), (5, .int (jeI (jU S ((jP S (i))) (c0)))), (6, .int (nI 0))]) dX0_mutationComingTo_29 (by decide) rfl rfl ?_
  have L31 : ∀ (k : Nat) (d0 : Nat) (ow : Option Nat) (o : Option Nat), (k + d0 = 14 ∧ (∀ y, ow = some y → y < 4) ∧ (∀ y, o = some y → y < jN S) ∧ jcmo S i ow (jpF (jU S (jP S i)) (jcmP S i) d0 o) = jcome S i c0) → jaW p l e R s m args below meth c 0 0 Q D vwCl A 7 (jxc q cI cZ u) [(0, .ref (q 0)), (1, .int (nI (i))), (2, .int (nI (c0))), (3, .int (nI ((jP S i)))), (4, .int (jeI (ow))), (5, .int (jeI (o))), (6, .int (nI (k)))] 31 [] := by
    refine jl_4 (fun (k : Nat) (d0 : Nat) (ow : Option Nat) (o : Option Nat) => d0) (fun (k : Nat) (d0 : Nat) (ow : Option Nat) (o : Option Nat) => k + d0 = 14 ∧ (∀ y, ow = some y → y < 4) ∧ (∀ y, o = some y → y < jN S) ∧ jcmo S i ow (jpF (jU S (jP S i)) (jcmP S i) d0 o) = jcome S i c0) _ ?_
    intro k d0 ow o hI31 IH31
    refine ja_iload K 6 dX0_mutationComingTo_31 rfl ?_
    refine ja_bipush K (nI 14) dX0_mutationComingTo_33 (by decide) ?_
    refine ja_icmp_ge K (tgt := 89) (14 ≤ k) dX0_mutationComingTo_35 (by decide) (nI_leI (by omega) (by omega)) (fun h35 => ?_) (fun h35 => ?_)
    · obtain rfl : d0 = 0 := by omega
      refine ja_iload K 4 dX0_mutationComingTo_89 rfl ?_
      exact ja_iret K (u) rfl (Nat.zero_le _) (Nat.zero_le _) dX0_mutationComingTo_91 hQ9 rfl ⟨by rw [← hI31.2.2.2]; first | rfl | (simp [jpF, jcmo, jeI]; done) | (simp [jpF, jcmP, h57, jcmo, jeI]; done) | (cases ow <;> simp [jpF, jcmo, jeI]), rfl⟩
    · obtain ⟨d, rfl⟩ : ∃ d1, d0 = d1 + 1 := ⟨d0 - 1, by omega⟩
      refine ja_iload K 4 dX0_mutationComingTo_38 rfl ?_
      refine ja_iconst K (-1) dX0_mutationComingTo_40 (by decide) ?_
      refine ja_icmp_ne K (tgt := 89) (¬ ow = none) dX0_mutationComingTo_41 (by decide) (not_congr (jeI_m1 (o := ow) (fun p9 h9 => by have := hI31.2.1 p9 h9; omega))) (fun h41 => ?_) (fun h41 => ?_)
      · obtain ⟨y41, rfl⟩ := Option.ne_none_iff_exists'.mp h41
        have by41 := hI31.2.1 y41 rfl
        refine ja_iload K 4 dX0_mutationComingTo_89 rfl ?_
        exact ja_iret K (u) rfl (Nat.zero_le _) (Nat.zero_le _) dX0_mutationComingTo_91 hQ9 rfl ⟨by rw [← hI31.2.2.2]; first | rfl | (simp [jpF, jcmo, jeI]; done) | (simp [jpF, jcmP, h57, jcmo, jeI]; done) | (cases ow <;> simp [jpF, jcmo, jeI]), rfl⟩
      · replace h41 := Classical.not_not.mp h41
        subst h41
        refine ja_iload K 5 dX0_mutationComingTo_44 rfl ?_
        refine ja_iconst K (-1) dX0_mutationComingTo_46 (by decide) ?_
        refine ja_icmp_eq K (tgt := 89) (o = none) dX0_mutationComingTo_47 (by decide) (jeI_m1 (o := o) (fun p9 h9 => by have := hI31.2.2.1 p9 h9; omega)) (fun h47 => ?_) (fun h47 => ?_)
        · subst h47
          refine ja_iload K 4 dX0_mutationComingTo_89 rfl ?_
          exact ja_iret K (u) rfl (Nat.zero_le _) (Nat.zero_le _) dX0_mutationComingTo_91 hQ9 rfl ⟨by rw [← hI31.2.2.2]; first | rfl | (simp [jpF, jcmo, jeI]; done) | (simp [jpF, jcmP, h57, jcmo, jeI]; done) | (cases ow <;> simp [jpF, jcmo, jeI]), rfl⟩
        · obtain ⟨y47, rfl⟩ := Option.ne_none_iff_exists'.mp h47
          have by47 := hI31.2.2.1 y47 rfl
          refine ja_aload_n K 0 dX0_mutationComingTo_50 rfl ?_
          refine ja_iload_n K 3 dX0_mutationComingTo_51 rfl ?_
          refine ja_iload K 5 dX0_mutationComingTo_52 rfl ?_
          refine ja_callVI K (q0 := 0) (qc := (RX0, TX0, 13)) (st := []) [.int (nI ((jP S i))), .int (nI (y47))] (jc_matters l D q cI cZ (u) ((jP S i)) (y47) B (by omega) (by omega) hB.1 hG) (cwV 2 K.1.2.2.2.2 (gX0_X0_matters _) rfl rfl rfl (by decide +kernel) (by rw [hR9]; exact ⟨Nat.le_of_ble_eq_true rfl, Nat.le_of_ble_eq_true rfl⟩)) rfl rfl rfl rfl rfl (Nat.le_of_ble_eq_true rfl) dX0_mutationComingTo_54 (by rw [hR9]; exact ⟨Nat.le_of_ble_eq_true rfl, Nat.le_of_ble_eq_true rfl⟩) (fun r9 u9 h9 => ?_)
          rw [jbt_at hB (by omega)] at h9
          obtain ⟨rfl, rfl⟩ := h9
          refine ja_if_ne K (tgt := 89) (jmatS S ((jP S i)) (y47) = true) dX0_mutationComingTo_57 (by decide) (jbI_nz _) (fun h57 => ?_) (fun h57 => ?_)
          · refine ja_iload K 4 dX0_mutationComingTo_89 rfl ?_
            exact ja_iret K (u) rfl (Nat.zero_le _) (Nat.zero_le _) dX0_mutationComingTo_91 hQ9 rfl ⟨by rw [← hI31.2.2.2]; first | rfl | (simp [jpF, jcmo, jeI]; done) | (simp [jpF, jcmP, h57, jcmo, jeI]; done) | (cases ow <;> simp [jpF, jcmo, jeI]), rfl⟩
          · simp only [Bool.not_eq_true] at h57
            refine ja_aload_n K 0 dX0_mutationComingTo_60 rfl ?_
            refine ja_get K hu9 0 rfl rfl 7 (by decide) (List.mem_cons_of_mem _ kfX0_33) rfl rfl dX0_mutationComingTo_61 ?_
            refine ja_iload_n K 1 dX0_mutationComingTo_64 rfl ?_
            refine ja_bipush K (nI 14) dX0_mutationComingTo_65 (by decide) ?_
            refine ja_imul K (nI ((i * 14))) dX0_mutationComingTo_67 (pk_mul _ _) ?_
            refine ja_iload K 5 dX0_mutationComingTo_68 rfl ?_
            refine ja_iadd K (nI (((i * 14) + y47))) dX0_mutationComingTo_70 (nI_add _ _) ?_
            refine ja_iald K (v := jeI (jL S i (y47))) 6 0 rfl rfl (((i * 14) + y47)) rfl (by omega) (by decide) (by have h9 := rL i (y47) (by omega) (by omega); rw [if_neg (by omega)] at h9; exact h9) dX0_mutationComingTo_71 ?_
            refine ja_istore K (lv1 := [(0, .ref (q 0)), (1, .int (nI (i))), (2, .int (nI (c0))), (3, .int (nI ((jP S i)))), (4, .int (jeI (jL S i (y47)))), (5, .int (nI (y47))), (6, .int (nI (k)))]) dX0_mutationComingTo_72 (by decide) rfl rfl ?_
            refine ja_aload_n K 0 dX0_mutationComingTo_74 rfl ?_
            refine ja_iload_n K 3 dX0_mutationComingTo_75 rfl ?_
            refine ja_iload K 5 dX0_mutationComingTo_76 rfl ?_
            refine ja_callVI K (q0 := 0) (qc := (RX0, TX0, 13)) (st := []) [.int (nI ((jP S i))), .int (nI (y47))] (jc_parentAt l D q cI cZ (u) ((jP S i)) (y47) (by omega) (by omega) (jU S ((jP S i)) (y47)) (by have h9 := rU ((jP S i)) (y47) (by omega) (by omega); rw [if_neg (by omega)] at h9; exact h9)) (cwV 2 K.1.2.2.2.2 (gX0_X0_parentAt _) rfl rfl rfl (by decide +kernel) (by rw [hR9]; exact ⟨Nat.le_of_ble_eq_true rfl, Nat.le_of_ble_eq_true rfl⟩)) rfl rfl rfl rfl rfl (Nat.le_of_ble_eq_true rfl) dX0_mutationComingTo_78 (by rw [hR9]; exact ⟨Nat.le_of_ble_eq_true rfl, Nat.le_of_ble_eq_true rfl⟩) (fun r9 u9 h9 => ?_)
            obtain ⟨rfl, rfl⟩ := h9
            refine ja_istore K (lv1 := [(0, .ref (q 0)), (1, .int (nI (i))), (2, .int (nI (c0))), (3, .int (nI ((jP S i)))), (4, .int (jeI (jL S i (y47)))), (5, .int (jeI (jU S ((jP S i)) (y47)))), (6, .int (nI (k)))]) dX0_mutationComingTo_81 (by decide) rfl rfl ?_
            refine ja_iinc K (lv1 := [(0, .ref (q 0)), (1, .int (nI (i))), (2, .int (nI (c0))), (3, .int (nI ((jP S i)))), (4, .int (jeI (jL S i (y47)))), (5, .int (jeI (jU S ((jP S i)) (y47)))), (6, .int (nI ((k + 1))))]) 6 (nI ((k + 1))) dX0_mutationComingTo_83 rfl (ja_inc _) (by decide) rfl rfl ?_
            refine ja_goto K (tgt := 31) dX0_mutationComingTo_86 (by decide) ?_
            have k9 := IH31 (k + 1) d (jL S i y47) (jU S (jP S i) y47) ⟨by omega, fun y h => (wl _ _ y h).2.2, fun y h => (wu _ _ y h).2.1, by rw [← hI31.2.2.2]; exact jcmo_step h57⟩ (by omega)
            exact k9
  exact L31 0 14 (jL S i c0) (jU S (jP S i) c0) ⟨rfl, fun y h => (wl _ _ y h).2.2, fun y h => (wu _ _ y h).2.1, (jcome_eq S i c0).symm⟩
