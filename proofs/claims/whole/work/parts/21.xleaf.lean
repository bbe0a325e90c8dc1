set_option maxRecDepth 100000 in
set_option maxHeartbeats 4000000 in
theorem jc_isNode (l : Launch) (D : va_G) (q : Nat → Nat) (cI cZ : ClassId) (S : JS) (u : JX) (hW9 : jWf S) (hS9 : jxR1 S u) (z : Int32) : jkI l yX0_isNode wsX0_isNode ({ frames := 0, cells := 0, slots := 0, locals := 0 }) D vwCl (jxt cI cZ) (jxc q cI cZ) [.ref (q 0), .int z] (jxc q cI cZ u) (fun r u1 => jbI (jin z (jN S)) = r ∧ u = u1) := by
  refine jkI_of (cc := cX0_isNode) (maxL := 2) (ret := (some .boolean)) (by decide) rfl (Nat.le_of_ble_eq_true rfl) ?_
  intro p e R s m args below meth c Q A K hn9 hR9 hQ9
  obtain ⟨rN, rT, rM, rU, rK, rP, rA, rL, rB⟩ := id hS9
  obtain ⟨wn, wt, wu, wk, wp, wl, wb⟩ := id hW9
  have hu9 : ∀ w ∈ u_ws RX0 TX0 13, w ∈ wsX0_isNode := fun w h => List.mem_cons_of_mem _ (ku_X0 w h)
  show jaW p l e R s m args below meth c 0 0 Q D vwCl A 2 (jxc q cI cZ u) [(0, .ref (q 0)), (1, .int (z))] 0 []
  refine ja_iload_n K 1 dX0_isNode_0 rfl ?_
  refine ja_if_lt K (tgt := 16) (z < 0) dX0_isNode_1 (by decide) Iff.rfl (fun h1 => ?_) (fun h1 => ?_)
  · refine ja_iconst K (nI 0) dX0_isNode_16 (by decide) ?_
    exact ja_zret K (u) rfl (by first | exact ja_nz1 | exact ja_nz0 | exact jbI_narrow _) (Nat.zero_le _) (Nat.zero_le _) dX0_isNode_17 hQ9 rfl ⟨by first | exact jin_t ‹_› ‹_› | exact jin_f1 ‹_› | exact jin_f2 ‹_›, rfl⟩
  · refine ja_iload_n K 1 dX0_isNode_4 rfl ?_
    refine ja_aload_n K 0 dX0_isNode_5 rfl ?_
    refine ja_get K hu9 0 rfl rfl 0 (by decide) (List.mem_cons_of_mem _ kfX0_7) rfl (congrArg (fun z9 => some (Value.int z9)) rN) dX0_isNode_6 ?_
    refine ja_icmp_ge K (tgt := 16) (nI ((jN S)) ≤ z) dX0_isNode_9 (by decide) Iff.rfl (fun h9 => ?_) (fun h9 => ?_)
    · refine ja_iconst K (nI 0) dX0_isNode_16 (by decide) ?_
      exact ja_zret K (u) rfl (by first | exact ja_nz1 | exact ja_nz0 | exact jbI_narrow _) (Nat.zero_le _) (Nat.zero_le _) dX0_isNode_17 hQ9 rfl ⟨by first | exact jin_t ‹_› ‹_› | exact jin_f1 ‹_› | exact jin_f2 ‹_›, rfl⟩
    · refine ja_iconst K (nI 1) dX0_isNode_12 (by decide) ?_
      refine ja_goto K (tgt := 17) dX0_isNode_13 (by decide) ?_
      exact ja_zret K (u) rfl (by first | exact ja_nz1 | exact ja_nz0 | exact jbI_narrow _) (Nat.zero_le _) (Nat.zero_le _) dX0_isNode_17 hQ9 rfl ⟨by first | exact jin_t ‹_› ‹_› | exact jin_f1 ‹_› | exact jin_f2 ‹_›, rfl⟩
set_option maxRecDepth 100000 in
set_option maxHeartbeats 4000000 in
theorem jc_isSite (l : Launch) (D : va_G) (q : Nat → Nat) (cI cZ : ClassId) (S : JS) (u : JX) (hW9 : jWf S) (hS9 : jxR1 S u) (z : Int32) : jkI l yX0_isSite wsX0_isSite ({ frames := 0, cells := 0, slots := 0, locals := 0 }) D vwCl (jxt cI cZ) (jxc q cI cZ) [.ref (q 0), .int z] (jxc q cI cZ u) (fun r u1 => jbI (jin z (jK S)) = r ∧ u = u1) := by
  refine jkI_of (cc := cX0_isSite) (maxL := 2) (ret := (some .boolean)) (by decide) rfl (Nat.le_of_ble_eq_true rfl) ?_
  intro p e R s m args below meth c Q A K hn9 hR9 hQ9
  obtain ⟨rN, rT, rM, rU, rK, rP, rA, rL, rB⟩ := id hS9
  obtain ⟨wn, wt, wu, wk, wp, wl, wb⟩ := id hW9
  have hu9 : ∀ w ∈ u_ws RX0 TX0 13, w ∈ wsX0_isSite := fun w h => List.mem_cons_of_mem _ (ku_X0 w h)
  show jaW p l e R s m args below meth c 0 0 Q D vwCl A 2 (jxc q cI cZ u) [(0, .ref (q 0)), (1, .int (z))] 0 []
  refine ja_iload_n K 1 dX0_isSite_0 rfl ?_
  refine ja_if_lt K (tgt := 16) (z < 0) dX0_isSite_1 (by decide) Iff.rfl (fun h1 => ?_) (fun h1 => ?_)
  · refine ja_iconst K (nI 0) dX0_isSite_16 (by decide) ?_
    exact ja_zret K (u) rfl (by first | exact ja_nz1 | exact ja_nz0 | exact jbI_narrow _) (Nat.zero_le _) (Nat.zero_le _) dX0_isSite_17 hQ9 rfl ⟨by first | exact jin_t ‹_› ‹_› | exact jin_f1 ‹_› | exact jin_f2 ‹_›, rfl⟩
  · refine ja_iload_n K 1 dX0_isSite_4 rfl ?_
    refine ja_aload_n K 0 dX0_isSite_5 rfl ?_
    refine ja_get K hu9 0 rfl rfl 4 (by decide) (List.mem_cons_of_mem _ kfX0_24) rfl (congrArg (fun z9 => some (Value.int z9)) rK) dX0_isSite_6 ?_
    refine ja_icmp_ge K (tgt := 16) (nI ((jK S)) ≤ z) dX0_isSite_9 (by decide) Iff.rfl (fun h9 => ?_) (fun h9 => ?_)
    · refine ja_iconst K (nI 0) dX0_isSite_16 (by decide) ?_
      exact ja_zret K (u) rfl (by first | exact ja_nz1 | exact ja_nz0 | exact jbI_narrow _) (Nat.zero_le _) (Nat.zero_le _) dX0_isSite_17 hQ9 rfl ⟨by first | exact jin_t ‹_› ‹_› | exact jin_f1 ‹_› | exact jin_f2 ‹_›, rfl⟩
    · refine ja_iconst K (nI 1) dX0_isSite_12 (by decide) ?_
      refine ja_goto K (tgt := 17) dX0_isSite_13 (by decide) ?_
      exact ja_zret K (u) rfl (by first | exact ja_nz1 | exact ja_nz0 | exact jbI_narrow _) (Nat.zero_le _) (Nat.zero_le _) dX0_isSite_17 hQ9 rfl ⟨by first | exact jin_t ‹_› ‹_› | exact jin_f1 ‹_› | exact jin_f2 ‹_›, rfl⟩
set_option maxRecDepth 100000 in
set_option maxHeartbeats 4000000 in
theorem jc_isPlace (l : Launch) (D : va_G) (q : Nat → Nat) (cI cZ : ClassId) (S : JS) (u : JX) (hW9 : jWf S) (hS9 : jxR1 S u) (z : Int32) : jkI l yX0_isPlace wsX0_isPlace ({ frames := 0, cells := 0, slots := 0, locals := 0 }) D vwCl (jxt cI cZ) (jxc q cI cZ) [.int z] (jxc q cI cZ u) (fun r u1 => jbI (jin z 60) = r ∧ u = u1) := by
  refine jkI_of (cc := cX0_isPlace) (maxL := 1) (ret := (some .boolean)) (by decide) rfl (Nat.le_of_ble_eq_true rfl) ?_
  intro p e R s m args below meth c Q A K hn9 hR9 hQ9
  obtain ⟨rN, rT, rM, rU, rK, rP, rA, rL, rB⟩ := id hS9
  obtain ⟨wn, wt, wu, wk, wp, wl, wb⟩ := id hW9
  show jaW p l e R s m args below meth c 0 0 Q D vwCl A 1 (jxc q cI cZ u) [(0, .int (z))] 0 []
  refine ja_iload_n K 0 dX0_isPlace_0 rfl ?_
  refine ja_if_lt K (tgt := 14) (z < 0) dX0_isPlace_1 (by decide) Iff.rfl (fun h1 => ?_) (fun h1 => ?_)
  · refine ja_iconst K (nI 0) dX0_isPlace_14 (by decide) ?_
    exact ja_zret K (u) rfl (by first | exact ja_nz1 | exact ja_nz0 | exact jbI_narrow _) (Nat.zero_le _) (Nat.zero_le _) dX0_isPlace_15 hQ9 rfl ⟨by first | exact jin_t ‹_› ‹_› | exact jin_f1 ‹_› | exact jin_f2 ‹_›, rfl⟩
  · refine ja_iload_n K 0 dX0_isPlace_4 rfl ?_
    refine ja_bipush K (nI 60) dX0_isPlace_5 (by decide) ?_
    refine ja_icmp_ge K (tgt := 14) (nI 60 ≤ z) dX0_isPlace_7 (by decide) Iff.rfl (fun h7 => ?_) (fun h7 => ?_)
    · refine ja_iconst K (nI 0) dX0_isPlace_14 (by decide) ?_
      exact ja_zret K (u) rfl (by first | exact ja_nz1 | exact ja_nz0 | exact jbI_narrow _) (Nat.zero_le _) (Nat.zero_le _) dX0_isPlace_15 hQ9 rfl ⟨by first | exact jin_t ‹_› ‹_› | exact jin_f1 ‹_› | exact jin_f2 ‹_›, rfl⟩
    · refine ja_iconst K (nI 1) dX0_isPlace_10 (by decide) ?_
      refine ja_goto K (tgt := 15) dX0_isPlace_11 (by decide) ?_
      exact ja_zret K (u) rfl (by first | exact ja_nz1 | exact ja_nz0 | exact jbI_narrow _) (Nat.zero_le _) (Nat.zero_le _) dX0_isPlace_15 hQ9 rfl ⟨by first | exact jin_t ‹_› ‹_› | exact jin_f1 ‹_› | exact jin_f2 ‹_›, rfl⟩
set_option maxRecDepth 100000 in
set_option maxHeartbeats 4000000 in
theorem jc_isRun (l : Launch) (D : va_G) (q : Nat → Nat) (cI cZ : ClassId) (S : JS) (u : JX) (hW9 : jWf S) (hS9 : jxR1 S u) (a b : Int32) : jkI l yX0_isRun wsX0_isRun ({ frames := 0, cells := 0, slots := 0, locals := 0 }) D vwCl (jxt cI cZ) (jxc q cI cZ) [.int a, .int b] (jxc q cI cZ u) (fun r u1 => jbI (jrun a b) = r ∧ u = u1) := by
  refine jkI_of (cc := cX0_isRun) (maxL := 2) (ret := (some .boolean)) (by decide) rfl (Nat.le_of_ble_eq_true rfl) ?_
  intro p e R s m args below meth c Q A K hn9 hR9 hQ9
  obtain ⟨rN, rT, rM, rU, rK, rP, rA, rL, rB⟩ := id hS9
  obtain ⟨wn, wt, wu, wk, wp, wl, wb⟩ := id hW9
  show jaW p l e R s m args below meth c 0 0 Q D vwCl A 2 (jxc q cI cZ u) [(0, .int (a)), (1, .int (b))] 0 []
  refine ja_iload_n K 0 dX0_isRun_0 rfl ?_
  refine ja_if_lt K (tgt := 19) (a < 0) dX0_isRun_1 (by decide) Iff.rfl (fun h1 => ?_) (fun h1 => ?_)
  · refine ja_iconst K (nI 0) dX0_isRun_19 (by decide) ?_
    exact ja_zret K (u) rfl (by first | exact ja_nz1 | exact ja_nz0 | exact jbI_narrow _) (Nat.zero_le _) (Nat.zero_le _) dX0_isRun_20 hQ9 rfl ⟨by first | exact jrun_t ‹_› ‹_› ‹_› | exact jrun_f1 ‹_› | exact jrun_f2 ‹_› | exact jrun_f3 ‹_›, rfl⟩
  · refine ja_iload_n K 0 dX0_isRun_4 rfl ?_
    refine ja_iload_n K 1 dX0_isRun_5 rfl ?_
    refine ja_icmp_ge K (tgt := 19) (b ≤ a) dX0_isRun_6 (by decide) Iff.rfl (fun h6 => ?_) (fun h6 => ?_)
    · refine ja_iconst K (nI 0) dX0_isRun_19 (by decide) ?_
      exact ja_zret K (u) rfl (by first | exact ja_nz1 | exact ja_nz0 | exact jbI_narrow _) (Nat.zero_le _) (Nat.zero_le _) dX0_isRun_20 hQ9 rfl ⟨by first | exact jrun_t ‹_› ‹_› ‹_› | exact jrun_f1 ‹_› | exact jrun_f2 ‹_› | exact jrun_f3 ‹_›, rfl⟩
    · refine ja_iload_n K 1 dX0_isRun_9 rfl ?_
      refine ja_bipush K (nI 60) dX0_isRun_10 (by decide) ?_
      refine ja_icmp_gt K (tgt := 19) (nI 60 < b) dX0_isRun_12 (by decide) Iff.rfl (fun h12 => ?_) (fun h12 => ?_)
      · refine ja_iconst K (nI 0) dX0_isRun_19 (by decide) ?_
        exact ja_zret K (u) rfl (by first | exact ja_nz1 | exact ja_nz0 | exact jbI_narrow _) (Nat.zero_le _) (Nat.zero_le _) dX0_isRun_20 hQ9 rfl ⟨by first | exact jrun_t ‹_› ‹_› ‹_› | exact jrun_f1 ‹_› | exact jrun_f2 ‹_› | exact jrun_f3 ‹_›, rfl⟩
      · refine ja_iconst K (nI 1) dX0_isRun_15 (by decide) ?_
        refine ja_goto K (tgt := 20) dX0_isRun_16 (by decide) ?_
        exact ja_zret K (u) rfl (by first | exact ja_nz1 | exact ja_nz0 | exact jbI_narrow _) (Nat.zero_le _) (Nat.zero_le _) dX0_isRun_20 hQ9 rfl ⟨by first | exact jrun_t ‹_› ‹_› ‹_› | exact jrun_f1 ‹_› | exact jrun_f2 ‹_› | exact jrun_f3 ‹_›, rfl⟩
set_option maxRecDepth 100000 in
set_option maxHeartbeats 4000000 in
theorem jc_parentAt (l : Launch) (D : va_G) (q : Nat → Nat) (cI cZ : ClassId) (S : JS) (u : JX) (hW9 : jWf S) (hS9 : jxR1 S u) (x c0 : Nat) (hx : x < 60) (hc : c0 < 14) : jkI l yX0_parentAt wsX0_parentAt ({ frames := 0, cells := 0, slots := 0, locals := 0 }) D vwCl (jxt cI cZ) (jxc q cI cZ) [.ref (q 0), .int (nI x), .int (nI c0)] (jxc q cI cZ u) (fun r u1 => jeI (jU S x c0) = r ∧ u = u1) := by
  refine jkI_of (cc := cX0_parentAt) (maxL := 3) (ret := (some .int)) (by decide) rfl (Nat.le_of_ble_eq_true rfl) ?_
  intro p e R s m args below meth c Q A K hn9 hR9 hQ9
  obtain ⟨rN, rT, rM, rU, rK, rP, rA, rL, rB⟩ := id hS9
  obtain ⟨wn, wt, wu, wk, wp, wl, wb⟩ := id hW9
  have hu9 : ∀ w ∈ u_ws RX0 TX0 13, w ∈ wsX0_parentAt := fun w h => List.mem_cons_of_mem _ (ku_X0 w h)
  show jaW p l e R s m args below meth c 0 0 Q D vwCl A 3 (jxc q cI cZ u) [(0, .ref (q 0)), (1, .int (nI (x))), (2, .int (nI (c0)))] 0 []
  refine ja_aload_n K 0 dX0_parentAt_0 rfl ?_
  refine ja_get K hu9 0 rfl rfl 3 (by decide) (List.mem_cons_of_mem _ kfX0_21) rfl rfl dX0_parentAt_1 ?_
  refine ja_iload_n K 1 dX0_parentAt_4 rfl ?_
  refine ja_bipush K (nI 14) dX0_parentAt_5 (by decide) ?_
  refine ja_imul K (nI ((x * 14))) dX0_parentAt_7 (pk_mul _ _) ?_
  refine ja_iload_n K 2 dX0_parentAt_8 rfl ?_
  refine ja_iadd K (nI (((x * 14) + c0))) dX0_parentAt_9 (nI_add _ _) ?_
  refine ja_iald K 3 0 rfl rfl (((x * 14) + c0)) rfl (by omega) (by decide) (rU _ _ (by omega) (by omega)) dX0_parentAt_10 ?_
  exact ja_iret K (u) rfl (Nat.zero_le _) (Nat.zero_le _) dX0_parentAt_11 hQ9 rfl ⟨rfl, rfl⟩
set_option maxRecDepth 100000 in
set_option maxHeartbeats 4000000 in
theorem jc_isEarlier (l : Launch) (D : va_G) (q : Nat → Nat) (cI cZ : ClassId) (S : JS) (u : JX) (hW9 : jWf S) (hS9 : jxR1 S u) (a b : Nat) (ha : a < jN S) (hb : b < jN S) : jkI l yX0_isEarlier wsX0_isEarlier ({ frames := 0, cells := 0, slots := 0, locals := 0 }) D vwCl (jxt cI cZ) (jxc q cI cZ) [.ref (q 0), .int (nI a), .int (nI b)] (jxc q cI cZ u) (fun r u1 => jbI (jlt (jT S) a b) = r ∧ u = u1) := by
  refine jkI_of (cc := cX0_isEarlier) (maxL := 3) (ret := (some .boolean)) (by decide) rfl (Nat.le_of_ble_eq_true rfl) ?_
  intro p e R s m args below meth c Q A K hn9 hR9 hQ9
  obtain ⟨rN, rT, rM, rU, rK, rP, rA, rL, rB⟩ := id hS9
  obtain ⟨wn, wt, wu, wk, wp, wl, wb⟩ := id hW9
  have hu9 : ∀ w ∈ u_ws RX0 TX0 13, w ∈ wsX0_isEarlier := fun w h => List.mem_cons_of_mem _ (ku_X0 w h)
  have ta := wt a ha
  have tb := wt b hb
  show jaW p l e R s m args below meth c 0 0 Q D vwCl A 3 (jxc q cI cZ u) [(0, .ref (q 0)), (1, .int (nI (a))), (2, .int (nI (b)))] 0 []
  refine ja_aload_n K 0 dX0_isEarlier_0 rfl ?_
  refine ja_get K hu9 0 rfl rfl 1 (by decide) (List.mem_cons_of_mem _ kfX0_13) rfl rfl dX0_isEarlier_1 ?_
  refine ja_iload_n K 1 dX0_isEarlier_4 rfl ?_
  refine ja_iald K 1 0 rfl rfl (a) rfl (by omega) (by decide) (rT _ (by omega)) dX0_isEarlier_5 ?_
  refine ja_aload_n K 0 dX0_isEarlier_6 rfl ?_
  refine ja_get K hu9 0 rfl rfl 1 (by decide) (List.mem_cons_of_mem _ kfX0_13) rfl rfl dX0_isEarlier_7 ?_
  refine ja_iload_n K 2 dX0_isEarlier_10 rfl ?_
  refine ja_iald K 1 0 rfl rfl (b) rfl (by omega) (by decide) (rT _ (by omega)) dX0_isEarlier_11 ?_
  refine ja_icmp_lt K (tgt := 35) ((jT S (a)) < (jT S (b))) dX0_isEarlier_12 (by decide) (nI_ltI (by omega) (by omega)) (fun h12 => ?_) (fun h12 => ?_)
  · refine ja_iconst K (nI 1) dX0_isEarlier_35 (by decide) ?_
    refine ja_goto K (tgt := 40) dX0_isEarlier_36 (by decide) ?_
    exact ja_zret K (u) rfl (by first | exact ja_nz1 | exact ja_nz0 | exact jbI_narrow _) (Nat.zero_le _) (Nat.zero_le _) dX0_isEarlier_40 hQ9 rfl ⟨by first | (refine jb1 ?_; simp only [jlt, Bool.or_eq_true, Bool.and_eq_true, decide_eq_true_eq, beq_iff_eq]; omega) | (refine jb0 ?_; simp only [jlt, Bool.or_eq_false_iff, Bool.and_eq_false_iff, decide_eq_false_iff_not, beq_eq_false_iff_ne]; omega), rfl⟩
  · refine ja_aload_n K 0 dX0_isEarlier_15 rfl ?_
    refine ja_get K hu9 0 rfl rfl 1 (by decide) (List.mem_cons_of_mem _ kfX0_13) rfl rfl dX0_isEarlier_16 ?_
    refine ja_iload_n K 1 dX0_isEarlier_19 rfl ?_
    refine ja_iald K 1 0 rfl rfl (a) rfl (by omega) (by decide) (rT _ (by omega)) dX0_isEarlier_20 ?_
    refine ja_aload_n K 0 dX0_isEarlier_21 rfl ?_
    refine ja_get K hu9 0 rfl rfl 1 (by decide) (List.mem_cons_of_mem _ kfX0_13) rfl rfl dX0_isEarlier_22 ?_
    refine ja_iload_n K 2 dX0_isEarlier_25 rfl ?_
    refine ja_iald K 1 0 rfl rfl (b) rfl (by omega) (by decide) (rT _ (by omega)) dX0_isEarlier_26 ?_
    refine ja_icmp_ne K (tgt := 39) (¬ (jT S (a)) = (jT S (b))) dX0_isEarlier_27 (by decide) (not_congr (nI_eq (by omega) (by omega))) (fun h27 => ?_) (fun h27 => ?_)
    · refine ja_iconst K (nI 0) dX0_isEarlier_39 (by decide) ?_
      exact ja_zret K (u) rfl (by first | exact ja_nz1 | exact ja_nz0 | exact jbI_narrow _) (Nat.zero_le _) (Nat.zero_le _) dX0_isEarlier_40 hQ9 rfl ⟨by first | (refine jb1 ?_; simp only [jlt, Bool.or_eq_true, Bool.and_eq_true, decide_eq_true_eq, beq_iff_eq]; omega) | (refine jb0 ?_; simp only [jlt, Bool.or_eq_false_iff, Bool.and_eq_false_iff, decide_eq_false_iff_not, beq_eq_false_iff_ne]; omega), rfl⟩
    · refine ja_iload_n K 1 dX0_isEarlier_30 rfl ?_
      refine ja_iload_n K 2 dX0_isEarlier_31 rfl ?_
      refine ja_icmp_ge K (tgt := 39) (b ≤ a) dX0_isEarlier_32 (by decide) (nI_leI (by omega) (by omega)) (fun h32 => ?_) (fun h32 => ?_)
      · refine ja_iconst K (nI 0) dX0_isEarlier_39 (by decide) ?_
        exact ja_zret K (u) rfl (by first | exact ja_nz1 | exact ja_nz0 | exact jbI_narrow _) (Nat.zero_le _) (Nat.zero_le _) dX0_isEarlier_40 hQ9 rfl ⟨by first | (refine jb1 ?_; simp only [jlt, Bool.or_eq_true, Bool.and_eq_true, decide_eq_true_eq, beq_iff_eq]; omega) | (refine jb0 ?_; simp only [jlt, Bool.or_eq_false_iff, Bool.and_eq_false_iff, decide_eq_false_iff_not, beq_eq_false_iff_ne]; omega), rfl⟩
      · refine ja_iconst K (nI 1) dX0_isEarlier_35 (by decide) ?_
        refine ja_goto K (tgt := 40) dX0_isEarlier_36 (by decide) ?_
        exact ja_zret K (u) rfl (by first | exact ja_nz1 | exact ja_nz0 | exact jbI_narrow _) (Nat.zero_le _) (Nat.zero_le _) dX0_isEarlier_40 hQ9 rfl ⟨by first | (refine jb1 ?_; simp only [jlt, Bool.or_eq_true, Bool.and_eq_true, decide_eq_true_eq, beq_iff_eq]; omega) | (refine jb0 ?_; simp only [jlt, Bool.or_eq_false_iff, Bool.and_eq_false_iff, decide_eq_false_iff_not, beq_eq_false_iff_ne]; omega), rfl⟩
