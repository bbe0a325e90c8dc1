set_option maxRecDepth 100000 in
set_option maxHeartbeats 4000000 in
theorem jc_isNode (l : Launch) (D : va_G) (q : Nat → Nat) (cI cZ : ClassId) (S : JS) (u : JX) (hW9 : jWf S) (hS9 : jxR1 S u) (z : Int32) : jkI l yX0_isNode wsX0_isNode ({ frames := 0, cells := 0, slots := 0, locals := 0 }) D vwCl (jxt cI cZ) (jxc q cI cZ) [.ref (q 0), .int z] (jxc q cI cZ u) (fun r u1 => jbI (jin z (jN S)) = r ∧ u = u1) := by
  refine jkI_of (cc := cX0_isNode) (maxL := 2) (ret := (some .boolean)) (by decide) rfl (Nat.le_of_ble_eq_true rfl) ?_
  intro p e R s m args below meth c Q A K hn9 hR9 hQ9
  obtain ⟨rN, rT, rM, rU, rK, rP, rA, rL, rB⟩ := id hS9
  obtain ⟨wn, wt, wu, wk, wp, wl, wb⟩ := id hW9
  have hu9 : ∀ w ∈ u_ws RX0 TX0 13, w ∈ wsX0_isNode := fun w h => List.mem_cons_of_mem _ (ku_X0 w h)
  show jaW p l e R s m args below meth c 0 0 Q D vwCl A 2 (jxc q cI cZ u) [(0, .ref (q 0)), (1, .int (z))] 0 []
  refine ja_iload_n K 1 dX0_isNode_0 rfl ?_
  refine ja_if_lt K (tgt := 16) (z < 0) dX0_isNode_1 (by decide) Iff.rfl (fun h1 => ?_) (fun h1 => ?_)
  · refine ja_iconst K (nI 0) dX0_isNode_16 (by decide) ?_
    exact ja_zret K (u) rfl (by first | exact ja_nz1 | exact ja_nz0 | exact jbI_narrow _) (Nat.zero_le _) (Nat.zero_le _) dX0_isNode_17 hQ9 rfl ⟨by first | exact jin_t ‹_› ‹_› | exact jin_f1 ‹_› | exact jin_f2 ‹_›, rfl⟩
  · refine ja_iload_n K 1 dX0_isNode_4 rfl ?_
    refine ja_aload_n K 0 dX0_isNode_5 rfl ?_
    refine ja_get K hu9 0 rfl rfl 0 (by decide) (List.mem_cons_of_mem _ kfX0_7) rfl (congrArg (fun z9 => some (Value.int z9)) rN) dX0_isNode_6 ?_
    refine ja_icmp_ge K (tgt := 16) (nI ((jN S)) ≤ z) dX0_isNode_9 (by decide) Iff.rfl (fun h9 => ?_) (fun h9 => ?_)
    · refine ja_iconst K (nI 0) dX0_isNode_16 (by decide) ?_
      exact ja_zret K (u) rfl (by first | exact ja_nz1 | exact ja_nz0 | exact jbI_narrow _) (Nat.zero_le _) (Nat.zero_le _) dX0_isNode_17 hQ9 rfl ⟨by first | exact jin_t ‹_› ‹_› | exact jin_f1 ‹_› | exact jin_f2 ‹_›, rfl⟩
    · refine ja_iconst K (nI 1) dX0_isNode_12 (by decide) ?_
      refine ja_goto K (tgt := 17) dX0_isNode_13 (by decide) ?_
      exact ja_zret K (u) rfl (by first | exact ja_nz1 | exact ja_nz0 | exact jbI_narrow _) (Nat.zero_le _) (Nat.zero_le _) dX0_isNode_17 hQ9 rfl ⟨by first | exact jin_t ‹_› ‹_› | exact jin_f1 ‹_› | exact jin_f2 ‹_›, rfl⟩
set_option maxRecDepth 100000 in
set_option maxHeartbeats 4000000 in
theorem jc_isSite (l : Launch) (D : va_G) (q : Nat → Nat) (cI cZ : ClassId) (S : JS) (u : JX) (hW9 : jWf S) (hS9 : jxR1 S u) (z : Int32) : jkI l yX0_isSite wsX0_isSite ({ frames := 0, cells := 0, slots := 0, locals := 0 }) D vwCl (jxt cI cZ) (jxc q cI cZ) [.ref (q 0), .int z] (jxc q cI cZ u) (fun r u1 => jbI (jin z (jK S)) = r ∧ u = u1) := by
  refine jkI_of (cc := cX0_isSite) (maxL := 2) (ret := (some .boolean)) (by decide) rfl (Nat.le_of_ble_eq_true rfl) ?_
  intro p e R s m args below meth c Q A K hn9 hR9 hQ9
  obtain ⟨rN, rT, rM, rU, rK, rP, rA, rL, rB⟩ := id hS9
  obtain ⟨wn, wt, wu, wk, wp, wl, wb⟩ := id hW9
  have hu9 : ∀ w ∈ u_ws RX0 TX0 13, w ∈ wsX0_isSite := fun w h => List.mem_cons_of_mem _ (ku_X0 w h)
  show jaW p l e R s m args below meth c 0 0 Q D vwCl A 2 (jxc q cI cZ u) [(0, .ref (q 0)), (1, .int (z))] 0 []
  refine ja_iload_n K 1 dX0_isSite_0 rfl ?_
  refine ja_if_lt K (tgt := 16) (z < 0) dX0_isSite_1 (by decide) Iff.rfl (fun h1 => ?_) (fun h1 => ?_)
  · refine ja_iconst K (nI 0) dX0_isSite_16 (by decide) ?_
    exact ja_zret K (u) rfl (by first | exact ja_nz1 | exact ja_nz0 | exact jbI_narrow _) (Nat.zero_le _) (Nat.zero_le _) dX0_isSite_17 hQ9 rfl ⟨by first | exact jin_t ‹_› ‹_› | exact jin_f1 ‹_› | exact jin_f2 ‹_›, rfl⟩
  · refine ja_iload_n K 1 dX0_isSite_4 rfl ?_
    refine ja_aload_n K 0 dX0_isSite_5 rfl ?_
    refine ja_get K hu9 0 rfl rfl 4 (by decide) (List.mem_cons_of_mem _ kfX0_24) rfl (congrArg (fun z9 => some (Value.int z9)) rK) dX0_isSite_6 ?_
    refine ja_icmp_ge K (tgt := 16) (nI ((jK S)) ≤ z) dX0_isSite_9 (by decide) Iff.rfl (fun h9 => ?_) (fun h9 => ?_)
    · refine ja_iconst K (nI 0) dX0_isSite_16 (by decide) ?_
      exact ja_zret K (u) rfl (by first | exact ja_nz1 | exact ja_nz0 | exact jbI_narrow _) (Nat.zero_le _) (Nat.zero_le _) dX0_isSite_17 hQ9 rfl ⟨by first | exact jin_t ‹_› ‹_› | exact jin_f1 ‹_› | exact jin_f2 ‹_›, rfl⟩
    · refine ja_iconst K (nI 1) dX0_isSite_12 (by decide) ?_
      refine ja_goto K (tgt := 17) dX0_isSite_13 (by decide) ?_
      exact ja_zret K (u) rfl (by first | exact ja_nz1 | exact ja_nz0 | exact jbI_narrow _) (Nat.zero_le _) (Nat.zero_le _) dX0_isSite_17 hQ9 rfl ⟨by first | exact jin_t ‹_› ‹_› | exact jin_f1 ‹_› | exact jin_f2 ‹_›, rfl⟩
set_option maxRecDepth 100000 in
set_option maxHeartbeats 4000000 in
theorem jc_isPlace (l : Launch) (D : va_G) (q : Nat → Nat) (cI cZ : ClassId) (u : JX) (z : Int32) : jkI l yX0_isPlace wsX0_isPlace ({ frames := 0, cells := 0, slots := 0, locals := 0 }) D vwCl (jxt cI cZ) (jxc q cI cZ) [.int z] (jxc q cI cZ u) (fun r u1 => jbI (jin z 60) = r ∧ u = u1) := by
  refine jkI_of (cc := cX0_isPlace) (maxL := 1) (ret := (some .boolean)) (by decide) rfl (Nat.le_of_ble_eq_true rfl) ?_
  intro p e R s m args below meth c Q A K hn9 hR9 hQ9
  show jaW p l e R s m args below meth c 0 0 Q D vwCl A 1 (jxc q cI cZ u) [(0, .int (z))] 0 []
  refine ja_iload_n K 0 dX0_isPlace_0 rfl ?_
  refine ja_if_lt K (tgt := 14) (z < 0) dX0_isPlace_1 (by decide) Iff.rfl (fun h1 => ?_) (fun h1 => ?_)
  · refine ja_iconst K (nI 0) dX0_isPlace_14 (by decide) ?_
    exact ja_zret K (u) rfl (by first | exact ja_nz1 | exact ja_nz0 | exact jbI_narrow _) (Nat.zero_le _) (Nat.zero_le _) dX0_isPlace_15 hQ9 rfl ⟨by first | exact jin_t ‹_› ‹_› | exact jin_f1 ‹_› | exact jin_f2 ‹_›, rfl⟩
  · refine ja_iload_n K 0 dX0_isPlace_4 rfl ?_
    refine ja_bipush K (nI 60) dX0_isPlace_5 (by decide) ?_
    refine ja_icmp_ge K (tgt := 14) (nI 60 ≤ z) dX0_isPlace_7 (by decide) Iff.rfl (fun h7 => ?_) (fun h7 => ?_)
    · refine ja_iconst K (nI 0) dX0_isPlace_14 (by decide) ?_
      exact ja_zret K (u) rfl (by first | exact ja_nz1 | exact ja_nz0 | exact jbI_narrow _) (Nat.zero_le _) (Nat.zero_le _) dX0_isPlace_15 hQ9 rfl ⟨by first | exact jin_t ‹_› ‹_› | exact jin_f1 ‹_› | exact jin_f2 ‹_›, rfl⟩
    · refine ja_iconst K (nI 1) dX0_isPlace_10 (by decide) ?_
      refine ja_goto K (tgt := 15) dX0_isPlace_11 (by decide) ?_
      exact ja_zret K (u) rfl (by first | exact ja_nz1 | exact ja_nz0 | exact jbI_narrow _) (Nat.zero_le _) (Nat.zero_le _) dX0_isPlace_15 hQ9 rfl ⟨by first | exact jin_t ‹_› ‹_› | exact jin_f1 ‹_› | exact jin_f2 ‹_›, rfl⟩
set_option maxRecDepth 100000 in
set_option maxHeartbeats 4000000 in
theorem jc_isRun (l : Launch) (D : va_G) (q : Nat → Nat) (cI cZ : ClassId) (u : JX) (a b : Int32) : jkI l yX0_isRun wsX0_isRun ({ frames := 0, cells := 0, slots := 0, locals := 0 }) D vwCl (jxt cI cZ) (jxc q cI cZ) [.int a, .int b] (jxc q cI cZ u) (fun r u1 => jbI (jrun a b) = r ∧ u = u1) := by
  refine jkI_of (cc := cX0_isRun) (maxL := 2) (ret := (some .boolean)) (by decide) rfl (Nat.le_of_ble_eq_true rfl) ?_
  intro p e R s m args below meth c Q A K hn9 hR9 hQ9
  show jaW p l e R s m args below meth c 0 0 Q D vwCl A 2 (jxc q cI cZ u) [(0, .int (a)), (1, .int (b))] 0 []
  refine ja_iload_n K 0 dX0_isRun_0 rfl ?_
  refine ja_if_lt K (tgt := 19) (a < 0) dX0_isRun_1 (by decide) Iff.rfl (fun h1 => ?_) (fun h1 => ?_)
  · refine ja_iconst K (nI 0) dX0_isRun_19 (by decide) ?_
    exact ja_zret K (u) rfl (by first | exact ja_nz1 | exact ja_nz0 | exact jbI_narrow _) (Nat.zero_le _) (Nat.zero_le _) dX0_isRun_20 hQ9 rfl ⟨by first | exact jrun_t ‹_› ‹_› ‹_› | exact jrun_f1 ‹_› | exact jrun_f2 ‹_› | exact jrun_f3 ‹_›, rfl⟩
  · refine ja_iload_n K 0 dX0_isRun_4 rfl ?_
    refine ja_iload_n K 1 dX0_isRun_5 rfl ?_
    refine ja_icmp_ge K (tgt := 19) (b ≤ a) dX0_isRun_6 (by decide) Iff.rfl (fun h6 => ?_) (fun h6 => ?_)
    · refine ja_iconst K (nI 0) dX0_isRun_19 (by decide) ?_
      exact ja_zret K (u) rfl (by first | exact ja_nz1 | exact ja_nz0 | exact jbI_narrow _) (Nat.zero_le _) (Nat.zero_le _) dX0_isRun_20 hQ9 rfl ⟨by first | exact jrun_t ‹_› ‹_› ‹_› | exact jrun_f1 ‹_› | exact jrun_f2 ‹_› | exact jrun_f3 ‹_›, rfl⟩
    · refine ja_iload_n K 1 dX0_isRun_9 rfl ?_
      refine ja_bipush K (nI 60) dX0_isRun_10 (by decide) ?_
      refine ja_icmp_gt K (tgt := 19) (nI 60 < b) dX0_isRun_12 (by decide) Iff.rfl (fun h12 => ?_) (fun h12 => ?_)
      · refine ja_iconst K (nI 0) dX0_isRun_19 (by decide) ?_
        exact ja_zret K (u) rfl (by first | exact ja_nz1 | exact ja_nz0 | exact jbI_narrow _) (Nat.zero_le _) (Nat.zero_le _) dX0_isRun_20 hQ9 rfl ⟨by first | exact jrun_t ‹_› ‹_› ‹_› | exact jrun_f1 ‹_› | exact jrun_f2 ‹_› | exact jrun_f3 ‹_›, rfl⟩
      · refine ja_iconst K (nI 1) dX0_isRun_15 (by decide) ?_
        refine ja_goto K (tgt := 20) dX0_isRun_16 (by decide) ?_
        exact ja_zret K (u) rfl (by first | exact ja_nz1 | exact ja_nz0 | exact jbI_narrow _) (Nat.zero_le _) (Nat.zero_le _) dX0_isRun_20 hQ9 rfl ⟨by first | exact jrun_t ‹_› ‹_› ‹_› | exact jrun_f1 ‹_› | exact jrun_f2 ‹_› | exact jrun_f3 ‹_›, rfl⟩
set_option maxRecDepth 100000 in
set_option maxHeartbeats 4000000 in
theorem jc_parentAt (l : Launch) (D : va_G) (q : Nat → Nat) (cI cZ : ClassId) (u : JX) (x c0 : Nat) (hx : x < 60) (hc : c0 < 14) (o : Option Nat) (ho : jxU u (x * 14 + c0) = jeI o) : jkI l yX0_parentAt wsX0_parentAt ({ frames := 0, cells := 0, slots := 0, locals := 0 }) D vwCl (jxt cI cZ) (jxc q cI cZ) [.ref (q 0), .int (nI x), .int (nI c0)] (jxc q cI cZ u) (fun r u1 => jeI o = r ∧ u = u1) := by
  refine jkI_of (cc := cX0_parentAt) (maxL := 3) (ret := (some .int)) (by decide) rfl (Nat.le_of_ble_eq_true rfl) ?_
  intro p e R s m args below meth c Q A K hn9 hR9 hQ9
  have hu9 : ∀ w ∈ u_ws RX0 TX0 13, w ∈ wsX0_parentAt := fun w h => List.mem_cons_of_mem _ (ku_X0 w h)
  show jaW p l e R s m args below meth c 0 0 Q D vwCl A 3 (jxc q cI cZ u) [(0, .ref (q 0)), (1, .int (nI (x))), (2, .int (nI (c0)))] 0 []
  refine ja_aload_n K 0 dX0_parentAt_0 rfl ?_
  refine ja_get K hu9 0 rfl rfl 3 (by decide) (List.mem_cons_of_mem _ kfX0_21) rfl rfl dX0_parentAt_1 ?_
  refine ja_iload_n K 1 dX0_parentAt_4 rfl ?_
  refine ja_bipush K (nI 14) dX0_parentAt_5 (by decide) ?_
  refine ja_imul K (nI ((x * 14))) dX0_parentAt_7 (pk_mul _ _) ?_
  refine ja_iload_n K 2 dX0_parentAt_8 rfl ?_
  refine ja_iadd K (nI (((x * 14) + c0))) dX0_parentAt_9 (nI_add _ _) ?_
  refine ja_iald K (v := jeI (o)) 3 0 rfl rfl (((x * 14) + c0)) rfl (by omega) (by decide) ho dX0_parentAt_10 ?_
  exact ja_iret K (u) rfl (Nat.zero_le _) (Nat.zero_le _) dX0_parentAt_11 hQ9 rfl ⟨rfl, rfl⟩
set_option maxRecDepth 100000 in
set_option maxHeartbeats 4000000 in
theorem jc_isEarlier (l : Launch) (D : va_G) (q : Nat → Nat) (cI cZ : ClassId) (S : JS) (u : JX) (hW9 : jWf S) (hS9 : jxR1 S u) (a b : Nat) (ha : a < jN S) (hb : b < jN S) : jkI l yX0_isEarlier wsX0_isEarlier ({ frames := 0, cells := 0, slots := 0, locals := 0 }) D vwCl (jxt cI cZ) (jxc q cI cZ) [.ref (q 0), .int (nI a), .int (nI b)] (jxc q cI cZ u) (fun r u1 => jbI (jlt (jT S) a b) = r ∧ u = u1) := by
  refine jkI_of (cc := cX0_isEarlier) (maxL := 3) (ret := (some .boolean)) (by decide) rfl (Nat.le_of_ble_eq_true rfl) ?_
  intro p e R s m args below meth c Q A K hn9 hR9 hQ9
  obtain ⟨rN, rT, rM, rU, rK, rP, rA, rL, rB⟩ := id hS9
  obtain ⟨wn, wt, wu, wk, wp, wl, wb⟩ := id hW9
  have hu9 : ∀ w ∈ u_ws RX0 TX0 13, w ∈ wsX0_isEarlier := fun w h => List.mem_cons_of_mem _ (ku_X0 w h)
  have ta := wt a ha
  have tb := wt b hb
  show jaW p l e R s m args below meth c 0 0 Q D vwCl A 3 (jxc q cI cZ u) [(0, .ref (q 0)), (1, .int (nI (a))), (2, .int (nI (b)))] 0 []
  refine ja_aload_n K 0 dX0_isEarlier_0 rfl ?_
  refine ja_get K hu9 0 rfl rfl 1 (by decide) (List.mem_cons_of_mem _ kfX0_13) rfl rfl dX0_isEarlier_1 ?_
  refine ja_iload_n K 1 dX0_isEarlier_4 rfl ?_
  refine ja_iald K (v := nI ((jT S (a)))) 1 0 rfl rfl (a) rfl (by omega) (by decide) (rT _ (by omega)) dX0_isEarlier_5 ?_
  refine ja_aload_n K 0 dX0_isEarlier_6 rfl ?_
  refine ja_get K hu9 0 rfl rfl 1 (by decide) (List.mem_cons_of_mem _ kfX0_13) rfl rfl dX0_isEarlier_7 ?_
  refine ja_iload_n K 2 dX0_isEarlier_10 rfl ?_
  refine ja_iald K (v := nI ((jT S (b)))) 1 0 rfl rfl (b) rfl (by omega) (by decide) (rT _ (by omega)) dX0_isEarlier_11 ?_
  refine ja_icmp_lt K (tgt := 35) ((jT S (a)) < (jT S (b))) dX0_isEarlier_12 (by decide) (nI_ltI (by omega) (by omega)) (fun h12 => ?_) (fun h12 => ?_)
  · refine ja_iconst K (nI 1) dX0_isEarlier_35 (by decide) ?_
    refine ja_goto K (tgt := 40) dX0_isEarlier_36 (by decide) ?_
    exact ja_zret K (u) rfl (by first | exact ja_nz1 | exact ja_nz0 | exact jbI_narrow _) (Nat.zero_le _) (Nat.zero_le _) dX0_isEarlier_40 hQ9 rfl ⟨by first | (refine jb1 ?_; simp only [jlt, Bool.or_eq_true, Bool.and_eq_true, decide_eq_true_eq, beq_iff_eq]; omega) | (refine jb0 ?_; simp only [jlt, Bool.or_eq_false_iff, Bool.and_eq_false_iff, decide_eq_false_iff_not, beq_eq_false_iff_ne]; omega), rfl⟩
  · refine ja_aload_n K 0 dX0_isEarlier_15 rfl ?_
    refine ja_get K hu9 0 rfl rfl 1 (by decide) (List.mem_cons_of_mem _ kfX0_13) rfl rfl dX0_isEarlier_16 ?_
    refine ja_iload_n K 1 dX0_isEarlier_19 rfl ?_
    refine ja_iald K (v := nI ((jT S (a)))) 1 0 rfl rfl (a) rfl (by omega) (by decide) (rT _ (by omega)) dX0_isEarlier_20 ?_
    refine ja_aload_n K 0 dX0_isEarlier_21 rfl ?_
    refine ja_get K hu9 0 rfl rfl 1 (by decide) (List.mem_cons_of_mem _ kfX0_13) rfl rfl dX0_isEarlier_22 ?_
    refine ja_iload_n K 2 dX0_isEarlier_25 rfl ?_
    refine ja_iald K (v := nI ((jT S (b)))) 1 0 rfl rfl (b) rfl (by omega) (by decide) (rT _ (by omega)) dX0_isEarlier_26 ?_
    refine ja_icmp_ne K (tgt := 39) (¬ (jT S (a)) = (jT S (b))) dX0_isEarlier_27 (by decide) (not_congr (nI_eq (by omega) (by omega))) (fun h27 => ?_) (fun h27 => ?_)
    · refine ja_iconst K (nI 0) dX0_isEarlier_39 (by decide) ?_
      exact ja_zret K (u) rfl (by first | exact ja_nz1 | exact ja_nz0 | exact jbI_narrow _) (Nat.zero_le _) (Nat.zero_le _) dX0_isEarlier_40 hQ9 rfl ⟨by first | (refine jb1 ?_; simp only [jlt, Bool.or_eq_true, Bool.and_eq_true, decide_eq_true_eq, beq_iff_eq]; omega) | (refine jb0 ?_; simp only [jlt, Bool.or_eq_false_iff, Bool.and_eq_false_iff, decide_eq_false_iff_not, beq_eq_false_iff_ne]; omega), rfl⟩
    · refine ja_iload_n K 1 dX0_isEarlier_30 rfl ?_
      refine ja_iload_n K 2 dX0_isEarlier_31 rfl ?_
      refine ja_icmp_ge K (tgt := 39) (b ≤ a) dX0_isEarlier_32 (by decide) (nI_leI (by omega) (by omega)) (fun h32 => ?_) (fun h32 => ?_)
      · refine ja_iconst K (nI 0) dX0_isEarlier_39 (by decide) ?_
        exact ja_zret K (u) rfl (by first | exact ja_nz1 | exact ja_nz0 | exact jbI_narrow _) (Nat.zero_le _) (Nat.zero_le _) dX0_isEarlier_40 hQ9 rfl ⟨by first | (refine jb1 ?_; simp only [jlt, Bool.or_eq_true, Bool.and_eq_true, decide_eq_true_eq, beq_iff_eq]; omega) | (refine jb0 ?_; simp only [jlt, Bool.or_eq_false_iff, Bool.and_eq_false_iff, decide_eq_false_iff_not, beq_eq_false_iff_ne]; omega), rfl⟩
      · refine ja_iconst K (nI 1) dX0_isEarlier_35 (by decide) ?_
        refine ja_goto K (tgt := 40) dX0_isEarlier_36 (by decide) ?_
        exact ja_zret K (u) rfl (by first | exact ja_nz1 | exact ja_nz0 | exact jbI_narrow _) (Nat.zero_le _) (Nat.zero_le _) dX0_isEarlier_40 hQ9 rfl ⟨by first | (refine jb1 ?_; simp only [jlt, Bool.or_eq_true, Bool.and_eq_true, decide_eq_true_eq, beq_iff_eq]; omega) | (refine jb0 ?_; simp only [jlt, Bool.or_eq_false_iff, Bool.and_eq_false_iff, decide_eq_false_iff_not, beq_eq_false_iff_ne]; omega), rfl⟩
set_option maxRecDepth 100000 in
set_option maxHeartbeats 4000000 in
theorem jc_became (l : Launch) (D : va_G) (q : Nat → Nat) (cI cZ : ClassId) (S : JS) (u : JX) (hW9 : jWf S) (hS9 : jxR1 S u) (z : Int32) : jkI l yX0_became wsX0_became ({ frames := 0, cells := 0, slots := 0, locals := 0 }) D vwCl (jxt cI cZ) (jxc q cI cZ) [.ref (q 0), .int z] (jxc q cI cZ u) (fun r u1 => jeI (jbec S z) = r ∧ u = u1) := by
  refine jkI_of (cc := cX0_became) (maxL := 2) (ret := (some .int)) (by decide) rfl (Nat.le_of_ble_eq_true rfl) ?_
  intro p e R s m args below meth c Q A K hn9 hR9 hQ9
  obtain ⟨rN, rT, rM, rU, rK, rP, rA, rL, rB⟩ := id hS9
  obtain ⟨wn, wt, wu, wk, wp, wl, wb⟩ := id hW9
  have hu9 : ∀ w ∈ u_ws RX0 TX0 13, w ∈ wsX0_became := fun w h => List.mem_cons_of_mem _ (ku_X0 w h)
  show jaW p l e R s m args below meth c 0 0 Q D vwCl A 2 (jxc q cI cZ u) [(0, .ref (q 0)), (1, .int (z))] 0 []
  refine ja_iload_n K 1 dX0_became_0 rfl ?_
  refine ja_if_lt K (tgt := 10) (z < 0) dX0_became_1 (by decide) Iff.rfl (fun h1 => ?_) (fun h1 => ?_)
  · refine ja_iconst K (-1) dX0_became_10 (by decide) ?_
    exact ja_iret K (u) rfl (Nat.zero_le _) (Nat.zero_le _) dX0_became_11 hQ9 rfl ⟨by first | rw [jbec_f1 h1] | rw [jbec_f2 h7], rfl⟩
  · refine ja_iload_n K 1 dX0_became_4 rfl ?_
    refine ja_bipush K (nI 14) dX0_became_5 (by decide) ?_
    refine ja_icmp_lt K (tgt := 12) (z < nI 14) dX0_became_7 (by decide) Iff.rfl (fun h7 => ?_) (fun h7 => ?_)
    · obtain ⟨j, hj, rfl⟩ := jin_of (n := 14) (jin_tt h1 h7) (by omega)
      refine ja_aload_n K 0 dX0_became_12 rfl ?_
      refine ja_get K hu9 0 rfl rfl 8 (by decide) (List.mem_cons_of_mem _ kfX0_36) rfl rfl dX0_became_13 ?_
      refine ja_iload_n K 1 dX0_became_16 rfl ?_
      refine ja_iald K (v := jeI (jB S (j))) 7 0 rfl rfl (j) rfl (by omega) (by decide) (rB _ (by omega)) dX0_became_17 ?_
      exact ja_iret K (u) rfl (Nat.zero_le _) (Nat.zero_le _) dX0_became_18 hQ9 rfl ⟨by rw [jbec_t hj], rfl⟩
    · refine ja_iconst K (-1) dX0_became_10 (by decide) ?_
      exact ja_iret K (u) rfl (Nat.zero_le _) (Nat.zero_le _) dX0_became_11 hQ9 rfl ⟨by first | rw [jbec_f1 h1] | rw [jbec_f2 h7], rfl⟩
set_option maxRecDepth 100000 in
set_option maxHeartbeats 4000000 in
theorem jc_countSamples (l : Launch) (D : va_G) (q : Nat → Nat) (cI cZ : ClassId) (S : JS) (u : JX) (hW9 : jWf S) (hS9 : jxR1 S u)  : jkI l yX0_countSamples wsX0_countSamples ({ frames := 0, cells := 0, slots := 0, locals := 0 }) D vwCl (jxt cI cZ) (jxc q cI cZ) [.ref (q 0)] (jxc q cI cZ u) (fun r u1 => nI (jct (jM S) (jN S)) = r ∧ u = u1) := by
  refine jkI_of (cc := cX0_countSamples) (maxL := 3) (ret := (some .int)) (by decide) rfl (Nat.le_of_ble_eq_true rfl) ?_
  intro p e R s m args below meth c Q A K hn9 hR9 hQ9
  obtain ⟨rN, rT, rM, rU, rK, rP, rA, rL, rB⟩ := id hS9
  obtain ⟨wn, wt, wu, wk, wp, wl, wb⟩ := id hW9
  have hu9 : ∀ w ∈ u_ws RX0 TX0 13, w ∈ wsX0_countSamples := fun w h => List.mem_cons_of_mem _ (ku_X0 w h)
  show jaW p l e R s m args below meth c 0 0 Q D vwCl A 3 (jxc q cI cZ u) [(0, .ref (q 0))] 0 []
  refine ja_iconst K (nI 0) dX0_countSamples_0 (by decide) ?_
  refine ja_istore_n K (lv1 := [(0, .ref (q 0)), (1, .int (nI 0))]) dX0_countSamples_1 (by decide) rfl rfl ?_
  refine ja_iconst K (nI 0) dX0_countSamples_2 (by decide) ?_
  refine ja_istore_n K (lv1 := [(0, .ref (q 0)), (1, .int (nI 0)), (2, .int (nI 0))]) dX0_countSamples_3 (by decide) rfl rfl ?_
  have L4 : ∀ (i : Nat), (i ≤ jN S) → jaW p l e R s m args below meth c 0 0 Q D vwCl A 3 (jxc q cI cZ u) [(0, .ref (q 0)), (1, .int (nI ((jct (jM S) i)))), (2, .int (nI (i)))] 4 [] := by
    refine jl_1 (fun (i : Nat) => jN S - i) (fun (i : Nat) => i ≤ jN S) _ ?_
    intro i hI4 IH4
    refine ja_iload_n K 2 dX0_countSamples_4 rfl ?_
    refine ja_aload_n K 0 dX0_countSamples_5 rfl ?_
    refine ja_get K hu9 0 rfl rfl 0 (by decide) (List.mem_cons_of_mem _ kfX0_7) rfl (congrArg (fun z9 => some (Value.int z9)) rN) dX0_countSamples_6 ?_
    refine ja_icmp_ge K (tgt := 30) ((jN S) ≤ i) dX0_countSamples_9 (by decide) (nI_leI (by omega) (by omega)) (fun h9 => ?_) (fun h9 => ?_)
    · refine ja_iload_n K 1 dX0_countSamples_30 rfl ?_
      exact ja_iret K (u) rfl (Nat.zero_le _) (Nat.zero_le _) dX0_countSamples_31 hQ9 rfl ⟨by rw [show i = jN S by omega], rfl⟩
    · have b9 := jct_le (jM S) i
      refine ja_aload_n K 0 dX0_countSamples_12 rfl ?_
      refine ja_get K hu9 0 rfl rfl 2 (by decide) (List.mem_cons_of_mem _ kfX0_17) rfl rfl dX0_countSamples_13 ?_
      refine ja_iload_n K 2 dX0_countSamples_16 rfl ?_
      refine ja_zald K (v := jbI (jM S (i))) 2 1 rfl rfl (i) rfl (by omega) (by decide) (rM _ (by omega)) dX0_countSamples_17 ?_
      refine ja_if_eq K (tgt := 24) (jM S (i) = false) dX0_countSamples_18 (by decide) (jbI_ne _) (fun h18 => ?_) (fun h18 => ?_)
      · refine ja_iinc K (lv1 := [(0, .ref (q 0)), (1, .int (nI ((jct (jM S) i)))), (2, .int (nI ((i + 1))))]) 2 (nI ((i + 1))) dX0_countSamples_24 rfl (ja_inc _) (by decide) rfl rfl ?_
        refine ja_goto K (tgt := 4) dX0_countSamples_27 (by decide) ?_
        have e90 : jct (jM S) (i + 1) = (jct (jM S) i) := by simp [jct, h9, h18]
        have k9 := IH4 (i + 1) (by omega) (by omega)
        rw [e90] at k9
        exact k9
      · refine ja_iinc K (lv1 := [(0, .ref (q 0)), (1, .int (nI (((jct (jM S) i) + 1)))), (2, .int (nI (i)))]) 1 (nI (((jct (jM S) i) + 1))) dX0_countSamples_21 rfl (ja_inc _) (by decide) rfl rfl ?_
        refine ja_iinc K (lv1 := [(0, .ref (q 0)), (1, .int (nI (((jct (jM S) i) + 1)))), (2, .int (nI ((i + 1))))]) 2 (nI ((i + 1))) dX0_countSamples_24 rfl (ja_inc _) (by decide) rfl rfl ?_
        refine ja_goto K (tgt := 4) dX0_countSamples_27 (by decide) ?_
        have e90 : jct (jM S) (i + 1) = ((jct (jM S) i) + 1) := by simp [jct, h9, h18]
        have k9 := IH4 (i + 1) (by omega) (by omega)
        rw [e90] at k9
        exact k9
  exact L4 0 (Nat.zero_le _)
set_option maxRecDepth 100000 in
set_option maxHeartbeats 4000000 in
theorem jc_hasSite (l : Launch) (D : va_G) (q : Nat → Nat) (cI cZ : ClassId) (S : JS) (u : JX) (hW9 : jWf S) (hS9 : jxR1 S u) (x : Nat) (hx : x < 60) : jkI l yX0_hasSite wsX0_hasSite ({ frames := 0, cells := 0, slots := 0, locals := 0 }) D vwCl (jxt cI cZ) (jxc q cI cZ) [.ref (q 0), .int (nI x)] (jxc q cI cZ u) (fun r u1 => jbI (jany (fun j => jP S j == x) (jK S)) = r ∧ u = u1) := by
  refine jkI_of (cc := cX0_hasSite) (maxL := 3) (ret := (some .boolean)) (by decide) rfl (Nat.le_of_ble_eq_true rfl) ?_
  intro p e R s m args below meth c Q A K hn9 hR9 hQ9
  obtain ⟨rN, rT, rM, rU, rK, rP, rA, rL, rB⟩ := id hS9
  obtain ⟨wn, wt, wu, wk, wp, wl, wb⟩ := id hW9
  have hu9 : ∀ w ∈ u_ws RX0 TX0 13, w ∈ wsX0_hasSite := fun w h => List.mem_cons_of_mem _ (ku_X0 w h)
  show jaW p l e R s m args below meth c 0 0 Q D vwCl A 3 (jxc q cI cZ u) [(0, .ref (q 0)), (1, .int (nI (x)))] 0 []
  refine ja_iconst K (nI 0) dX0_hasSite_0 (by decide) ?_
  refine ja_istore_n K (lv1 := [(0, .ref (q 0)), (1, .int (nI (x))), (2, .int (nI 0))]) dX0_hasSite_1 (by decide) rfl rfl ?_
  have L2 : ∀ (i : Nat), (i ≤ jK S ∧ jany (fun j => jP S j == x) i = false) → jaW p l e R s m args below meth c 0 0 Q D vwCl A 3 (jxc q cI cZ u) [(0, .ref (q 0)), (1, .int (nI (x))), (2, .int (nI (i)))] 2 [] := by
    refine jl_1 (fun (i : Nat) => jK S - i) (fun (i : Nat) => i ≤ jK S ∧ jany (fun j => jP S j == x) i = false) _ ?_
    intro i hI2 IH2
    refine ja_iload_n K 2 dX0_hasSite_2 rfl ?_
    refine ja_aload_n K 0 dX0_hasSite_3 rfl ?_
    refine ja_get K hu9 0 rfl rfl 4 (by decide) (List.mem_cons_of_mem _ kfX0_24) rfl (congrArg (fun z9 => some (Value.int z9)) rK) dX0_hasSite_4 ?_
    refine ja_icmp_ge K (tgt := 28) ((jK S) ≤ i) dX0_hasSite_7 (by decide) (nI_leI (by omega) (by omega)) (fun h7 => ?_) (fun h7 => ?_)
    · refine ja_iconst K (nI 0) dX0_hasSite_28 (by decide) ?_
      exact ja_zret K (u) rfl (by first | exact ja_nz1 | exact ja_nz0 | exact jbI_narrow _) (Nat.zero_le _) (Nat.zero_le _) dX0_hasSite_29 hQ9 rfl ⟨jb0 (by rw [show jK S = i by omega]; exact hI2.2), rfl⟩
    · have b9 := (wp i (by omega)).1
      refine ja_aload_n K 0 dX0_hasSite_10 rfl ?_
      refine ja_get K hu9 0 rfl rfl 5 (by decide) (List.mem_cons_of_mem _ kfX0_27) rfl rfl dX0_hasSite_11 ?_
      refine ja_iload_n K 2 dX0_hasSite_14 rfl ?_
      refine ja_iald K (v := nI ((jP S (i)))) 4 0 rfl rfl (i) rfl (by omega) (by decide) (rP _ (by omega)) dX0_hasSite_15 ?_
      refine ja_iload_n K 1 dX0_hasSite_16 rfl ?_
      refine ja_icmp_ne K (tgt := 22) (¬ (jP S (i)) = x) dX0_hasSite_17 (by decide) (not_congr (nI_eq (by omega) (by omega))) (fun h17 => ?_) (fun h17 => ?_)
      · refine ja_iinc K (lv1 := [(0, .ref (q 0)), (1, .int (nI (x))), (2, .int (nI ((i + 1))))]) 2 (nI ((i + 1))) dX0_hasSite_22 rfl (ja_inc _) (by decide) rfl rfl ?_
        refine ja_goto K (tgt := 2) dX0_hasSite_25 (by decide) ?_
        have k9 := IH2 (i + 1) ⟨by omega, by simp [jany, hI2.2, h17]⟩ (by omega)
        exact k9
      · refine ja_iconst K (nI 1) dX0_hasSite_20 (by decide) ?_
        exact ja_zret K (u) rfl (by first | exact ja_nz1 | exact ja_nz0 | exact jbI_narrow _) (Nat.zero_le _) (Nat.zero_le _) dX0_hasSite_21 hQ9 rfl ⟨jb1 (jany_iff.mpr ⟨i, by omega, by simpa using h17⟩), rfl⟩
  exact L2 0 ⟨Nat.zero_le _, rfl⟩
set_option maxRecDepth 100000 in
set_option maxHeartbeats 4000000 in
theorem jc_startsEdge (l : Launch) (D : va_G) (q : Nat → Nat) (cI cZ : ClassId) (S : JS) (u : JX) (hW9 : jWf S) (hS9 : jxR1 S u) (x c0 : Nat) (hx : x < 60) (hc : c0 < 14) : jkI l yX0_startsEdge wsX0_startsEdge ({ frames := 1, cells := 0, slots := 0, locals := 22 }) D vwCl (jxt cI cZ) (jxc q cI cZ) [.ref (q 0), .int (nI x), .int (nI c0)] (jxc q cI cZ u) (fun r u1 => jbI (jst (jU S) x c0) = r ∧ u = u1) := by
  refine jkI_of (cc := cX0_startsEdge) (maxL := 4) (ret := (some .boolean)) (by decide) rfl (Nat.le_of_ble_eq_true rfl) ?_
  intro p e R s m args below meth c Q A K hn9 hR9 hQ9
  obtain ⟨rN, rT, rM, rU, rK, rP, rA, rL, rB⟩ := id hS9
  obtain ⟨wn, wt, wu, wk, wp, wl, wb⟩ := id hW9
  have hu9 : ∀ w ∈ u_ws RX0 TX0 13, w ∈ wsX0_startsEdge := fun w h => List.mem_cons_of_mem _ (ku_X0 w h)
  show jaW p l e R s m args below meth c 0 0 Q D vwCl A 4 (jxc q cI cZ u) [(0, .ref (q 0)), (1, .int (nI (x))), (2, .int (nI (c0)))] 0 []
  refine ja_aload_n K 0 dX0_startsEdge_0 rfl ?_
  refine ja_iload_n K 1 dX0_startsEdge_1 rfl ?_
  refine ja_iload_n K 2 dX0_startsEdge_2 rfl ?_
  refine ja_callVI K (q0 := 0) (qc := (RX0, TX0, 13)) (st := []) [.int (nI (x)), .int (nI (c0))] (jc_parentAt l D q cI cZ (u) (x) (c0) (by omega) (by omega) (jU S (x) (c0)) (rU _ _ (by omega) (by omega))) (cwV 2 K.1.2.2.2.2 (gX0_X0_parentAt _) rfl rfl rfl (by decide +kernel) (by rw [hR9]; exact ⟨Nat.le_of_ble_eq_true rfl, Nat.le_of_ble_eq_true rfl⟩)) rfl rfl rfl rfl rfl (Nat.le_of_ble_eq_true rfl) dX0_startsEdge_3 (by rw [hR9]; exact ⟨Nat.le_of_ble_eq_true rfl, Nat.le_of_ble_eq_true rfl⟩) (fun r9 u9 h9 => ?_)
  obtain ⟨rfl, rfl⟩ := h9
  refine ja_istore_n K (lv1 := [(0, .ref (q 0)), (1, .int (nI (x))), (2, .int (nI (c0))), (3, .int (jeI (jU S (x) (c0))))]) dX0_startsEdge_6 (by decide) rfl rfl ?_
  refine ja_iload_n K 3 dX0_startsEdge_7 rfl ?_
  refine ja_iconst K (-1) dX0_startsEdge_8 (by decide) ?_
  refine ja_icmp_eq K (tgt := 32) (jU S (x) (c0) = none) dX0_startsEdge_9 (by decide) (jeI_m1 (o := jU S (x) (c0)) (fun p9 h9 => by have := (wu _ _ _ h9).2.1; omega)) (fun h9 => ?_) (fun h9 => ?_)
  · refine ja_iconst K (nI 0) dX0_startsEdge_32 (by decide) ?_
    exact ja_zret K (u) rfl (by first | exact ja_nz1 | exact ja_nz0 | exact jbI_narrow _) (Nat.zero_le _) (Nat.zero_le _) dX0_startsEdge_33 hQ9 rfl ⟨by first | exact jb1 (by simp only [jst]; rw [ey9]; simp [h9]; done) | exact jb0 (by simp only [jst]; rw [ey9]; simp [h9]; done) | exact jb0 (by simp [jst, h9]), rfl⟩
  · obtain ⟨y9, ey9⟩ := Option.ne_none_iff_exists'.mp h9
    try rw [ey9]
    have by9 := wu _ _ _ ey9
    refine ja_iload_n K 1 dX0_startsEdge_12 rfl ?_
    refine ja_if_eq K (tgt := 28) (x = 0) dX0_startsEdge_13 (by decide) (jz_eq (by omega)) (fun h13 => ?_) (fun h13 => ?_)
    · refine ja_iconst K (nI 1) dX0_startsEdge_28 (by decide) ?_
      refine ja_goto K (tgt := 33) dX0_startsEdge_29 (by decide) ?_
      exact ja_zret K (u) rfl (by first | exact ja_nz1 | exact ja_nz0 | exact jbI_narrow _) (Nat.zero_le _) (Nat.zero_le _) dX0_startsEdge_33 hQ9 rfl ⟨by first | exact jb1 (by simp only [jst]; rw [ey9]; simp [h9, h13]; done) | exact jb0 (by simp only [jst]; rw [ey9]; simp [h9, h13]; done) | exact jb0 (by simp [jst, h9]), rfl⟩
    · refine ja_aload_n K 0 dX0_startsEdge_16 rfl ?_
      refine ja_iload_n K 1 dX0_startsEdge_17 rfl ?_
      refine ja_iconst K (nI 1) dX0_startsEdge_18 (by decide) ?_
      refine ja_isub K (nI ((x - 1))) dX0_startsEdge_19 (pk_sub (by omega)) ?_
      refine ja_iload_n K 2 dX0_startsEdge_20 rfl ?_
      refine ja_callVI K (q0 := 0) (qc := (RX0, TX0, 13)) (st := []) [.int (nI ((x - 1))), .int (nI (c0))] (jc_parentAt l D q cI cZ (u) ((x - 1)) (c0) (by omega) (by omega) (jU S ((x - 1)) (c0)) (rU _ _ (by omega) (by omega))) (cwV 2 K.1.2.2.2.2 (gX0_X0_parentAt _) rfl rfl rfl (by decide +kernel) (by rw [hR9]; exact ⟨Nat.le_of_ble_eq_true rfl, Nat.le_of_ble_eq_true rfl⟩)) rfl rfl rfl rfl rfl (Nat.le_of_ble_eq_true rfl) dX0_startsEdge_21 (by rw [hR9]; exact ⟨Nat.le_of_ble_eq_true rfl, Nat.le_of_ble_eq_true rfl⟩) (fun r9 u9 h9 => ?_)
      obtain ⟨rfl, rfl⟩ := h9
      refine ja_iload_n K 3 dX0_startsEdge_24 rfl ?_
      refine ja_icmp_eq K (tgt := 32) (jU S ((x - 1)) (c0) = some (y9)) dX0_startsEdge_25 (by decide) (jeI_inj (o := jU S ((x - 1)) (c0)) (o' := some (y9)) (fun p9 h9 => by have := (wu _ _ _ h9).2.1; omega) (fun p9 h9 => by cases h9; omega)) (fun h25 => ?_) (fun h25 => ?_)
      · refine ja_iconst K (nI 0) dX0_startsEdge_32 (by decide) ?_
        exact ja_zret K (u) rfl (by first | exact ja_nz1 | exact ja_nz0 | exact jbI_narrow _) (Nat.zero_le _) (Nat.zero_le _) dX0_startsEdge_33 hQ9 rfl ⟨by first | exact jb1 (by simp only [jst]; rw [ey9]; simp [h9, h13, h25]; done) | exact jb0 (by simp only [jst]; rw [ey9]; simp [h9, h13, h25]; done) | exact jb0 (by simp [jst, h9]), rfl⟩
      · refine ja_iconst K (nI 1) dX0_startsEdge_28 (by decide) ?_
        refine ja_goto K (tgt := 33) dX0_startsEdge_29 (by decide) ?_
        exact ja_zret K (u) rfl (by first | exact ja_nz1 | exact ja_nz0 | exact jbI_narrow _) (Nat.zero_le _) (Nat.zero_le _) dX0_startsEdge_33 hQ9 rfl ⟨by first | exact jb1 (by simp only [jst]; rw [ey9]; simp [h9, h13, h25]; done) | exact jb0 (by simp only [jst]; rw [ey9]; simp [h9, h13, h25]; done) | exact jb0 (by simp [jst, h9]), rfl⟩
set_option maxRecDepth 100000 in
set_option maxHeartbeats 4000000 in
theorem jc_startsRun (l : Launch) (D : va_G) (q : Nat → Nat) (cI cZ : ClassId) (S : JS) (u : JX) (hW9 : jWf S) (hS9 : jxR1 S u) (x : Nat) (hx : x < 60) : jkI l yX0_startsRun wsX0_startsRun ({ frames := 1, cells := 0, slots := 0, locals := 22 }) D vwCl (jxt cI cZ) (jxc q cI cZ) [.ref (q 0), .int (nI x)] (jxc q cI cZ u) (fun r u1 => jbI (jsr S x) = r ∧ u = u1) := by
  refine jkI_of (cc := cX0_startsRun) (maxL := 3) (ret := (some .boolean)) (by decide) rfl (Nat.le_of_ble_eq_true rfl) ?_
  intro p e R s m args below meth c Q A K hn9 hR9 hQ9
  obtain ⟨rN, rT, rM, rU, rK, rP, rA, rL, rB⟩ := id hS9
  obtain ⟨wn, wt, wu, wk, wp, wl, wb⟩ := id hW9
  have hu9 : ∀ w ∈ u_ws RX0 TX0 13, w ∈ wsX0_startsRun := fun w h => List.mem_cons_of_mem _ (ku_X0 w h)
  show jaW p l e R s m args below meth c 0 0 Q D vwCl A 3 (jxc q cI cZ u) [(0, .ref (q 0)), (1, .int (nI (x)))] 0 []
  refine ja_iload_n K 1 dX0_startsRun_0 rfl ?_
  refine ja_if_ne K (tgt := 6) (¬ x = 0) dX0_startsRun_1 (by decide) (not_congr (jz_eq (by omega))) (fun h1 => ?_) (fun h1 => ?_)
  · refine ja_iconst K (nI 0) dX0_startsRun_6 (by decide) ?_
    refine ja_istore_n K (lv1 := [(0, .ref (q 0)), (1, .int (nI (x))), (2, .int (nI 0))]) dX0_startsRun_7 (by decide) rfl rfl ?_
    have L8 : ∀ (i : Nat), (i ≤ jN S ∧ jany (fun c => jU S x c != jU S (x - 1) c) i = false) → jaW p l e R s m args below meth c 0 0 Q D vwCl A 3 (jxc q cI cZ u) [(0, .ref (q 0)), (1, .int (nI (x))), (2, .int (nI (i)))] 8 [] := by
      refine jl_1 (fun (i : Nat) => jN S - i) (fun (i : Nat) => i ≤ jN S ∧ jany (fun c => jU S x c != jU S (x - 1) c) i = false) _ ?_
      intro i hI8 IH8
      refine ja_iload_n K 2 dX0_startsRun_8 rfl ?_
      refine ja_aload_n K 0 dX0_startsRun_9 rfl ?_
      refine ja_get K hu9 0 rfl rfl 0 (by decide) (List.mem_cons_of_mem _ kfX0_7) rfl (congrArg (fun z9 => some (Value.int z9)) rN) dX0_startsRun_10 ?_
      refine ja_icmp_ge K (tgt := 41) ((jN S) ≤ i) dX0_startsRun_13 (by decide) (nI_leI (by omega) (by omega)) (fun h13 => ?_) (fun h13 => ?_)
      · refine ja_iconst K (nI 0) dX0_startsRun_41 (by decide) ?_
        exact ja_zret K (u) rfl (by first | exact ja_nz1 | exact ja_nz0 | exact jbI_narrow _) (Nat.zero_le _) (Nat.zero_le _) dX0_startsRun_42 hQ9 rfl ⟨jb0 (by simp only [jsr, Bool.or_eq_false_iff]; exact ⟨by simp [h1], by rw [show jN S = i by omega]; exact hI8.2⟩), rfl⟩
      · refine ja_aload_n K 0 dX0_startsRun_16 rfl ?_
        refine ja_iload_n K 1 dX0_startsRun_17 rfl ?_
        refine ja_iload_n K 2 dX0_startsRun_18 rfl ?_
        refine ja_callVI K (q0 := 0) (qc := (RX0, TX0, 13)) (st := []) [.int (nI (x)), .int (nI (i))] (jc_parentAt l D q cI cZ (u) (x) (i) (by omega) (by omega) (jU S (x) (i)) (rU _ _ (by omega) (by omega))) (cwV 2 K.1.2.2.2.2 (gX0_X0_parentAt _) rfl rfl rfl (by decide +kernel) (by rw [hR9]; exact ⟨Nat.le_of_ble_eq_true rfl, Nat.le_of_ble_eq_true rfl⟩)) rfl rfl rfl rfl rfl (Nat.le_of_ble_eq_true rfl) dX0_startsRun_19 (by rw [hR9]; exact ⟨Nat.le_of_ble_eq_true rfl, Nat.le_of_ble_eq_true rfl⟩) (fun r9 u9 h9 => ?_)
        obtain ⟨rfl, rfl⟩ := h9
        refine ja_aload_n K 0 dX0_startsRun_22 rfl ?_
        refine ja_iload_n K 1 dX0_startsRun_23 rfl ?_
        refine ja_iconst K (nI 1) dX0_startsRun_24 (by decide) ?_
        refine ja_isub K (nI ((x - 1))) dX0_startsRun_25 (pk_sub (by omega)) ?_
        refine ja_iload_n K 2 dX0_startsRun_26 rfl ?_
        refine ja_callVI K (q0 := 0) (qc := (RX0, TX0, 13)) (st := [.int (jeI (jU S (x) (i)))]) [.int (nI ((x - 1))), .int (nI (i))] (jc_parentAt l D q cI cZ (u) ((x - 1)) (i) (by omega) (by omega) (jU S ((x - 1)) (i)) (rU _ _ (by omega) (by omega))) (cwV 2 K.1.2.2.2.2 (gX0_X0_parentAt _) rfl rfl rfl (by decide +kernel) (by rw [hR9]; exact ⟨Nat.le_of_ble_eq_true rfl, Nat.le_of_ble_eq_true rfl⟩)) rfl rfl rfl rfl rfl (Nat.le_of_ble_eq_true rfl) dX0_startsRun_27 (by rw [hR9]; exact ⟨Nat.le_of_ble_eq_true rfl, Nat.le_of_ble_eq_true rfl⟩) (fun r9 u9 h9 => ?_)
        obtain ⟨rfl, rfl⟩ := h9
        refine ja_icmp_eq K (tgt := 35) (jU S (x) (i) = jU S ((x - 1)) (i)) dX0_startsRun_30 (by decide) (jeI_inj (o := jU S (x) (i)) (o' := jU S ((x - 1)) (i)) (fun p9 h9 => by have := (wu _ _ _ h9).2.1; omega) (fun p9 h9 => by have := (wu _ _ _ h9).2.1; omega)) (fun h30 => ?_) (fun h30 => ?_)
        · refine ja_iinc K (lv1 := [(0, .ref (q 0)), (1, .int (nI (x))), (2, .int (nI ((i + 1))))]) 2 (nI ((i + 1))) dX0_startsRun_35 rfl (ja_inc _) (by decide) rfl rfl ?_
          refine ja_goto K (tgt := 8) dX0_startsRun_38 (by decide) ?_
          have k9 := IH8 (i + 1) ⟨by omega, by simp [jany, hI8.2, h30]⟩ (by omega)
          exact k9
        · refine ja_iconst K (nI 1) dX0_startsRun_33 (by decide) ?_
          exact ja_zret K (u) rfl (by first | exact ja_nz1 | exact ja_nz0 | exact jbI_narrow _) (Nat.zero_le _) (Nat.zero_le _) dX0_startsRun_34 hQ9 rfl ⟨jb1 (by simp only [jsr, Bool.or_eq_true]; exact Or.inr (jany_iff.mpr ⟨i, by omega, by simp [h30]⟩)), rfl⟩
    exact L8 0 ⟨Nat.zero_le _, rfl⟩
  · refine ja_iconst K (nI 1) dX0_startsRun_4 (by decide) ?_
    exact ja_zret K (u) rfl (by first | exact ja_nz1 | exact ja_nz0 | exact jbI_narrow _) (Nat.zero_le _) (Nat.zero_le _) dX0_startsRun_5 hQ9 rfl ⟨jb1 (by have h8 : x = 0 := (by omega); simp [jsr, h8]), rfl⟩
set_option maxRecDepth 100000 in
set_option maxHeartbeats 4000000 in
theorem jc_isAtOrAbove (l : Launch) (D : va_G) (q : Nat → Nat) (cI cZ : ClassId) (S : JS) (u : JX) (hW9 : jWf S) (hS9 : jxR1 S u) (x a b : Nat) (hx : x < 60) (ha : a < jN S) (hb : b < jN S) : jkI l yX0_isAtOrAbove wsX0_isAtOrAbove ({ frames := 1, cells := 0, slots := 0, locals := 22 }) D vwCl (jxt cI cZ) (jxc q cI cZ) [.ref (q 0), .int (nI x), .int (nI a), .int (nI b)] (jxc q cI cZ u) (fun r u1 => jbI (jhold (jU S x) a b) = r ∧ u = u1) := by
  refine jkI_of (cc := cX0_isAtOrAbove) (maxL := 6) (ret := (some .boolean)) (by decide) rfl (Nat.le_of_ble_eq_true rfl) ?_
  intro p e R s m args below meth c Q A K hn9 hR9 hQ9
  obtain ⟨rN, rT, rM, rU, rK, rP, rA, rL, rB⟩ := id hS9
  obtain ⟨wn, wt, wu, wk, wp, wl, wb⟩ := id hW9
  have hu9 : ∀ w ∈ u_ws RX0 TX0 13, w ∈ wsX0_isAtOrAbove := fun w h => List.mem_cons_of_mem _ (ku_X0 w h)
  show jaW p l e R s m args below meth c 0 0 Q D vwCl A 6 (jxc q cI cZ u) [(0, .ref (q 0)), (1, .int (nI (x))), (2, .int (nI (a))), (3, .int (nI (b)))] 0 []
  refine ja_iload_n K 3 dX0_isAtOrAbove_0 rfl ?_
  refine ja_istore K (lv1 := [(0, .ref (q 0)), (1, .int (nI (x))), (2, .int (nI (a))), (3, .int (nI (b))), (4, .int (nI (b)))]) dX0_isAtOrAbove_1 (by decide) rfl rfl ?_
  refine ja_iconst K (nI 0) dX0_isAtOrAbove_3 (by decide) ?_
  refine ja_istore K (lv1 := [(0, .ref (q 0)), (1, .int (nI (x))), (2, .int (nI (a))), (3, .int (nI (b))), (4, .int (nI (b))), (5, .int (nI 0))]) dX0_isAtOrAbove_4 (by decide) rfl rfl ?_
  have L6 : ∀ (k : Nat) (d0 : Nat) (o : Option Nat), (k + d0 = 14 ∧ (∀ y, o = some y → y < jN S) ∧ (jpF (jU S x) (fun y => y == a) d0 o).isSome = jhold (jU S x) a b) → jaW p l e R s m args below meth c 0 0 Q D vwCl A 6 (jxc q cI cZ u) [(0, .ref (q 0)), (1, .int (nI (x))), (2, .int (nI (a))), (3, .int (nI (b))), (4, .int (jeI (o))), (5, .int (nI (k)))] 6 [] := by
    refine jl_3 (fun (k : Nat) (d0 : Nat) (o : Option Nat) => d0) (fun (k : Nat) (d0 : Nat) (o : Option Nat) => k + d0 = 14 ∧ (∀ y, o = some y → y < jN S) ∧ (jpF (jU S x) (fun y => y == a) d0 o).isSome = jhold (jU S x) a b) _ ?_
    intro k d0 o hI6 IH6
    refine ja_iload K 5 dX0_isAtOrAbove_6 rfl ?_
    refine ja_bipush K (nI 14) dX0_isAtOrAbove_8 (by decide) ?_
    refine ja_icmp_ge K (tgt := 42) (14 ≤ k) dX0_isAtOrAbove_10 (by decide) (nI_leI (by omega) (by omega)) (fun h10 => ?_) (fun h10 => ?_)
    · obtain rfl : d0 = 0 := by omega
      refine ja_iconst K (nI 0) dX0_isAtOrAbove_42 (by decide) ?_
      exact ja_zret K (u) rfl (by first | exact ja_nz1 | exact ja_nz0 | exact jbI_narrow _) (Nat.zero_le _) (Nat.zero_le _) dX0_isAtOrAbove_43 hQ9 rfl ⟨jb0 (by rw [← hI6.2.2]; simp [jpF]), rfl⟩
    · obtain ⟨d, rfl⟩ : ∃ d1, d0 = d1 + 1 := ⟨d0 - 1, by omega⟩
      refine ja_iload K 4 dX0_isAtOrAbove_13 rfl ?_
      refine ja_iconst K (-1) dX0_isAtOrAbove_15 (by decide) ?_
      refine ja_icmp_eq K (tgt := 42) (o = none) dX0_isAtOrAbove_16 (by decide) (jeI_m1 (o := o) (fun p9 h9 => by have := hI6.2.1 p9 h9; omega)) (fun h16 => ?_) (fun h16 => ?_)
      · subst h16
        refine ja_iconst K (nI 0) dX0_isAtOrAbove_42 (by decide) ?_
        exact ja_zret K (u) rfl (by first | exact ja_nz1 | exact ja_nz0 | exact jbI_narrow _) (Nat.zero_le _) (Nat.zero_le _) dX0_isAtOrAbove_43 hQ9 rfl ⟨jb0 (by rw [← hI6.2.2]; simp [jpF]), rfl⟩
      · obtain ⟨y16, rfl⟩ := Option.ne_none_iff_exists'.mp h16
        have by16 := hI6.2.1 y16 rfl
        refine ja_iload K 4 dX0_isAtOrAbove_19 rfl ?_
        refine ja_iload_n K 2 dX0_isAtOrAbove_21 rfl ?_
        refine ja_icmp_ne K (tgt := 27) (¬ y16 = a) dX0_isAtOrAbove_22 (by decide) (not_congr (nI_eq (by omega) (by omega))) (fun h22 => ?_) (fun h22 => ?_)
        · refine ja_aload_n K 0 dX0_isAtOrAbove_27 rfl ?_
          refine ja_iload_n K 1 dX0_isAtOrAbove_28 rfl ?_
          refine ja_iload K 4 dX0_isAtOrAbove_29 rfl ?_
          refine ja_callVI K (q0 := 0) (qc := (RX0, TX0, 13)) (st := []) [.int (nI (x)), .int (nI (y16))] (jc_parentAt l D q cI cZ (u) (x) (y16) (by omega) (by omega) (jU S (x) (y16)) (rU _ _ (by omega) (by omega))) (cwV 2 K.1.2.2.2.2 (gX0_X0_parentAt _) rfl rfl rfl (by decide +kernel) (by rw [hR9]; exact ⟨Nat.le_of_ble_eq_true rfl, Nat.le_of_ble_eq_true rfl⟩)) rfl rfl rfl rfl rfl (Nat.le_of_ble_eq_true rfl) dX0_isAtOrAbove_31 (by rw [hR9]; exact ⟨Nat.le_of_ble_eq_true rfl, Nat.le_of_ble_eq_true rfl⟩) (fun r9 u9 h9 => ?_)
          obtain ⟨rfl, rfl⟩ := h9
          refine ja_istore K (lv1 := [(0, .ref (q 0)), (1, .int (nI (x))), (2, .int (nI (a))), (3, .int (nI (b))), (4, .int (jeI (jU S (x) (y16)))), (5, .int (nI (k)))]) dX0_isAtOrAbove_34 (by decide) rfl rfl ?_
          refine ja_iinc K (lv1 := [(0, .ref (q 0)), (1, .int (nI (x))), (2, .int (nI (a))), (3, .int (nI (b))), (4, .int (jeI (jU S (x) (y16)))), (5, .int (nI ((k + 1))))]) 5 (nI ((k + 1))) dX0_isAtOrAbove_36 rfl (ja_inc _) (by decide) rfl rfl ?_
          refine ja_goto K (tgt := 6) dX0_isAtOrAbove_39 (by decide) ?_
          have k9 := IH6 (k + 1) d (jU S x y16) ⟨by omega, fun z hz => (wu x _ z hz).2.1, by rw [← hI6.2.2]; simp [jpF, h22]⟩ (by omega)
          exact k9
        · refine ja_iconst K (nI 1) dX0_isAtOrAbove_25 (by decide) ?_
          exact ja_zret K (u) rfl (by first | exact ja_nz1 | exact ja_nz0 | exact jbI_narrow _) (Nat.zero_le _) (Nat.zero_le _) dX0_isAtOrAbove_26 hQ9 rfl ⟨jb1 (by rw [← hI6.2.2]; simp at h22; simp [jpF, h22]), rfl⟩
  exact L6 0 14 (some b) ⟨rfl, fun y h => by cases h; exact hb, rfl⟩
set_option maxRecDepth 100000 in
set_option maxHeartbeats 4000000 in
theorem jc_letterAt (l : Launch) (D : va_G) (q : Nat → Nat) (cI cZ : ClassId) (S : JS) (u : JX) (hW9 : jWf S) (hS9 : jxR1 S u) (i b : Nat) (hi : i < jK S) (hb : b < jN S) : jkI l yX0_letterAt wsX0_letterAt ({ frames := 1, cells := 0, slots := 0, locals := 22 }) D vwCl (jxt cI cZ) (jxc q cI cZ) [.ref (q 0), .int (nI i), .int (nI b)] (jxc q cI cZ u) (fun r u1 => nI (jlet (jU S (jP S i)) (jL S i) (jA S i) b) = r ∧ u = u1) := by
  refine jkI_of (cc := cX0_letterAt) (maxL := 6) (ret := (some .int)) (by decide) rfl (Nat.le_of_ble_eq_true rfl) ?_
  intro p e R s m args below meth c Q A K hn9 hR9 hQ9
  obtain ⟨rN, rT, rM, rU, rK, rP, rA, rL, rB⟩ := id hS9
  obtain ⟨wn, wt, wu, wk, wp, wl, wb⟩ := id hW9
  have hu9 : ∀ w ∈ u_ws RX0 TX0 13, w ∈ wsX0_letterAt := fun w h => List.mem_cons_of_mem _ (ku_X0 w h)
  have bp := (wp i hi).1
  show jaW p l e R s m args below meth c 0 0 Q D vwCl A 6 (jxc q cI cZ u) [(0, .ref (q 0)), (1, .int (nI (i))), (2, .int (nI (b)))] 0 []
  refine ja_iload_n K 2 dX0_letterAt_0 rfl ?_
  refine ja_istore_n K (lv1 := [(0, .ref (q 0)), (1, .int (nI (i))), (2, .int (nI (b))), (3, .int (nI (b)))]) dX0_letterAt_1 (by decide) rfl rfl ?_
  refine ja_iconst K (nI 0) dX0_letterAt_2 (by decide) ?_
  refine ja_istore K (lv1 := [(0, .ref (q 0)), (1, .int (nI (i))), (2, .int (nI (b))), (3, .int (nI (b))), (4, .int (nI 0))]) dX0_letterAt_3 (by decide) rfl rfl ?_
  have L5 : ∀ (k : Nat) (d0 : Nat) (o : Option Nat), (k + d0 = 14 ∧ (∀ y, o = some y → y < jN S) ∧ jpF (jU S (jP S i)) (fun y => (jL S i y).isSome) d0 o = jpF (jU S (jP S i)) (fun y => (jL S i y).isSome) 14 (some b)) → jaW p l e R s m args below meth c 0 0 Q D vwCl A 6 (jxc q cI cZ u) [(0, .ref (q 0)), (1, .int (nI (i))), (2, .int (nI (b))), (3, .int (jeI (o))), (4, .int (nI (k)))] 5 [] := by
    refine jl_3 (fun (k : Nat) (d0 : Nat) (o : Option Nat) => d0) (fun (k : Nat) (d0 : Nat) (o : Option Nat) => k + d0 = 14 ∧ (∀ y, o = some y → y < jN S) ∧ jpF (jU S (jP S i)) (fun y => (jL S i y).isSome) d0 o = jpF (jU S (jP S i)) (fun y => (jL S i y).isSome) 14 (some b)) _ ?_
    intro k d0 o hI5 IH5
    refine ja_iload K 4 dX0_letterAt_5 rfl ?_
    refine ja_bipush K (nI 14) dX0_letterAt_7 (by decide) ?_
    refine ja_icmp_ge K (tgt := 57) (14 ≤ k) dX0_letterAt_9 (by decide) (nI_leI (by omega) (by omega)) (fun h9 => ?_) (fun h9 => ?_)
    · obtain rfl : d0 = 0 := by omega
      refine ja_aload_n K 0 dX0_letterAt_57 rfl ?_
      refine ja_get K hu9 0 rfl rfl 6 (by decide) (List.mem_cons_of_mem _ kfX0_30) rfl rfl dX0_letterAt_58 ?_
      refine ja_iload_n K 1 dX0_letterAt_61 rfl ?_
      refine ja_iald K (v := nI ((jA S (i)))) 5 0 rfl rfl (i) rfl (by omega) (by decide) (rA _ (by omega)) dX0_letterAt_62 ?_
      exact ja_iret K (u) rfl (Nat.zero_le _) (Nat.zero_le _) dX0_letterAt_63 hQ9 rfl ⟨by rw [jlet, ← hI5.2.2]; simp [jpF], rfl⟩
    · obtain ⟨d, rfl⟩ : ∃ d1, d0 = d1 + 1 := ⟨d0 - 1, by omega⟩
      refine ja_iload_n K 3 dX0_letterAt_12 rfl ?_
      refine ja_iconst K (-1) dX0_letterAt_13 (by decide) ?_
      refine ja_icmp_eq K (tgt := 57) (o = none) dX0_letterAt_14 (by decide) (jeI_m1 (o := o) (fun p9 h9 => by have := hI5.2.1 p9 h9; omega)) (fun h14 => ?_) (fun h14 => ?_)
      · subst h14
        refine ja_aload_n K 0 dX0_letterAt_57 rfl ?_
        refine ja_get K hu9 0 rfl rfl 6 (by decide) (List.mem_cons_of_mem _ kfX0_30) rfl rfl dX0_letterAt_58 ?_
        refine ja_iload_n K 1 dX0_letterAt_61 rfl ?_
        refine ja_iald K (v := nI ((jA S (i)))) 5 0 rfl rfl (i) rfl (by omega) (by decide) (rA _ (by omega)) dX0_letterAt_62 ?_
        exact ja_iret K (u) rfl (Nat.zero_le _) (Nat.zero_le _) dX0_letterAt_63 hQ9 rfl ⟨by rw [jlet, ← hI5.2.2]; simp [jpF], rfl⟩
      · obtain ⟨y14, rfl⟩ := Option.ne_none_iff_exists'.mp h14
        have by14 := hI5.2.1 y14 rfl
        refine ja_aload_n K 0 dX0_letterAt_17 rfl ?_
        refine ja_get K hu9 0 rfl rfl 7 (by decide) (List.mem_cons_of_mem _ kfX0_33) rfl rfl dX0_letterAt_18 ?_
        refine ja_iload_n K 1 dX0_letterAt_21 rfl ?_
        refine ja_bipush K (nI 14) dX0_letterAt_22 (by decide) ?_
        refine ja_imul K (nI ((i * 14))) dX0_letterAt_24 (pk_mul _ _) ?_
        refine ja_iload_n K 3 dX0_letterAt_25 rfl ?_
        refine ja_iadd K (nI (((i * 14) + y14))) dX0_letterAt_26 (nI_add _ _) ?_
        refine ja_iald K (v := jeI (jL S (i) (y14))) 6 0 rfl rfl (((i * 14) + y14)) rfl (by omega) (by decide) (rL _ _ (by omega) (by omega)) dX0_letterAt_27 ?_
        refine ja_istore K (lv1 := [(0, .ref (q 0)), (1, .int (nI (i))), (2, .int (nI (b))), (3, .int (nI (y14))), (4, .int (nI (k))), (5, .int (jeI (jL S (i) (y14))))]) dX0_letterAt_28 (by decide) rfl rfl ?_
        refine ja_iload K 5 dX0_letterAt_30 rfl ?_
        refine ja_iconst K (-1) dX0_letterAt_32 (by decide) ?_
        refine ja_icmp_eq K (tgt := 39) (jL S (i) (y14) = none) dX0_letterAt_33 (by decide) (jeI_m1 (o := jL S (i) (y14)) (fun p9 h9 => by have := (wl _ _ _ h9).2.2; omega)) (fun h33 => ?_) (fun h33 => ?_)
        · refine ja_aload_n K 0 dX0_letterAt_39 rfl ?_
          refine ja_aload_n K 0 dX0_letterAt_40 rfl ?_
          refine ja_get K hu9 0 rfl rfl 5 (by decide) (List.mem_cons_of_mem _ kfX0_27) rfl rfl dX0_letterAt_41 ?_
          refine ja_iload_n K 1 dX0_letterAt_44 rfl ?_
          refine ja_iald K (v := nI ((jP S (i)))) 4 0 rfl rfl (i) rfl (by omega) (by decide) (rP _ (by omega)) dX0_letterAt_45 ?_
          refine ja_iload_n K 3 dX0_letterAt_46 rfl ?_
          refine ja_callVI K (q0 := 0) (qc := (RX0, TX0, 13)) (st := []) [.int (nI ((jP S (i)))), .int (nI (y14))] (jc_parentAt l D q cI cZ (u) ((jP S (i))) (y14) (by omega) (by omega) (jU S ((jP S (i))) (y14)) (rU _ _ (by omega) (by omega))) (cwV 2 K.1.2.2.2.2 (gX0_X0_parentAt _) rfl rfl rfl (by decide +kernel) (by rw [hR9]; exact ⟨Nat.le_of_ble_eq_true rfl, Nat.le_of_ble_eq_true rfl⟩)) rfl rfl rfl rfl rfl (Nat.le_of_ble_eq_true rfl) dX0_letterAt_47 (by rw [hR9]; exact ⟨Nat.le_of_ble_eq_true rfl, Nat.le_of_ble_eq_true rfl⟩) (fun r9 u9 h9 => ?_)
          obtain ⟨rfl, rfl⟩ := h9
          refine ja_istore_n K (lv1 := [(0, .ref (q 0)), (1, .int (nI (i))), (2, .int (nI (b))), (3, .int (jeI (jU S ((jP S (i))) (y14)))), (4, .int (nI (k))), (5, .int (jeI (jL S (i) (y14))))]) dX0_letterAt_50 (by decide) rfl rfl ?_
          refine ja_iinc K (lv1 := [(0, .ref (q 0)), (1, .int (nI (i))), (2, .int (nI (b))), (3, .int (jeI (jU S ((jP S (i))) (y14)))), (4, .int (nI ((k + 1)))), (5, .int (jeI (jL S (i) (y14))))]) 4 (nI ((k + 1))) dX0_letterAt_51 rfl (ja_inc _) (by decide) rfl rfl ?_
          refine ja_goto K (tgt := 5) dX0_letterAt_54 (by decide) ?_
          refine ja_locals (lv1 := [(0, .ref (q 0)), (1, .int (nI (i))), (2, .int (nI (b))), (3, .int (jeI (jU S ((jP S (i))) (y14)))), (4, .int (nI ((k + 1))))]) [0, 1, 2, 3, 4] rfl ?_
          have k9 := IH5 (k + 1) d (jU S (jP S i) y14) ⟨by omega, fun z hz => (wu _ _ z hz).2.1, by rw [← hI5.2.2]; simp [jpF, h33]⟩ (by omega)
          exact k9
        · obtain ⟨y33, ey33⟩ := Option.ne_none_iff_exists'.mp h33
          try rw [ey33]
          have by33 := wl _ _ _ ey33
          refine ja_iload K 5 dX0_letterAt_36 rfl ?_
          exact ja_iret K (u) rfl (Nat.zero_le _) (Nat.zero_le _) dX0_letterAt_38 hQ9 rfl ⟨by rw [jlet, ← hI5.2.2]; simp [jpF, ey33, jeI], rfl⟩
  exact L5 0 14 (some b) ⟨rfl, fun y h => by cases h; exact hb, rfl⟩
set_option maxRecDepth 100000 in
set_option maxHeartbeats 4000000 in
theorem jc_countMutations (l : Launch) (D : va_G) (q : Nat → Nat) (cI cZ : ClassId) (S : JS) (u : JX) (hW9 : jWf S) (hS9 : jxR1 S u)  : jkI l yX0_countMutations wsX0_countMutations ({ frames := 0, cells := 0, slots := 0, locals := 0 }) D vwCl (jxt cI cZ) (jxc q cI cZ) [.ref (q 0)] (jxc q cI cZ u) (fun r u1 => nI (jcm S) = r ∧ u = u1) := by
  refine jkI_of (cc := cX0_countMutations) (maxL := 3) (ret := (some .int)) (by decide) rfl (Nat.le_of_ble_eq_true rfl) ?_
  intro p e R s m args below meth c Q A K hn9 hR9 hQ9
  obtain ⟨rN, rT, rM, rU, rK, rP, rA, rL, rB⟩ := id hS9
  obtain ⟨wn, wt, wu, wk, wp, wl, wb⟩ := id hW9
  have hu9 : ∀ w ∈ u_ws RX0 TX0 13, w ∈ wsX0_countMutations := fun w h => List.mem_cons_of_mem _ (ku_X0 w h)
  show jaW p l e R s m args below meth c 0 0 Q D vwCl A 3 (jxc q cI cZ u) [(0, .ref (q 0))] 0 []
  refine ja_iconst K (nI 0) dX0_countMutations_0 (by decide) ?_
  refine ja_istore_n K (lv1 := [(0, .ref (q 0)), (1, .int (nI 0))]) dX0_countMutations_1 (by decide) rfl rfl ?_
  refine ja_iconst K (nI 0) dX0_countMutations_2 (by decide) ?_
  refine ja_istore_n K (lv1 := [(0, .ref (q 0)), (1, .int (nI 0)), (2, .int (nI 0))]) dX0_countMutations_3 (by decide) rfl rfl ?_
  have L4 : ∀ (i : Nat), (i ≤ 112) → jaW p l e R s m args below meth c 0 0 Q D vwCl A 3 (jxc q cI cZ u) [(0, .ref (q 0)), (1, .int (nI ((jct (fun j => (jL S (j / 14) (j % 14)).isSome) i)))), (2, .int (nI (i)))] 4 [] := by
    refine jl_1 (fun (i : Nat) => 112 - i) (fun (i : Nat) => i ≤ 112) _ ?_
    intro i hI4 IH4
    refine ja_iload_n K 2 dX0_countMutations_4 rfl ?_
    refine ja_aload_n K 0 dX0_countMutations_5 rfl ?_
    refine ja_get K hu9 0 rfl rfl 7 (by decide) (List.mem_cons_of_mem _ kfX0_33) rfl rfl dX0_countMutations_6 ?_
    refine ja_alen K 6 0 rfl rfl dX0_countMutations_9 ?_
    refine ja_icmp_ge K (tgt := 32) (112 ≤ i) dX0_countMutations_10 (by decide) (nI_leI (by omega) (by omega)) (fun h10 => ?_) (fun h10 => ?_)
    · refine ja_iload_n K 1 dX0_countMutations_32 rfl ?_
      exact ja_iret K (u) rfl (Nat.zero_le _) (Nat.zero_le _) dX0_countMutations_33 hQ9 rfl ⟨by rw [← jcm_eq hW9, show i = 112 by omega], rfl⟩
    · refine ja_aload_n K 0 dX0_countMutations_13 rfl ?_
      refine ja_get K hu9 0 rfl rfl 7 (by decide) (List.mem_cons_of_mem _ kfX0_33) rfl rfl dX0_countMutations_14 ?_
      refine ja_iload_n K 2 dX0_countMutations_17 rfl ?_
      refine ja_iald K (v := jeI (jL S (i / 14) (i % 14))) 6 0 rfl rfl (i) rfl (by omega) (by decide) (by have h9 := rL (i / 14) (i % 14) (by omega) (by omega); rwa [show i / 14 * 14 + i % 14 = i by omega] at h9) dX0_countMutations_18 ?_
      refine ja_iconst K (-1) dX0_countMutations_19 (by decide) ?_
      refine ja_icmp_eq K (tgt := 26) (jL S (i / 14) (i % 14) = none) dX0_countMutations_20 (by decide) (jeI_m1 (o := jL S (i / 14) (i % 14)) (fun p9 h9 => by have := (wl _ _ _ h9).2.2; omega)) (fun h20 => ?_) (fun h20 => ?_)
      · refine ja_iinc K (lv1 := [(0, .ref (q 0)), (1, .int (nI ((jct (fun j => (jL S (j / 14) (j % 14)).isSome) i)))), (2, .int (nI ((i + 1))))]) 2 (nI ((i + 1))) dX0_countMutations_26 rfl (ja_inc _) (by decide) rfl rfl ?_
        refine ja_goto K (tgt := 4) dX0_countMutations_29 (by decide) ?_
        have e90 : jct (fun j => (jL S (j / 14) (j % 14)).isSome) (i + 1) = (jct (fun j => (jL S (j / 14) (j % 14)).isSome) i) := by simp [jct, h10, h20]
        have k9 := IH4 (i + 1) (by omega) (by omega)
        rw [e90] at k9
        exact k9
      · obtain ⟨y20, ey20⟩ := Option.ne_none_iff_exists'.mp h20
        try rw [ey20]
        have by20 := wl _ _ _ ey20
        refine ja_iinc K (lv1 := [(0, .ref (q 0)), (1, .int (nI (((jct (fun j => (jL S (j / 14) (j % 14)).isSome) i) + 1)))), (2, .int (nI (i)))]) 1 (nI (((jct (fun j => (jL S (j / 14) (j % 14)).isSome) i) + 1))) dX0_countMutations_23 rfl (ja_inc _) (by decide) rfl rfl ?_
        refine ja_iinc K (lv1 := [(0, .ref (q 0)), (1, .int (nI (((jct (fun j => (jL S (j / 14) (j % 14)).isSome) i) + 1)))), (2, .int (nI ((i + 1))))]) 2 (nI ((i + 1))) dX0_countMutations_26 rfl (ja_inc _) (by decide) rfl rfl ?_
        refine ja_goto K (tgt := 4) dX0_countMutations_29 (by decide) ?_
        have e90 : jct (fun j => (jL S (j / 14) (j % 14)).isSome) (i + 1) = ((jct (fun j => (jL S (j / 14) (j % 14)).isSome) i) + 1) := by simp [jct, h10, h20, ey20]
        have k9 := IH4 (i + 1) (by omega) (by omega)
        rw [e90] at k9
        exact k9
  exact L4 0 (Nat.zero_le _)
set_option maxRecDepth 100000 in
set_option maxHeartbeats 4000000 in
theorem jc_countEdges (l : Launch) (D : va_G) (q : Nat → Nat) (cI cZ : ClassId) (S : JS) (u : JX) (hW9 : jWf S) (hS9 : jxR1 S u)  : jkI l yX0_countEdges wsX0_countEdges ({ frames := 2, cells := 0, slots := 0, locals := 45 }) D vwCl (jxt cI cZ) (jxc q cI cZ) [.ref (q 0)] (jxc q cI cZ u) (fun r u1 => nI (jsm (fun x => jct (fun c => jst (jU S) x c) (jN S)) 60) = r ∧ u = u1) := by
  refine jkI_of (cc := cX0_countEdges) (maxL := 4) (ret := (some .int)) (by decide) rfl (Nat.le_of_ble_eq_true rfl) ?_
  intro p e R s m args below meth c Q A K hn9 hR9 hQ9
  obtain ⟨rN, rT, rM, rU, rK, rP, rA, rL, rB⟩ := id hS9
  obtain ⟨wn, wt, wu, wk, wp, wl, wb⟩ := id hW9
  have hu9 : ∀ w ∈ u_ws RX0 TX0 13, w ∈ wsX0_countEdges := fun w h => List.mem_cons_of_mem _ (ku_X0 w h)
  show jaW p l e R s m args below meth c 0 0 Q D vwCl A 4 (jxc q cI cZ u) [(0, .ref (q 0))] 0 []
  refine ja_iconst K (nI 0) dX0_countEdges_0 (by decide) ?_
  refine ja_istore_n K (lv1 := [(0, .ref (q 0)), (1, .int (nI 0))]) dX0_countEdges_1 (by decide) rfl rfl ?_
  refine ja_iconst K (nI 0) dX0_countEdges_2 (by decide) ?_
  refine ja_istore_n K (lv1 := [(0, .ref (q 0)), (1, .int (nI 0)), (2, .int (nI 0))]) dX0_countEdges_3 (by decide) rfl rfl ?_
  have L4 : ∀ (x : Nat), (x ≤ 60) → jaW p l e R s m args below meth c 0 0 Q D vwCl A 4 (jxc q cI cZ u) [(0, .ref (q 0)), (1, .int (nI ((jsm (fun x => jct (fun c => jst (jU S) x c) (jN S)) x)))), (2, .int (nI (x)))] 4 [] := by
    refine jl_1 (fun (x : Nat) => 60 - x) (fun (x : Nat) => x ≤ 60) _ ?_
    intro x hI4 IH4
    refine ja_iload_n K 2 dX0_countEdges_4 rfl ?_
    refine ja_bipush K (nI 60) dX0_countEdges_5 (by decide) ?_
    refine ja_icmp_ge K (tgt := 44) (60 ≤ x) dX0_countEdges_7 (by decide) (nI_leI (by omega) (by omega)) (fun h7 => ?_) (fun h7 => ?_)
    · refine ja_iload_n K 1 dX0_countEdges_44 rfl ?_
      exact ja_iret K (u) rfl (Nat.zero_le _) (Nat.zero_le _) dX0_countEdges_45 hQ9 rfl ⟨by rw [show x = 60 by omega], rfl⟩
    · refine ja_iconst K (nI 0) dX0_countEdges_10 (by decide) ?_
      refine ja_istore_n K (lv1 := [(0, .ref (q 0)), (1, .int (nI ((jsm (fun x => jct (fun c => jst (jU S) x c) (jN S)) x)))), (2, .int (nI (x))), (3, .int (nI 0))]) dX0_countEdges_11 (by decide) rfl rfl ?_
      have L12 : ∀ (i : Nat), (i ≤ jN S) → jaW p l e R s m args below meth c 0 0 Q D vwCl A 4 (jxc q cI cZ u) [(0, .ref (q 0)), (1, .int (nI (((jsm (fun x => jct (fun c => jst (jU S) x c) (jN S)) x) + jct (fun c => jst (jU S) x c) i)))), (2, .int (nI (x))), (3, .int (nI (i)))] 12 [] := by
        refine jl_1 (fun (i : Nat) => jN S - i) (fun (i : Nat) => i ≤ jN S) _ ?_
        intro i hI12 IH12
        refine ja_iload_n K 3 dX0_countEdges_12 rfl ?_
        refine ja_aload_n K 0 dX0_countEdges_13 rfl ?_
        refine ja_get K hu9 0 rfl rfl 0 (by decide) (List.mem_cons_of_mem _ kfX0_7) rfl (congrArg (fun z9 => some (Value.int z9)) rN) dX0_countEdges_14 ?_
        refine ja_icmp_ge K (tgt := 38) ((jN S) ≤ i) dX0_countEdges_17 (by decide) (nI_leI (by omega) (by omega)) (fun h17 => ?_) (fun h17 => ?_)
        · refine ja_iinc K (lv1 := [(0, .ref (q 0)), (1, .int (nI (((jsm (fun x => jct (fun c => jst (jU S) x c) (jN S)) x) + jct (fun c => jst (jU S) x c) i)))), (2, .int (nI ((x + 1)))), (3, .int (nI (i)))]) 2 (nI ((x + 1))) dX0_countEdges_38 rfl (ja_inc _) (by decide) rfl rfl ?_
          refine ja_goto K (tgt := 4) dX0_countEdges_41 (by decide) ?_
          refine ja_locals (lv1 := [(0, .ref (q 0)), (1, .int (nI (((jsm (fun x => jct (fun c => jst (jU S) x c) (jN S)) x) + jct (fun c => jst (jU S) x c) i)))), (2, .int (nI ((x + 1))))]) [0, 1, 2] rfl ?_
          have e90 : (jsm (fun x => jct (fun c => jst (jU S) x c) (jN S)) (x + 1)) = ((jsm (fun x => jct (fun c => jst (jU S) x c) (jN S)) x) + jct (fun c => jst (jU S) x c) i) := by rw [show i = jN S by omega]; rfl
          have k9 := IH4 (x + 1) (by omega) (by omega)
          rw [e90] at k9
          exact k9
        · refine ja_aload_n K 0 dX0_countEdges_20 rfl ?_
          refine ja_iload_n K 2 dX0_countEdges_21 rfl ?_
          refine ja_iload_n K 3 dX0_countEdges_22 rfl ?_
          refine ja_callVI K (q0 := 0) (qc := (RX0, TX0, 13)) (st := []) [.int (nI (x)), .int (nI (i))] (jc_startsEdge l D q cI cZ S (u) hW9 hS9 (x) (i) (by omega) (by omega)) (cwV 2 K.1.2.2.2.2 (gX0_X0_startsEdge _) rfl rfl rfl (by decide +kernel) (by rw [hR9]; exact ⟨Nat.le_of_ble_eq_true rfl, Nat.le_of_ble_eq_true rfl⟩)) rfl rfl rfl rfl rfl (Nat.le_of_ble_eq_true rfl) dX0_countEdges_23 (by rw [hR9]; exact ⟨Nat.le_of_ble_eq_true rfl, Nat.le_of_ble_eq_true rfl⟩) (fun r9 u9 h9 => ?_)
          obtain ⟨rfl, rfl⟩ := h9
          refine ja_if_eq K (tgt := 32) (jst (jU S) (x) (i) = false) dX0_countEdges_26 (by decide) (jbI_ne _) (fun h26 => ?_) (fun h26 => ?_)
          · refine ja_iinc K (lv1 := [(0, .ref (q 0)), (1, .int (nI (((jsm (fun x => jct (fun c => jst (jU S) x c) (jN S)) x) + jct (fun c => jst (jU S) x c) i)))), (2, .int (nI (x))), (3, .int (nI ((i + 1))))]) 3 (nI ((i + 1))) dX0_countEdges_32 rfl (ja_inc _) (by decide) rfl rfl ?_
            refine ja_goto K (tgt := 12) dX0_countEdges_35 (by decide) ?_
            have e90 : (jsm (fun x => jct (fun c => jst (jU S) x c) (jN S)) x) + jct (fun c => jst (jU S) x c) (i + 1) = ((jsm (fun x => jct (fun c => jst (jU S) x c) (jN S)) x) + jct (fun c => jst (jU S) x c) i) := by simp [jct, h7, h17, h26]; try omega
            have k9 := IH12 (i + 1) (by omega) (by omega)
            rw [e90] at k9
            exact k9
          · refine ja_iinc K (lv1 := [(0, .ref (q 0)), (1, .int (nI ((((jsm (fun x => jct (fun c => jst (jU S) x c) (jN S)) x) + jct (fun c => jst (jU S) x c) i) + 1)))), (2, .int (nI (x))), (3, .int (nI (i)))]) 1 (nI ((((jsm (fun x => jct (fun c => jst (jU S) x c) (jN S)) x) + jct (fun c => jst (jU S) x c) i) + 1))) dX0_countEdges_29 rfl (ja_inc _) (by decide) rfl rfl ?_
            refine ja_iinc K (lv1 := [(0, .ref (q 0)), (1, .int (nI ((((jsm (fun x => jct (fun c => jst (jU S) x c) (jN S)) x) + jct (fun c => jst (jU S) x c) i) + 1)))), (2, .int (nI (x))), (3, .int (nI ((i + 1))))]) 3 (nI ((i + 1))) dX0_countEdges_32 rfl (ja_inc _) (by decide) rfl rfl ?_
            refine ja_goto K (tgt := 12) dX0_countEdges_35 (by decide) ?_
            have e90 : (jsm (fun x => jct (fun c => jst (jU S) x c) (jN S)) x) + jct (fun c => jst (jU S) x c) (i + 1) = (((jsm (fun x => jct (fun c => jst (jU S) x c) (jN S)) x) + jct (fun c => jst (jU S) x c) i) + 1) := by simp [jct, h7, h17, h26]; try omega
            have k9 := IH12 (i + 1) (by omega) (by omega)
            rw [e90] at k9
            exact k9
      exact L12 0 (Nat.zero_le _)
  exact L4 0 (Nat.zero_le _)
set_option maxRecDepth 100000 in
set_option maxHeartbeats 4000000 in
theorem jc_edgeEnd (l : Launch) (D : va_G) (q : Nat → Nat) (cI cZ : ClassId) (S : JS) (u : JX) (hW9 : jWf S) (hS9 : jxR1 S u) (x c0 : Nat) (hx : x < 60) (hc : c0 < 14) : jkI l yX0_edgeEnd wsX0_edgeEnd ({ frames := 1, cells := 0, slots := 0, locals := 22 }) D vwCl (jxt cI cZ) (jxc q cI cZ) [.ref (q 0), .int (nI x), .int (nI c0)] (jxc q cI cZ u) (fun r u1 => nI (jend S x c0) = r ∧ u = u1) := by
  refine jkI_of (cc := cX0_edgeEnd) (maxL := 4) (ret := (some .int)) (by decide) rfl (Nat.le_of_ble_eq_true rfl) ?_
  intro p e R s m args below meth c Q A K hn9 hR9 hQ9
  obtain ⟨rN, rT, rM, rU, rK, rP, rA, rL, rB⟩ := id hS9
  obtain ⟨wn, wt, wu, wk, wp, wl, wb⟩ := id hW9
  have hu9 : ∀ w ∈ u_ws RX0 TX0 13, w ∈ wsX0_edgeEnd := fun w h => List.mem_cons_of_mem _ (ku_X0 w h)
  show jaW p l e R s m args below meth c 0 0 Q D vwCl A 4 (jxc q cI cZ u) [(0, .ref (q 0)), (1, .int (nI (x))), (2, .int (nI (c0)))] 0 []
  refine ja_iload_n K 1 dX0_edgeEnd_0 rfl ?_
  refine ja_iconst K (nI 1) dX0_edgeEnd_1 (by decide) ?_
  refine ja_iadd K (nI ((x + 1))) dX0_edgeEnd_2 (nI_add _ _) ?_
  refine ja_istore_n K (lv1 := [(0, .ref (q 0)), (1, .int (nI (x))), (2, .int (nI (c0))), (3, .int (nI ((x + 1))))]) dX0_edgeEnd_3 (by decide) rfl rfl ?_
  have L4 : ∀ (e0 : Nat), ((x < e0 ∧ e0 ≤ 60) ∧ jene (fun e => jU S e c0 == jU S x c0) (60 - e0) e0 = jend S x c0) → jaW p l e R s m args below meth c 0 0 Q D vwCl A 4 (jxc q cI cZ u) [(0, .ref (q 0)), (1, .int (nI (x))), (2, .int (nI (c0))), (3, .int (nI (e0)))] 4 [] := by
    refine jl_1 (fun (e0 : Nat) => 60 - e0) (fun (e0 : Nat) => (x < e0 ∧ e0 ≤ 60) ∧ jene (fun e => jU S e c0 == jU S x c0) (60 - e0) e0 = jend S x c0) _ ?_
    intro e0 hI4 IH4
    refine ja_iload_n K 3 dX0_edgeEnd_4 rfl ?_
    refine ja_bipush K (nI 60) dX0_edgeEnd_5 (by decide) ?_
    refine ja_icmp_ge K (tgt := 31) (60 ≤ e0) dX0_edgeEnd_7 (by decide) (nI_leI (by omega) (by omega)) (fun h7 => ?_) (fun h7 => ?_)
    · refine ja_iload_n K 3 dX0_edgeEnd_31 rfl ?_
      exact ja_iret K (u) rfl (Nat.zero_le _) (Nat.zero_le _) dX0_edgeEnd_32 hQ9 rfl ⟨by rw [← hI4.2]; first | rw [show 60 - e0 = 0 by omega]; rfl | rw [show 60 - e0 = (59 - e0) + 1 by omega]; simp [jene, h22], rfl⟩
    · refine ja_aload_n K 0 dX0_edgeEnd_10 rfl ?_
      refine ja_iload_n K 3 dX0_edgeEnd_11 rfl ?_
      refine ja_iload_n K 2 dX0_edgeEnd_12 rfl ?_
      refine ja_callVI K (q0 := 0) (qc := (RX0, TX0, 13)) (st := []) [.int (nI (e0)), .int (nI (c0))] (jc_parentAt l D q cI cZ (u) (e0) (c0) (by omega) (by omega) (jU S (e0) (c0)) (rU _ _ (by omega) (by omega))) (cwV 2 K.1.2.2.2.2 (gX0_X0_parentAt _) rfl rfl rfl (by decide +kernel) (by rw [hR9]; exact ⟨Nat.le_of_ble_eq_true rfl, Nat.le_of_ble_eq_true rfl⟩)) rfl rfl rfl rfl rfl (Nat.le_of_ble_eq_true rfl) dX0_edgeEnd_13 (by rw [hR9]; exact ⟨Nat.le_of_ble_eq_true rfl, Nat.le_of_ble_eq_true rfl⟩) (fun r9 u9 h9 => ?_)
      obtain ⟨rfl, rfl⟩ := h9
      refine ja_aload_n K 0 dX0_edgeEnd_16 rfl ?_
      refine ja_iload_n K 1 dX0_edgeEnd_17 rfl ?_
      refine ja_iload_n K 2 dX0_edgeEnd_18 rfl ?_
      refine ja_callVI K (q0 := 0) (qc := (RX0, TX0, 13)) (st := [.int (jeI (jU S (e0) (c0)))]) [.int (nI (x)), .int (nI (c0))] (jc_parentAt l D q cI cZ (u) (x) (c0) (by omega) (by omega) (jU S (x) (c0)) (rU _ _ (by omega) (by omega))) (cwV 2 K.1.2.2.2.2 (gX0_X0_parentAt _) rfl rfl rfl (by decide +kernel) (by rw [hR9]; exact ⟨Nat.le_of_ble_eq_true rfl, Nat.le_of_ble_eq_true rfl⟩)) rfl rfl rfl rfl rfl (Nat.le_of_ble_eq_true rfl) dX0_edgeEnd_19 (by rw [hR9]; exact ⟨Nat.le_of_ble_eq_true rfl, Nat.le_of_ble_eq_true rfl⟩) (fun r9 u9 h9 => ?_)
      obtain ⟨rfl, rfl⟩ := h9
      refine ja_icmp_ne K (tgt := 31) (¬ jU S (e0) (c0) = jU S (x) (c0)) dX0_edgeEnd_22 (by decide) (not_congr (jeI_inj (o := jU S (e0) (c0)) (o' := jU S (x) (c0)) (fun p9 h9 => by have := (wu _ _ _ h9).2.1; omega) (fun p9 h9 => by have := (wu _ _ _ h9).2.1; omega))) (fun h22 => ?_) (fun h22 => ?_)
      · refine ja_iload_n K 3 dX0_edgeEnd_31 rfl ?_
        exact ja_iret K (u) rfl (Nat.zero_le _) (Nat.zero_le _) dX0_edgeEnd_32 hQ9 rfl ⟨by rw [← hI4.2]; first | rw [show 60 - e0 = 0 by omega]; rfl | rw [show 60 - e0 = (59 - e0) + 1 by omega]; simp [jene, h22], rfl⟩
      · refine ja_iinc K (lv1 := [(0, .ref (q 0)), (1, .int (nI (x))), (2, .int (nI (c0))), (3, .int (nI ((e0 + 1))))]) 3 (nI ((e0 + 1))) dX0_edgeEnd_25 rfl (ja_inc _) (by decide) rfl rfl ?_
        refine ja_goto K (tgt := 4) dX0_edgeEnd_28 (by decide) ?_
        have k9 := IH4 (e0 + 1) ⟨by omega, by rw [← hI4.2, show 60 - e0 = (60 - (e0 + 1)) + 1 by omega]; simp at h22; simp [jene, h22]⟩ (by omega)
        exact k9
  exact L4 (x + 1) ⟨by omega, rfl⟩
set_option maxRecDepth 100000 in
set_option maxHeartbeats 4000000 in
theorem jc_nextByTime (l : Launch) (D : va_G) (q : Nat → Nat) (cI cZ : ClassId) (S : JS) (u : JX) (hW9 : jWf S) (hS9 : jxR1 S u) (o : Option Nat) (ho : ∀ y, o = some y → y < jN S) : jkI l yX0_nextByTime wsX0_nextByTime ({ frames := 1, cells := 0, slots := 0, locals := 22 }) D vwCl (jxt cI cZ) (jxc q cI cZ) [.ref (q 0), .int (jeI o)] (jxc q cI cZ u) (fun r u1 => jeI (jnx (jT S) o (jN S)) = r ∧ u = u1) := by
  refine jkI_of (cc := cX0_nextByTime) (maxL := 4) (ret := (some .int)) (by decide) rfl (Nat.le_of_ble_eq_true rfl) ?_
  intro p e R s m args below meth c Q A K hn9 hR9 hQ9
  obtain ⟨rN, rT, rM, rU, rK, rP, rA, rL, rB⟩ := id hS9
  obtain ⟨wn, wt, wu, wk, wp, wl, wb⟩ := id hW9
  have hu9 : ∀ w ∈ u_ws RX0 TX0 13, w ∈ wsX0_nextByTime := fun w h => List.mem_cons_of_mem _ (ku_X0 w h)
  show jaW p l e R s m args below meth c 0 0 Q D vwCl A 4 (jxc q cI cZ u) [(0, .ref (q 0)), (1, .int (jeI (o)))] 0 []
  refine ja_iconst K (-1) dX0_nextByTime_0 (by decide) ?_
  refine ja_istore_n K (lv1 := [(0, .ref (q 0)), (1, .int (jeI (o))), (2, .int (-1))]) dX0_nextByTime_1 (by decide) rfl rfl ?_
  refine ja_iconst K (nI 0) dX0_nextByTime_2 (by decide) ?_
  refine ja_istore_n K (lv1 := [(0, .ref (q 0)), (1, .int (jeI (o))), (2, .int (-1)), (3, .int (nI 0))]) dX0_nextByTime_3 (by decide) rfl rfl ?_
  have L4 : ∀ (m0 : Nat), (m0 ≤ jN S) → jaW p l e R s m args below meth c 0 0 Q D vwCl A 4 (jxc q cI cZ u) [(0, .ref (q 0)), (1, .int (jeI (o))), (2, .int (jeI (jnx (jT S) o m0))), (3, .int (nI (m0)))] 4 [] := by
    refine jl_1 (fun (m0 : Nat) => jN S - m0) (fun (m0 : Nat) => m0 ≤ jN S) _ ?_
    intro m0 hI4 IH4
    refine ja_iload_n K 3 dX0_nextByTime_4 rfl ?_
    refine ja_aload_n K 0 dX0_nextByTime_5 rfl ?_
    refine ja_get K hu9 0 rfl rfl 0 (by decide) (List.mem_cons_of_mem _ kfX0_7) rfl (congrArg (fun z9 => some (Value.int z9)) rN) dX0_nextByTime_6 ?_
    refine ja_icmp_ge K (tgt := 48) ((jN S) ≤ m0) dX0_nextByTime_9 (by decide) (nI_leI (by omega) (by omega)) (fun h9 => ?_) (fun h9 => ?_)
    · refine ja_iload_n K 2 dX0_nextByTime_48 rfl ?_
      exact ja_iret K (u) rfl (Nat.zero_le _) (Nat.zero_le _) dX0_nextByTime_49 hQ9 rfl ⟨by rw [show m0 = jN S by omega], rfl⟩
    · refine ja_iload_n K 1 dX0_nextByTime_12 rfl ?_
      refine ja_iconst K (-1) dX0_nextByTime_13 (by decide) ?_
      refine ja_icmp_eq K (tgt := 26) (o = none) dX0_nextByTime_14 (by decide) (jeI_m1 (o := o) (fun p9 h9 => by have := ho p9 h9; omega)) (fun h14 => ?_) (fun h14 => ?_)
      · subst h14
        refine ja_iload_n K 2 dX0_nextByTime_26 rfl ?_
        refine ja_iconst K (-1) dX0_nextByTime_27 (by decide) ?_
        refine ja_icmp_eq K (tgt := 40) (jnx (jT S) none m0 = none) dX0_nextByTime_28 (by decide) (jeI_m1 (o := jnx (jT S) none m0) (fun p9 h9 => by have := ((jnx_spec (jT S) _ m0).1 _ h9).1; omega)) (fun h28 => ?_) (fun h28 => ?_)
        · refine ja_iload_n K 3 dX0_nextByTime_40 rfl ?_
          refine ja_istore_n K (lv1 := [(0, .ref (q 0)), (1, .int (-1)), (2, .int (nI (m0))), (3, .int (nI (m0)))]) dX0_nextByTime_41 (by decide) rfl rfl ?_
          refine ja_iinc K (lv1 := [(0, .ref (q 0)), (1, .int (-1)), (2, .int (nI (m0))), (3, .int (nI ((m0 + 1))))]) 3 (nI ((m0 + 1))) dX0_nextByTime_42 rfl (ja_inc _) (by decide) rfl rfl ?_
          refine ja_goto K (tgt := 4) dX0_nextByTime_45 (by decide) ?_
          have e90 : jnx (jT S) none (m0 + 1) = some (m0) := by simp [jnx, h9, h28]
          have k9 := IH4 (m0 + 1) (by omega) (by omega)
          rw [e90] at k9
          exact k9
        · obtain ⟨y28, ey28⟩ := Option.ne_none_iff_exists'.mp h28
          try rw [ey28]
          have by28 := ((jnx_spec (jT S) _ m0).1 _ ey28).1
          refine ja_aload_n K 0 dX0_nextByTime_31 rfl ?_
          refine ja_iload_n K 3 dX0_nextByTime_32 rfl ?_
          refine ja_iload_n K 2 dX0_nextByTime_33 rfl ?_
          refine ja_callVI K (q0 := 0) (qc := (RX0, TX0, 13)) (st := []) [.int (nI (m0)), .int (nI (y28))] (jc_isEarlier l D q cI cZ S (u) hW9 hS9 (m0) (y28) (by omega) (by omega)) (cwV 2 K.1.2.2.2.2 (gX0_X0_isEarlier _) rfl rfl rfl (by decide +kernel) (by rw [hR9]; exact ⟨Nat.le_of_ble_eq_true rfl, Nat.le_of_ble_eq_true rfl⟩)) rfl rfl rfl rfl rfl (Nat.le_of_ble_eq_true rfl) dX0_nextByTime_34 (by rw [hR9]; exact ⟨Nat.le_of_ble_eq_true rfl, Nat.le_of_ble_eq_true rfl⟩) (fun r9 u9 h9 => ?_)
          obtain ⟨rfl, rfl⟩ := h9
          refine ja_if_eq K (tgt := 42) (jlt (jT S) (m0) (y28) = false) dX0_nextByTime_37 (by decide) (jbI_ne _) (fun h37 => ?_) (fun h37 => ?_)
          · refine ja_iinc K (lv1 := [(0, .ref (q 0)), (1, .int (-1)), (2, .int (nI (y28))), (3, .int (nI ((m0 + 1))))]) 3 (nI ((m0 + 1))) dX0_nextByTime_42 rfl (ja_inc _) (by decide) rfl rfl ?_
            refine ja_goto K (tgt := 4) dX0_nextByTime_45 (by decide) ?_
            have e90 : jnx (jT S) none (m0 + 1) = some (y28) := by simp [jnx, h9, h28, ey28, h37]
            have k9 := IH4 (m0 + 1) (by omega) (by omega)
            rw [e90] at k9
            exact k9
          · refine ja_iload_n K 3 dX0_nextByTime_40 rfl ?_
            refine ja_istore_n K (lv1 := [(0, .ref (q 0)), (1, .int (-1)), (2, .int (nI (m0))), (3, .int (nI (m0)))]) dX0_nextByTime_41 (by decide) rfl rfl ?_
            refine ja_iinc K (lv1 := [(0, .ref (q 0)), (1, .int (-1)), (2, .int (nI (m0))), (3, .int (nI ((m0 + 1))))]) 3 (nI ((m0 + 1))) dX0_nextByTime_42 rfl (ja_inc _) (by decide) rfl rfl ?_
            refine ja_goto K (tgt := 4) dX0_nextByTime_45 (by decide) ?_
            have e90 : jnx (jT S) none (m0 + 1) = some (m0) := by simp [jnx, h9, h28, ey28, h37]
            have k9 := IH4 (m0 + 1) (by omega) (by omega)
            rw [e90] at k9
            exact k9
      · obtain ⟨y14, rfl⟩ := Option.ne_none_iff_exists'.mp h14
        have by14 := ho y14 rfl
        refine ja_aload_n K 0 dX0_nextByTime_17 rfl ?_
        refine ja_iload_n K 1 dX0_nextByTime_18 rfl ?_
        refine ja_iload_n K 3 dX0_nextByTime_19 rfl ?_
        refine ja_callVI K (q0 := 0) (qc := (RX0, TX0, 13)) (st := []) [.int (nI (y14)), .int (nI (m0))] (jc_isEarlier l D q cI cZ S (u) hW9 hS9 (y14) (m0) (by omega) (by omega)) (cwV 2 K.1.2.2.2.2 (gX0_X0_isEarlier _) rfl rfl rfl (by decide +kernel) (by rw [hR9]; exact ⟨Nat.le_of_ble_eq_true rfl, Nat.le_of_ble_eq_true rfl⟩)) rfl rfl rfl rfl rfl (Nat.le_of_ble_eq_true rfl) dX0_nextByTime_20 (by rw [hR9]; exact ⟨Nat.le_of_ble_eq_true rfl, Nat.le_of_ble_eq_true rfl⟩) (fun r9 u9 h9 => ?_)
        obtain ⟨rfl, rfl⟩ := h9
        refine ja_if_eq K (tgt := 42) (jlt (jT S) (y14) (m0) = false) dX0_nextByTime_23 (by decide) (jbI_ne _) (fun h23 => ?_) (fun h23 => ?_)
        · refine ja_iinc K (lv1 := [(0, .ref (q 0)), (1, .int (nI (y14))), (2, .int (jeI (jnx (jT S) (some y14) m0))), (3, .int (nI ((m0 + 1))))]) 3 (nI ((m0 + 1))) dX0_nextByTime_42 rfl (ja_inc _) (by decide) rfl rfl ?_
          refine ja_goto K (tgt := 4) dX0_nextByTime_45 (by decide) ?_
          have e90 : jnx (jT S) (some y14) (m0 + 1) = jnx (jT S) (some y14) m0 := by simp [jnx, h9, h23]
          have k9 := IH4 (m0 + 1) (by omega) (by omega)
          rw [e90] at k9
          exact k9
        · refine ja_iload_n K 2 dX0_nextByTime_26 rfl ?_
          refine ja_iconst K (-1) dX0_nextByTime_27 (by decide) ?_
          refine ja_icmp_eq K (tgt := 40) (jnx (jT S) (some y14) m0 = none) dX0_nextByTime_28 (by decide) (jeI_m1 (o := jnx (jT S) (some y14) m0) (fun p9 h9 => by have := ((jnx_spec (jT S) _ m0).1 _ h9).1; omega)) (fun h28 => ?_) (fun h28 => ?_)
          · refine ja_iload_n K 3 dX0_nextByTime_40 rfl ?_
            refine ja_istore_n K (lv1 := [(0, .ref (q 0)), (1, .int (nI (y14))), (2, .int (nI (m0))), (3, .int (nI (m0)))]) dX0_nextByTime_41 (by decide) rfl rfl ?_
            refine ja_iinc K (lv1 := [(0, .ref (q 0)), (1, .int (nI (y14))), (2, .int (nI (m0))), (3, .int (nI ((m0 + 1))))]) 3 (nI ((m0 + 1))) dX0_nextByTime_42 rfl (ja_inc _) (by decide) rfl rfl ?_
            refine ja_goto K (tgt := 4) dX0_nextByTime_45 (by decide) ?_
            have e90 : jnx (jT S) (some y14) (m0 + 1) = some (m0) := by simp [jnx, h9, h23, h28]
            have k9 := IH4 (m0 + 1) (by omega) (by omega)
            rw [e90] at k9
            exact k9
          · obtain ⟨y28, ey28⟩ := Option.ne_none_iff_exists'.mp h28
            try rw [ey28]
            have by28 := ((jnx_spec (jT S) _ m0).1 _ ey28).1
            refine ja_aload_n K 0 dX0_nextByTime_31 rfl ?_
            refine ja_iload_n K 3 dX0_nextByTime_32 rfl ?_
            refine ja_iload_n K 2 dX0_nextByTime_33 rfl ?_
            refine ja_callVI K (q0 := 0) (qc := (RX0, TX0, 13)) (st := []) [.int (nI (m0)), .int (nI (y28))] (jc_isEarlier l D q cI cZ S (u) hW9 hS9 (m0) (y28) (by omega) (by omega)) (cwV 2 K.1.2.2.2.2 (gX0_X0_isEarlier _) rfl rfl rfl (by decide +kernel) (by rw [hR9]; exact ⟨Nat.le_of_ble_eq_true rfl, Nat.le_of_ble_eq_true rfl⟩)) rfl rfl rfl rfl rfl (Nat.le_of_ble_eq_true rfl) dX0_nextByTime_34 (by rw [hR9]; exact ⟨Nat.le_of_ble_eq_true rfl, Nat.le_of_ble_eq_true rfl⟩) (fun r9 u9 h9 => ?_)
            obtain ⟨rfl, rfl⟩ := h9
            refine ja_if_eq K (tgt := 42) (jlt (jT S) (m0) (y28) = false) dX0_nextByTime_37 (by decide) (jbI_ne _) (fun h37 => ?_) (fun h37 => ?_)
            · refine ja_iinc K (lv1 := [(0, .ref (q 0)), (1, .int (nI (y14))), (2, .int (nI (y28))), (3, .int (nI ((m0 + 1))))]) 3 (nI ((m0 + 1))) dX0_nextByTime_42 rfl (ja_inc _) (by decide) rfl rfl ?_
              refine ja_goto K (tgt := 4) dX0_nextByTime_45 (by decide) ?_
              have e90 : jnx (jT S) (some y14) (m0 + 1) = some (y28) := by simp [jnx, h9, h23, h28, ey28, h37]
              have k9 := IH4 (m0 + 1) (by omega) (by omega)
              rw [e90] at k9
              exact k9
            · refine ja_iload_n K 3 dX0_nextByTime_40 rfl ?_
              refine ja_istore_n K (lv1 := [(0, .ref (q 0)), (1, .int (nI (y14))), (2, .int (nI (m0))), (3, .int (nI (m0)))]) dX0_nextByTime_41 (by decide) rfl rfl ?_
              refine ja_iinc K (lv1 := [(0, .ref (q 0)), (1, .int (nI (y14))), (2, .int (nI (m0))), (3, .int (nI ((m0 + 1))))]) 3 (nI ((m0 + 1))) dX0_nextByTime_42 rfl (ja_inc _) (by decide) rfl rfl ?_
              refine ja_goto K (tgt := 4) dX0_nextByTime_45 (by decide) ?_
              have e90 : jnx (jT S) (some y14) (m0 + 1) = some (m0) := by simp [jnx, h9, h23, h28, ey28, h37]
              have k9 := IH4 (m0 + 1) (by omega) (by omega)
              rw [e90] at k9
              exact k9
  exact L4 0 (Nat.zero_le _)
