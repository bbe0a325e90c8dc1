set_option maxRecDepth 100000 in
set_option maxHeartbeats 4000000 in
theorem jd_letterAt (l : Launch) (D : va_G) (q : Nat → Nat) (cI cZ : ClassId) (S : JS) (u : JM) (hW9 : jWf S) (hS9 : jmR1 S u) (i b : Nat) (hi : i < jK S) (hb : b < jN S) : jkI l yX1_letterAt wsX1_letterAt ({ frames := 1, cells := 0, slots := 0, locals := 22 }) D vwCl (jxt cI cZ) (jmc q cI cZ) [.ref (q 0), .int (nI i), .int (nI b)] (jmc q cI cZ u) (fun r u1 => nI (jlf S i b) = r ∧ u = u1) := by
  refine jkI_of (cc := cX1_letterAt) (maxL := 4) (ret := (some .int)) (by decide) rfl (Nat.le_of_ble_eq_true rfl) ?_
  intro p e R s m args below meth c Q A K hn9 hR9 hQ9
  obtain ⟨rN, rT, rM, rU, rK, rP, rA, rL, rB⟩ := id hS9
  obtain ⟨wn, wt, wu, wk, wp, wl, wb⟩ := id hW9
  have hu9 : ∀ w ∈ u_ws RX1 TX1 16, w ∈ wsX1_letterAt := fun w h => List.mem_cons_of_mem _ (ku_X1 w h)
  have bp := (wp i hi).1
  show jaW p l e R s m args below meth c 0 0 Q D vwCl A 4 (jmc q cI cZ u) [(0, .ref (q 0)), (1, .int (nI (i))), (2, .int (nI (b)))] 0 []
  refine ja_iload_n K 2 dX1_letterAt_0 rfl ?_
  refine ja_istore_n K (lv1 := [(0, .ref (q 0)), (1, .int (nI (i))), (2, .int (nI (b))), (3, .int (nI (b)))]) dX1_letterAt_1 (by decide) rfl rfl ?_
  have L2 : ∀ (o : Option Nat), ((∀ y, o = some y → y < jN S) ∧ jpF (jU S (jP S i)) (fun y => (jL S i y).isSome) 14 o = jpF (jU S (jP S i)) (fun y => (jL S i y).isSome) 14 (some b)) → jaW p l e R s m args below meth c 0 0 Q D vwCl A 4 (jmc q cI cZ u) [(0, .ref (q 0)), (1, .int (nI (i))), (2, .int (nI (b))), (3, .int (jeI (o)))] 2 [] := by
    refine jl_1 (fun (o : Option Nat) => jho (jN S) (jT S) o) (fun (o : Option Nat) => (∀ y, o = some y → y < jN S) ∧ jpF (jU S (jP S i)) (fun y => (jL S i y).isSome) 14 o = jpF (jU S (jP S i)) (fun y => (jL S i y).isSome) 14 (some b)) _ ?_
    intro o hI2 IH2
    refine ja_iload_n K 3 dX1_letterAt_2 rfl ?_
    refine ja_if_lt K (tgt := 35) (o = none) dX1_letterAt_3 (by decide) (jeI_lt0 (fun p9 h9 => by have := hI2.1 p9 h9; omega)) (fun h3 => ?_) (fun h3 => ?_)
    · subst h3
      refine ja_iload_n K 3 dX1_letterAt_35 rfl ?_
      refine ja_if_ge K (tgt := 48) (False) dX1_letterAt_36 (by decide) (iff_false_intro (by decide)) (fun h36 => ?_) (fun h36 => ?_)
      · exact h36.elim
      · refine ja_aload_n K 0 dX1_letterAt_39 rfl ?_
        refine ja_get K hu9 0 rfl rfl 7 (by decide) (List.mem_cons_of_mem _ kfX1_23) rfl rfl dX1_letterAt_40 ?_
        refine ja_iload_n K 1 dX1_letterAt_43 rfl ?_
        refine ja_iald K (v := nI ((jA S (i)))) 5 0 rfl rfl (i) rfl (by omega) (by decide) (rA _ (by omega)) dX1_letterAt_44 ?_
        refine ja_goto K (tgt := 61) dX1_letterAt_45 (by decide) ?_
        exact ja_iret K (u) rfl (Nat.zero_le _) (Nat.zero_le _) dX1_letterAt_61 hQ9 rfl ⟨by rw [jlf, jlet, ← hI2.2]; first | (simp [jpF_none]; done) | (rw [jpF_S hW9]; obtain ⟨a9, ea⟩ := Option.ne_none_iff_exists'.mp h17; simp [ea, jeI]), rfl⟩
    · obtain ⟨y3, rfl⟩ := Option.ne_none_iff_exists'.mp h3
      have by3 := hI2.1 y3 rfl
      refine ja_aload_n K 0 dX1_letterAt_6 rfl ?_
      refine ja_get K hu9 0 rfl rfl 8 (by decide) (List.mem_cons_of_mem _ kfX1_26) rfl rfl dX1_letterAt_7 ?_
      refine ja_bipush K (nI 14) dX1_letterAt_10 (by decide) ?_
      refine ja_iload_n K 1 dX1_letterAt_12 rfl ?_
      refine ja_imul K (nI ((14 * i))) dX1_letterAt_13 (pk_mul _ _) ?_
      refine ja_iload_n K 3 dX1_letterAt_14 rfl ?_
      refine ja_iadd K (nI (((14 * i) + y3))) dX1_letterAt_15 (nI_add _ _) ?_
      have b17 := joN_lt (o := jL S i y3) (n := 4) (fun p h => (wl _ _ p h).2.2)
      refine ja_iald K (v := nI ((joN (jL S (i) (y3))))) 6 0 rfl rfl (((14 * i) + y3)) rfl (by omega) (by decide) (rL _ _ (by omega) (by omega)) dX1_letterAt_16 ?_
      refine ja_if_ne K (tgt := 35) (¬ (joN (jL S (i) (y3))) = 0) dX1_letterAt_17 (by decide) (not_congr (jz_eq (by omega))) (fun h17 => ?_) (fun h17 => ?_)
      · rw [joN_z] at h17
        refine ja_iload_n K 3 dX1_letterAt_35 rfl ?_
        refine ja_if_ge K (tgt := 48) (0 ≤ y3) dX1_letterAt_36 (by decide) (jz_ge (by omega)) (fun h36 => ?_) (fun h36 => ?_)
        · refine ja_aload_n K 0 dX1_letterAt_48 rfl ?_
          refine ja_get K hu9 0 rfl rfl 8 (by decide) (List.mem_cons_of_mem _ kfX1_26) rfl rfl dX1_letterAt_49 ?_
          refine ja_bipush K (nI 14) dX1_letterAt_52 (by decide) ?_
          refine ja_iload_n K 1 dX1_letterAt_54 rfl ?_
          refine ja_imul K (nI ((14 * i))) dX1_letterAt_55 (pk_mul _ _) ?_
          refine ja_iload_n K 3 dX1_letterAt_56 rfl ?_
          refine ja_iadd K (nI (((14 * i) + y3))) dX1_letterAt_57 (nI_add _ _) ?_
          refine ja_iald K (v := nI ((joN (jL S (i) (y3))))) 6 0 rfl rfl (((14 * i) + y3)) rfl (by omega) (by decide) (rL _ _ (by omega) (by omega)) dX1_letterAt_58 ?_
          refine ja_iconst K (nI 1) dX1_letterAt_59 (by decide) ?_
          refine ja_isub K (jeI (jL S i y3)) dX1_letterAt_60 (joN_eI1 _) ?_
          exact ja_iret K (u) rfl (Nat.zero_le _) (Nat.zero_le _) dX1_letterAt_61 hQ9 rfl ⟨by rw [jlf, jlet, ← hI2.2]; first | (simp [jpF_none]; done) | (rw [jpF_S hW9]; obtain ⟨a9, ea⟩ := Option.ne_none_iff_exists'.mp h17; simp [ea, jeI]), rfl⟩
        · exact absurd (Nat.zero_le _) h36
      · replace h17 := Classical.not_not.mp h17
        replace h17 := joN_z.mp h17
        refine ja_aload_n K 0 dX1_letterAt_20 rfl ?_
        refine ja_iload_n K 3 dX1_letterAt_21 rfl ?_
        refine ja_aload_n K 0 dX1_letterAt_22 rfl ?_
        refine ja_get K hu9 0 rfl rfl 6 (by decide) (List.mem_cons_of_mem _ kfX1_20) rfl rfl dX1_letterAt_23 ?_
        refine ja_iload_n K 1 dX1_letterAt_26 rfl ?_
        refine ja_iald K (v := nI ((jP S (i)))) 4 0 rfl rfl (i) rfl (by omega) (by decide) (rP _ (by omega)) dX1_letterAt_27 ?_
        refine ja_callVI K (q0 := 0) (qc := (RX1, TX1, 16)) (st := []) [.int (nI (y3)), .int (nI ((jP S (i))))] (jd_up l D q cI cZ (u) (y3) ((jP S (i))) (by omega) (by omega) (jU S ((jP S (i))) (y3)) (rU ((jP S (i))) (y3) (by omega) (by omega))) (cwV 2 K.1.2.2.2.2 (gX1_X1_up _) rfl rfl rfl (by decide +kernel) (by rw [hR9]; exact ⟨Nat.le_of_ble_eq_true rfl, Nat.le_of_ble_eq_true rfl⟩)) rfl rfl rfl rfl rfl (Nat.le_of_ble_eq_true rfl) dX1_letterAt_28 (by rw [hR9]; exact ⟨Nat.le_of_ble_eq_true rfl, Nat.le_of_ble_eq_true rfl⟩) (fun r9 u9 h9 => ?_)
        obtain ⟨rfl, rfl⟩ := h9
        refine ja_istore_n K (lv1 := [(0, .ref (q 0)), (1, .int (nI (i))), (2, .int (nI (b))), (3, .int (jeI (jU S ((jP S (i))) (y3))))]) dX1_letterAt_31 (by decide) rfl rfl ?_
        refine ja_goto K (tgt := 2) dX1_letterAt_32 (by decide) ?_
        have k9 := IH2 (jU S (jP S i) y3) ⟨fun z hz => (wu _ _ z hz).2.1, by rw [← hI2.2, jpF_S hW9]; simp [h17]⟩ (jho_up hW9 _ y3)
        exact k9
  exact L2 (some b) ⟨fun y h => (by cases h; exact hb), rfl⟩
