set_option maxRecDepth 100000 in
set_option maxHeartbeats 4000000 in
theorem jd_comes (l : Launch) (D : va_G) (q : Nat → Nat) (cI cZ : ClassId) (S : JS) (u : JM) (hW9 : jWf S) (hS9 : jmR1 S u) (c0 i : Nat) (hc : c0 < jN S) (hi : i < jK S) : jkI l yX1_comes wsX1_comes ({ frames := 5, cells := 0, slots := 0, locals := 116 }) D vwCl (jxt cI cZ) (jmc q cI cZ) [.ref (q 0), .int (nI c0), .int (nI i)] (jmc q cI cZ u) (fun r u1 => nI (joN (jcome S i c0)) = r ∧ u = u1) := by
  refine jkI_of (cc := cX1_comes) (maxL := 5) (ret := (some .int)) (by decide) rfl (Nat.le_of_ble_eq_true rfl) ?_
  intro p e R s m args below meth c Q A K hn9 hR9 hQ9
  obtain ⟨rN, rT, rM, rU, rK, rP, rA, rL, rB⟩ := id hS9
  obtain ⟨wn, wt, wu, wk, wp, wl, wb⟩ := id hW9
  have hu9 : ∀ w ∈ u_ws RX1 TX1 16, w ∈ wsX1_comes := fun w h => List.mem_cons_of_mem _ (ku_X1 w h)
  have bp := (wp i hi).1
  show jaW p l e R s m args below meth c 0 0 Q D vwCl A 5 (jmc q cI cZ u) [(0, .ref (q 0)), (1, .int (nI (c0))), (2, .int (nI (i)))] 0 []
  refine ja_iload_n K 1 dX1_comes_0 rfl ?_
  refine ja_istore_n K (lv1 := [(0, .ref (q 0)), (1, .int (nI (c0))), (2, .int (nI (i))), (3, .int (nI (c0)))]) dX1_comes_1 (by decide) rfl rfl ?_
  refine ja_aload_n K 0 dX1_comes_2 rfl ?_
  refine ja_get K hu9 0 rfl rfl 8 (by decide) (List.mem_cons_of_mem _ kfX1_26) rfl rfl dX1_comes_3 ?_
  refine ja_bipush K (nI 14) dX1_comes_6 (by decide) ?_
  refine ja_iload_n K 2 dX1_comes_8 rfl ?_
  refine ja_imul K (nI ((14 * i))) dX1_comes_9 (pk_mul _ _) ?_
  refine ja_iload_n K 1 dX1_comes_10 rfl ?_
  refine ja_iadd K (nI (((14 * i) + c0))) dX1_comes_11 (nI_add _ _) ?_
  refine ja_iald K (v := nI ((joN (jL S (i) (c0))))) 6 0 rfl rfl (((14 * i) + c0)) rfl (by omega) (by decide) (rL _ _ (by omega) (by omega)) dX1_comes_12 ?_
  refine ja_istore K (lv1 := [(0, .ref (q 0)), (1, .int (nI (c0))), (2, .int (nI (i))), (3, .int (nI (c0))), (4, .int (nI ((joN (jL S (i) (c0))))))]) dX1_comes_13 (by decide) rfl rfl ?_
  have L15 : ∀ (o : Option Nat) (fo : Option Nat), ((∀ y, o = some y → y < jN S) ∧ (∀ a, fo = some a → a < 4) ∧ jcR S i fo o = jcome S i c0) → jaW p l e R s m args below meth c 0 0 Q D vwCl A 5 (jmc q cI cZ u) [(0, .ref (q 0)), (1, .int (nI (c0))), (2, .int (nI (i))), (3, .int (jeI (o))), (4, .int (nI ((joN fo))))] 15 [] := by
    refine jl_2 (fun (o : Option Nat) (fo : Option Nat) => jho (jN S) (jT S) o) (fun (o : Option Nat) (fo : Option Nat) => (∀ y, o = some y → y < jN S) ∧ (∀ a, fo = some a → a < 4) ∧ jcR S i fo o = jcome S i c0) _ ?_
    intro o fo hI15 IH15
    have bf := joN_lt (o := fo) (n := 4) hI15.2.1
    refine ja_iload K 4 dX1_comes_15 rfl ?_
    refine ja_if_ne K (tgt := 84) (¬ (joN fo) = 0) dX1_comes_17 (by decide) (not_congr (jz_eq (by omega))) (fun h17 => ?_) (fun h17 => ?_)
    · refine ja_iload K 4 dX1_comes_84 rfl ?_
      exact ja_iret K (u) rfl (Nat.zero_le _) (Nat.zero_le _) dX1_comes_86 hQ9 rfl ⟨by rw [← hI15.2.2]; first | (simp [jcR, joN]; done) | (cases fo with | none => simp [joN] at h17 | some a => rfl), rfl⟩
    · replace h17 := Classical.not_not.mp h17
      obtain rfl := joN_z.mp h17
      refine ja_iload_n K 3 dX1_comes_20 rfl ?_
      refine ja_if_lt K (tgt := 84) (o = none) dX1_comes_21 (by decide) (jeI_lt0 (fun p9 h9 => by have := hI15.1 p9 h9; omega)) (fun h21 => ?_) (fun h21 => ?_)
      · subst h21
        refine ja_iload K 4 dX1_comes_84 rfl ?_
        exact ja_iret K (u) rfl (Nat.zero_le _) (Nat.zero_le _) dX1_comes_86 hQ9 rfl ⟨by rw [← hI15.2.2]; first | (simp [jcR, joN]; done) | (cases fo with | none => simp [joN] at h17 | some a => rfl), rfl⟩
      · obtain ⟨y21, rfl⟩ := Option.ne_none_iff_exists'.mp h21
        have by21 := hI15.1 y21 rfl
        refine ja_aload_n K 0 dX1_comes_24 rfl ?_
        refine ja_iload_n K 3 dX1_comes_25 rfl ?_
        refine ja_aload_n K 0 dX1_comes_26 rfl ?_
        refine ja_get K hu9 0 rfl rfl 6 (by decide) (List.mem_cons_of_mem _ kfX1_20) rfl rfl dX1_comes_27 ?_
        refine ja_iload_n K 2 dX1_comes_30 rfl ?_
        refine ja_iald K (v := nI ((jP S (i)))) 4 0 rfl rfl (i) rfl (by omega) (by decide) (rP _ (by omega)) dX1_comes_31 ?_
        refine ja_callVI K (q0 := 0) (qc := (RX1, TX1, 16)) (st := []) [.int (nI (y21)), .int (nI ((jP S (i))))] (jd_up l D q cI cZ (u) (y21) ((jP S (i))) (by omega) (by omega) (jU S ((jP S (i))) (y21)) (rU ((jP S (i))) (y21) (by omega) (by omega))) (cwV 2 K.1.2.2.2.2 (gX1_X1_up _) rfl rfl rfl (by decide +kernel) (by rw [hR9]; exact ⟨Nat.le_of_ble_eq_true rfl, Nat.le_of_ble_eq_true rfl⟩)) rfl rfl rfl rfl rfl (Nat.le_of_ble_eq_true rfl) dX1_comes_32 (by rw [hR9]; exact ⟨Nat.le_of_ble_eq_true rfl, Nat.le_of_ble_eq_true rfl⟩) (fun r9 u9 h9 => ?_)
        obtain ⟨rfl, rfl⟩ := h9
        refine ja_istore_n K (lv1 := [(0, .ref (q 0)), (1, .int (nI (c0))), (2, .int (nI (i))), (3, .int (jeI (jU S ((jP S (i))) (y21)))), (4, .int (nI 0))]) dX1_comes_35 (by decide) rfl rfl ?_
        refine ja_iload_n K 3 dX1_comes_36 rfl ?_
        refine ja_if_lt K (tgt := 58) (jU S ((jP S (i))) (y21) = none) dX1_comes_37 (by decide) (jeI_lt0 (fun p9 h9 => by have := (wu _ _ _ h9).2.1; omega)) (fun h37 => ?_) (fun h37 => ?_)
        · try rw [h37]
          refine ja_iload_n K 3 dX1_comes_58 rfl ?_
          refine ja_istore_n K (lv1 := [(0, .ref (q 0)), (1, .int (nI (c0))), (2, .int (nI (i))), (3, .int (-1)), (4, .int (nI 0))]) dX1_comes_59 (by decide) rfl rfl ?_
          refine ja_iload_n K 3 dX1_comes_60 rfl ?_
          refine ja_if_lt K (tgt := 78) (True) dX1_comes_61 (by decide) (iff_true_intro (by decide)) (fun h61 => ?_) (fun h61 => ?_)
          · refine ja_iconst K (nI 0) dX1_comes_78 (by decide) ?_
            refine ja_istore K (lv1 := [(0, .ref (q 0)), (1, .int (nI (c0))), (2, .int (nI (i))), (3, .int (-1)), (4, .int (nI 0))]) dX1_comes_79 (by decide) rfl rfl ?_
            refine ja_goto K (tgt := 15) dX1_comes_81 (by decide) ?_
            exact IH15 none none ⟨fun y h => (by cases h), fun a h => (by cases h), by rw [← hI15.2.2]; exact jcR_1 h37⟩ (by simp [jho])
          · exact absurd trivial h61
        · obtain ⟨y37, ey37⟩ := Option.ne_none_iff_exists'.mp h37
          try rw [ey37]
          have by37 := wu _ _ _ ey37
          refine ja_aload_n K 0 dX1_comes_40 rfl ?_
          refine ja_iload_n K 3 dX1_comes_41 rfl ?_
          refine ja_aload_n K 0 dX1_comes_42 rfl ?_
          refine ja_get K hu9 0 rfl rfl 6 (by decide) (List.mem_cons_of_mem _ kfX1_20) rfl rfl dX1_comes_43 ?_
          refine ja_iload_n K 2 dX1_comes_46 rfl ?_
          refine ja_iald K (v := nI ((jP S (i)))) 4 0 rfl rfl (i) rfl (by omega) (by decide) (rP _ (by omega)) dX1_comes_47 ?_
          refine ja_callVI K (q0 := 0) (qc := (RX1, TX1, 16)) (st := []) [.int (nI (y37)), .int (nI ((jP S (i))))] (jd_matters l D q cI cZ S (u) hW9 hS9 (y37) ((jP S (i))) (by omega) (by omega)) (cwV 2 K.1.2.2.2.2 (gX1_X1_matters _) rfl rfl rfl (by decide +kernel) (by rw [hR9]; exact ⟨Nat.le_of_ble_eq_true rfl, Nat.le_of_ble_eq_true rfl⟩)) rfl rfl rfl rfl rfl (Nat.le_of_ble_eq_true rfl) dX1_comes_48 (by rw [hR9]; exact ⟨Nat.le_of_ble_eq_true rfl, Nat.le_of_ble_eq_true rfl⟩) (fun r9 u9 h9 => ?_)
          obtain ⟨rfl, rfl⟩ := h9
          refine ja_if_eq K (tgt := 58) (jmatS S ((jP S (i))) (y37) = false) dX1_comes_51 (by decide) (jbI_ne _) (fun h51 => ?_) (fun h51 => ?_)
          · refine ja_iload_n K 3 dX1_comes_58 rfl ?_
            refine ja_istore_n K (lv1 := [(0, .ref (q 0)), (1, .int (nI (c0))), (2, .int (nI (i))), (3, .int (nI (y37))), (4, .int (nI 0))]) dX1_comes_59 (by decide) rfl rfl ?_
            refine ja_iload_n K 3 dX1_comes_60 rfl ?_
            refine ja_if_lt K (tgt := 78) (False) dX1_comes_61 (by decide) (iff_false_intro (nI_pos (by omega))) (fun h61 => ?_) (fun h61 => ?_)
            · exact h61.elim
            · refine ja_aload_n K 0 dX1_comes_64 rfl ?_
              refine ja_get K hu9 0 rfl rfl 8 (by decide) (List.mem_cons_of_mem _ kfX1_26) rfl rfl dX1_comes_65 ?_
              refine ja_bipush K (nI 14) dX1_comes_68 (by decide) ?_
              refine ja_iload_n K 2 dX1_comes_70 rfl ?_
              refine ja_imul K (nI ((14 * i))) dX1_comes_71 (pk_mul _ _) ?_
              refine ja_iload_n K 3 dX1_comes_72 rfl ?_
              refine ja_iadd K (nI (((14 * i) + y37))) dX1_comes_73 (nI_add _ _) ?_
              refine ja_iald K (v := nI ((joN (jL S (i) (y37))))) 6 0 rfl rfl (((14 * i) + y37)) rfl (by omega) (by decide) (rL _ _ (by omega) (by omega)) dX1_comes_74 ?_
              refine ja_goto K (tgt := 79) dX1_comes_75 (by decide) ?_
              refine ja_istore K (lv1 := [(0, .ref (q 0)), (1, .int (nI (c0))), (2, .int (nI (i))), (3, .int (nI (y37))), (4, .int (nI ((joN (jL S (i) (y37))))))]) dX1_comes_79 (by decide) rfl rfl ?_
              refine ja_goto K (tgt := 15) dX1_comes_81 (by decide) ?_
              exact IH15 (some y37) (jL S i y37) ⟨fun y h => (by cases h; omega), fun a h => (wl _ _ a h).2.2, by rw [← hI15.2.2]; exact jcR_3 hW9 ey37 h51⟩ (by have := jho_up hW9 (jP S i) y21; rw [ey37] at this; exact this)
          · refine ja_iconst K (-1) dX1_comes_54 (by decide) ?_
            refine ja_goto K (tgt := 59) dX1_comes_55 (by decide) ?_
            refine ja_istore_n K (lv1 := [(0, .ref (q 0)), (1, .int (nI (c0))), (2, .int (nI (i))), (3, .int (-1)), (4, .int (nI 0))]) dX1_comes_59 (by decide) rfl rfl ?_
            refine ja_iload_n K 3 dX1_comes_60 rfl ?_
            refine ja_if_lt K (tgt := 78) (True) dX1_comes_61 (by decide) (iff_true_intro (by decide)) (fun h61 => ?_) (fun h61 => ?_)
            · refine ja_iconst K (nI 0) dX1_comes_78 (by decide) ?_
              refine ja_istore K (lv1 := [(0, .ref (q 0)), (1, .int (nI (c0))), (2, .int (nI (i))), (3, .int (-1)), (4, .int (nI 0))]) dX1_comes_79 (by decide) rfl rfl ?_
              refine ja_goto K (tgt := 15) dX1_comes_81 (by decide) ?_
              exact IH15 none none ⟨fun y h => (by cases h), fun a h => (by cases h), by rw [← hI15.2.2]; exact jcR_2 hW9 ey37 (eq_true_of_ne_false h51)⟩ (by simp [jho])
            · exact absurd trivial h61
  exact L15 (some c0) (jL S i c0) ⟨fun y h => (by cases h; exact hc), fun a h => (wl _ _ a h).2.2, jcR_0 S i c0⟩
