set_option maxRecDepth 100000 in
set_option maxHeartbeats 4000000 in
theorem jd_edge (l : Launch) (D : va_G) (q : Nat → Nat) (cI cZ : ClassId) (S : JS) (u : JM) (hW9 : jWf S) (hS9 : jmR1 S u) (z w : Int32) : jkI l yX1_edge wsX1_edge ({ frames := 3, cells := 0, slots := 0, locals := 70 }) D vwCl (jxt cI cZ) (jmc q cI cZ) [.ref (q 0), .int z, .int w] (jmc q cI cZ u) (fun r u1 => jmF u1 = nI (jc1 (jged S z w).isSome) ∧ (∀ r9, jged S z w = some r9 → r9 = r) ∧ jmR1 S u1) := by
  refine jkI_of (cc := cX1_edge) (maxL := 3) (ret := (some .int)) (by decide) rfl (Nat.le_of_ble_eq_true rfl) ?_
  intro p e R s m args below meth c Q A K hn9 hR9 hQ9
  obtain ⟨rN, rT, rM, rU, rK, rP, rA, rL, rB⟩ := id hS9
  obtain ⟨wn, wt, wu, wk, wp, wl, wb⟩ := id hW9
  have hu9 : ∀ w ∈ u_ws RX1 TX1 16, w ∈ wsX1_edge := fun w h => List.mem_cons_of_mem _ (ku_X1 w h)
  show jaW p l e R s m args below meth c 0 0 Q D vwCl A 3 (jmc q cI cZ u) [(0, .ref (q 0)), (1, .int (z)), (2, .int (w))] 0 []
  refine ja_aload_n K 0 dX1_edge_0 rfl ?_
  refine ja_iload_n K 1 dX1_edge_1 rfl ?_
  refine ja_if_lt K (tgt := 23) (z < 0) dX1_edge_2 (by decide) Iff.rfl (fun h2 => ?_) (fun h2 => ?_)
  · have g : jged S z w = none := jged_n1 hW9 h2
    refine ja_iconst K (nI 1) dX1_edge_23 (by decide) ?_
    refine ja_goto K (tgt := 28) dX1_edge_24 (by decide) ?_
    refine ja_callVI K (q0 := 0) (qc := (RX1, TX1, 16)) (st := []) [.int (nI 1)] (jd_refused l D q cI cZ (u) (1) (by omega)) (cwV 1 K.1.2.2.2.2 (gX1_X1_refused _) rfl rfl rfl (by decide +kernel) (by rw [hR9]; exact ⟨Nat.le_of_ble_eq_true rfl, Nat.le_of_ble_eq_true rfl⟩)) rfl rfl rfl rfl rfl (Nat.le_of_ble_eq_true rfl) dX1_edge_28 (by rw [hR9]; exact ⟨Nat.le_of_ble_eq_true rfl, Nat.le_of_ble_eq_true rfl⟩) (fun r9 u9 h9 => ?_)
    obtain ⟨rfl, rfl⟩ := h9
    refine ja_if_eq K (tgt := 36) (decide (0 < 1) = false) dX1_edge_31 (by decide) (jbI_ne _) (fun h31 => ?_) (fun h31 => ?_)
    · exact absurd h31 (by decide)
    · refine ja_iconst K (nI 0) dX1_edge_34 (by decide) ?_
      exact ja_iret K (jmsF (u) (nI 1)) rfl (Nat.zero_le _) (Nat.zero_le _) dX1_edge_35 hQ9 rfl ⟨by rw [g]; rfl, fun r9 h => (by rw [g] at h; cases h), hS9⟩
  · refine ja_iload_n K 2 dX1_edge_5 rfl ?_
    refine ja_if_lt K (tgt := 23) (w < 0) dX1_edge_6 (by decide) Iff.rfl (fun h6 => ?_) (fun h6 => ?_)
    · have g : jged S z w = none := jged_1 (jin_ff1 h6)
      refine ja_iconst K (nI 1) dX1_edge_23 (by decide) ?_
      refine ja_goto K (tgt := 28) dX1_edge_24 (by decide) ?_
      refine ja_callVI K (q0 := 0) (qc := (RX1, TX1, 16)) (st := []) [.int (nI 1)] (jd_refused l D q cI cZ (u) (1) (by omega)) (cwV 1 K.1.2.2.2.2 (gX1_X1_refused _) rfl rfl rfl (by decide +kernel) (by rw [hR9]; exact ⟨Nat.le_of_ble_eq_true rfl, Nat.le_of_ble_eq_true rfl⟩)) rfl rfl rfl rfl rfl (Nat.le_of_ble_eq_true rfl) dX1_edge_28 (by rw [hR9]; exact ⟨Nat.le_of_ble_eq_true rfl, Nat.le_of_ble_eq_true rfl⟩) (fun r9 u9 h9 => ?_)
      obtain ⟨rfl, rfl⟩ := h9
      refine ja_if_eq K (tgt := 36) (decide (0 < 1) = false) dX1_edge_31 (by decide) (jbI_ne _) (fun h31 => ?_) (fun h31 => ?_)
      · exact absurd h31 (by decide)
      · refine ja_iconst K (nI 0) dX1_edge_34 (by decide) ?_
        exact ja_iret K (jmsF (u) (nI 1)) rfl (Nat.zero_le _) (Nat.zero_le _) dX1_edge_35 hQ9 rfl ⟨by rw [g]; rfl, fun r9 h => (by rw [g] at h; cases h), hS9⟩
    · refine ja_iload_n K 2 dX1_edge_9 rfl ?_
      refine ja_iconst K (nI 3) dX1_edge_10 (by decide) ?_
      refine ja_icmp_gt K (tgt := 23) (nI 3 < w) dX1_edge_11 (by decide) Iff.rfl (fun h11 => ?_) (fun h11 => ?_)
      · have g : jged S z w = none := jged_1 (jin_ff3 (k := 3) (by decide) (by rw [Int32.le_iff_toInt_le]; rw [Int32.lt_iff_toInt_lt] at h11; omega))
        refine ja_iconst K (nI 1) dX1_edge_23 (by decide) ?_
        refine ja_goto K (tgt := 28) dX1_edge_24 (by decide) ?_
        refine ja_callVI K (q0 := 0) (qc := (RX1, TX1, 16)) (st := []) [.int (nI 1)] (jd_refused l D q cI cZ (u) (1) (by omega)) (cwV 1 K.1.2.2.2.2 (gX1_X1_refused _) rfl rfl rfl (by decide +kernel) (by rw [hR9]; exact ⟨Nat.le_of_ble_eq_true rfl, Nat.le_of_ble_eq_true rfl⟩)) rfl rfl rfl rfl rfl (Nat.le_of_ble_eq_true rfl) dX1_edge_28 (by rw [hR9]; exact ⟨Nat.le_of_ble_eq_true rfl, Nat.le_of_ble_eq_true rfl⟩) (fun r9 u9 h9 => ?_)
        obtain ⟨rfl, rfl⟩ := h9
        refine ja_if_eq K (tgt := 36) (decide (0 < 1) = false) dX1_edge_31 (by decide) (jbI_ne _) (fun h31 => ?_) (fun h31 => ?_)
        · exact absurd h31 (by decide)
        · refine ja_iconst K (nI 0) dX1_edge_34 (by decide) ?_
          exact ja_iret K (jmsF (u) (nI 1)) rfl (Nat.zero_le _) (Nat.zero_le _) dX1_edge_35 hQ9 rfl ⟨by rw [g]; rfl, fun r9 h => (by rw [g] at h; cases h), hS9⟩
      · have f11 : jin w 4 = true := jin_le (k := 3) h6 (by rw [Int32.le_iff_toInt_le]; rw [Int32.lt_iff_toInt_lt] at h11; omega)
        refine ja_aload_n K 0 dX1_edge_14 rfl ?_
        refine ja_iload_n K 1 dX1_edge_15 rfl ?_
        refine ja_callVI K (q0 := 0) (qc := (RX1, TX1, 16)) (st := [.ref (q 0)]) [.int (z)] (jd_find l D q cI cZ S (u) hW9 hS9 (z)) (cwV 1 K.1.2.2.2.2 (gX1_X1_find _) rfl rfl rfl (by decide +kernel) (by rw [hR9]; exact ⟨Nat.le_of_ble_eq_true rfl, Nat.le_of_ble_eq_true rfl⟩)) rfl rfl rfl rfl rfl (Nat.le_of_ble_eq_true rfl) dX1_edge_16 (by rw [hR9]; exact ⟨Nat.le_of_ble_eq_true rfl, Nat.le_of_ble_eq_true rfl⟩) (fun r9 u9 h9 => ?_)
        obtain ⟨rfl, hS8, hfd8, hF8⟩ := h9
        refine ja_iload_n K 1 dX1_edge_19 rfl ?_
        refine ja_icmp_gt K (tgt := 27) (z < nI ((jes S).length)) dX1_edge_20 (by decide) Iff.rfl (fun h20 => ?_) (fun h20 => ?_)
        · have g1 := jin_tt h2 h20
          have le8 := jes_le hW9
          obtain ⟨i0, hi0, rfl⟩ := jin_of g1 (by omega)
          obtain ⟨w0, hw0, rfl⟩ := jin_of f11 (by omega)
          obtain ⟨⟨x0, c0⟩, gy⟩ : ∃ y, (jes S)[i0]? = some y := ⟨_, List.getElem?_eq_getElem hi0⟩
          have ge : jge S (nI i0) = some (x0, c0) := by rw [jge, g1, if_pos rfl, jv_nI (by omega)]; exact gy
          obtain ⟨bx, bc, p0, bp⟩ := jge_mem ge
          simp only at bx bc bp
          have bp2 := (wu _ _ _ bp).2.1
          obtain ⟨f1, f4, f3⟩ := hfd8 i0 x0 c0 gy rfl
          replace f3 : jm3 u9 = nI p0 := by rw [f3, bp]; rfl
          obtain ⟨rN, rT, rM, rU, rK, rP, rA, rL, rB⟩ := id hS8
          refine ja_iconst K (nI 0) dX1_edge_27 (by decide) ?_
          refine ja_callVI K (q0 := 0) (qc := (RX1, TX1, 16)) (st := []) [.int (nI 0)] (jd_refused l D q cI cZ (u9) (0) (by omega)) (cwV 1 K.1.2.2.2.2 (gX1_X1_refused _) rfl rfl rfl (by decide +kernel) (by rw [hR9]; exact ⟨Nat.le_of_ble_eq_true rfl, Nat.le_of_ble_eq_true rfl⟩)) rfl rfl rfl rfl rfl (Nat.le_of_ble_eq_true rfl) dX1_edge_28 (by rw [hR9]; exact ⟨Nat.le_of_ble_eq_true rfl, Nat.le_of_ble_eq_true rfl⟩) (fun r9 u9 h9 => ?_)
          obtain ⟨rfl, rfl⟩ := h9
          refine ja_if_eq K (tgt := 36) (decide (0 < 0) = false) dX1_edge_31 (by decide) (jbI_ne _) (fun h31 => ?_) (fun h31 => ?_)
          · refine ja_aload_n K 0 dX1_edge_36 rfl ?_
            refine ja_aload_n K 0 dX1_edge_37 rfl ?_
            refine ja_get K hu9 0 rfl rfl 12 (by decide) (List.mem_cons_of_mem _ kfX1_85) rfl (congrArg (fun z9 => some (Value.int z9)) f1) dX1_edge_38 ?_
            refine ja_put K (ws1 := jmc q cI cZ (jms2 (jmsF (u9) (nI 0)) (nI x0))) hu9 0 rfl rfl 13 (by decide) (List.mem_cons_of_mem _ kfX1_102) rfl tyX1 tyX1_ok nmX1 rfl rfl rfl rfl (Nat.le_of_ble_eq_true rfl) dX1_edge_41 rfl ?_
            have L44 : ∀ (e0 : Nat), ((x0 ≤ e0 ∧ e0 ≤ 60) ∧ jene (fun e => jU S e c0 == jU S x0 c0) (60 - e0) e0 = jend S x0 c0) → jaW p l e R s m args below meth c 0 0 Q D vwCl A 3 (jmc q cI cZ (jms2 (jmsF (u9) (nI 0)) (nI e0))) [(0, .ref (q 0)), (1, .int (nI (i0))), (2, .int (nI (w0)))] 44 [] := by
              refine jl_1 (fun (e0 : Nat) => 60 - e0) (fun (e0 : Nat) => (x0 ≤ e0 ∧ e0 ≤ 60) ∧ jene (fun e => jU S e c0 == jU S x0 c0) (60 - e0) e0 = jend S x0 c0) _ ?_
              intro e0 hI44 IH44
              refine ja_aload_n K 0 dX1_edge_44 rfl ?_
              refine ja_get K hu9 0 rfl rfl 13 (by decide) (List.mem_cons_of_mem _ kfX1_102) rfl rfl dX1_edge_45 ?_
              refine ja_bipush K (nI 60) dX1_edge_48 (by decide) ?_
              refine ja_icmp_ge K (tgt := 85) (60 ≤ e0) dX1_edge_50 (by decide) (nI_leI (by omega) (by omega)) (fun h50 => ?_) (fun h50 => ?_)
              · refine ja_iload_n K 2 dX1_edge_85 rfl ?_
                refine ja_if_ne K (tgt := 96) (¬ w0 = 0) dX1_edge_86 (by decide) (not_congr (jz_eq (by omega))) (fun h86 => ?_) (fun h86 => ?_)
                · refine ja_iload_n K 2 dX1_edge_96 rfl ?_
                  refine ja_iconst K (nI 1) dX1_edge_97 (by decide) ?_
                  refine ja_icmp_ne K (tgt := 108) (¬ w0 = 1) dX1_edge_98 (by decide) (not_congr (nI_eq (by omega) (by omega))) (fun h98 => ?_) (fun h98 => ?_)
                  · refine ja_iload_n K 2 dX1_edge_108 rfl ?_
                    refine ja_iconst K (nI 2) dX1_edge_109 (by decide) ?_
                    refine ja_icmp_ne K (tgt := 120) (¬ w0 = 2) dX1_edge_110 (by decide) (not_congr (nI_eq (by omega) (by omega))) (fun h110 => ?_) (fun h110 => ?_)
                    · obtain rfl : w0 = 3 := by omega
                      refine ja_aload_n K 0 dX1_edge_120 rfl ?_
                      refine ja_get K hu9 0 rfl rfl 15 (by decide) (List.mem_cons_of_mem _ kfX1_91) rfl (congrArg (fun z9 => some (Value.int z9)) f4) dX1_edge_121 ?_
                      exact ja_iret K (jms2 (jmsF (u9) (nI 0)) (nI e0)) rfl (Nat.zero_le _) (Nat.zero_le _) dX1_edge_124 hQ9 rfl ⟨by rw [jged_2 ge f11]; rfl, fun r9 h => by rw [jged_2 ge f11] at h; rw [← Option.some.inj h]; rfl, hS8⟩
                    · replace h110 := Classical.not_not.mp h110
                      obtain rfl : w0 = 2 := by omega
                      refine ja_aload_n K 0 dX1_edge_113 rfl ?_
                      refine ja_get K hu9 0 rfl rfl 14 (by decide) (List.mem_cons_of_mem _ kfX1_88) rfl (congrArg (fun z9 => some (Value.int z9)) f3) dX1_edge_114 ?_
                      refine ja_goto K (tgt := 124) dX1_edge_117 (by decide) ?_
                      exact ja_iret K (jms2 (jmsF (u9) (nI 0)) (nI e0)) rfl (Nat.zero_le _) (Nat.zero_le _) dX1_edge_124 hQ9 rfl ⟨by rw [jged_2 ge f11]; rfl, fun r9 h => by rw [jged_2 ge f11] at h; rw [← Option.some.inj h]; show jeI (jU S x0 c0) = _; rw [bp]; rfl, hS8⟩
                  · replace h98 := Classical.not_not.mp h98
                    obtain rfl : w0 = 1 := by omega
                    refine ja_aload_n K 0 dX1_edge_101 rfl ?_
                    refine ja_get K hu9 0 rfl rfl 13 (by decide) (List.mem_cons_of_mem _ kfX1_102) rfl rfl dX1_edge_102 ?_
                    refine ja_goto K (tgt := 124) dX1_edge_105 (by decide) ?_
                    exact ja_iret K (jms2 (jmsF (u9) (nI 0)) (nI e0)) rfl (Nat.zero_le _) (Nat.zero_le _) dX1_edge_124 hQ9 rfl ⟨by rw [jged_2 ge f11]; rfl, fun r9 h => by rw [jged_2 ge f11] at h; rw [← Option.some.inj h]; show nI (jend S x0 c0) = _; rw [← hI44.2]; rw [show 60 - e0 = 0 by omega]; rfl, hS8⟩
                · replace h86 := Classical.not_not.mp h86
                  obtain rfl : w0 = 0 := by omega
                  refine ja_aload_n K 0 dX1_edge_89 rfl ?_
                  refine ja_get K hu9 0 rfl rfl 12 (by decide) (List.mem_cons_of_mem _ kfX1_85) rfl (congrArg (fun z9 => some (Value.int z9)) f1) dX1_edge_90 ?_
                  refine ja_goto K (tgt := 124) dX1_edge_93 (by decide) ?_
                  exact ja_iret K (jms2 (jmsF (u9) (nI 0)) (nI e0)) rfl (Nat.zero_le _) (Nat.zero_le _) dX1_edge_124 hQ9 rfl ⟨by rw [jged_2 ge f11]; rfl, fun r9 h => by rw [jged_2 ge f11] at h; rw [← Option.some.inj h]; rfl, hS8⟩
              · refine ja_aload_n K 0 dX1_edge_53 rfl ?_
                refine ja_aload_n K 0 dX1_edge_54 rfl ?_
                refine ja_get K hu9 0 rfl rfl 15 (by decide) (List.mem_cons_of_mem _ kfX1_91) rfl (congrArg (fun z9 => some (Value.int z9)) f4) dX1_edge_55 ?_
                refine ja_aload_n K 0 dX1_edge_58 rfl ?_
                refine ja_get K hu9 0 rfl rfl 13 (by decide) (List.mem_cons_of_mem _ kfX1_102) rfl rfl dX1_edge_59 ?_
                refine ja_callVI K (q0 := 0) (qc := (RX1, TX1, 16)) (st := []) [.int (nI (c0)), .int (nI (e0))] (jd_up l D q cI cZ (jms2 (jmsF (u9) (nI 0)) (nI e0)) (c0) (e0) (by omega) (by omega) (jU S (e0) (c0)) (rU (e0) (c0) (by omega) (by omega))) (cwV 2 K.1.2.2.2.2 (gX1_X1_up _) rfl rfl rfl (by decide +kernel) (by rw [hR9]; exact ⟨Nat.le_of_ble_eq_true rfl, Nat.le_of_ble_eq_true rfl⟩)) rfl rfl rfl rfl rfl (Nat.le_of_ble_eq_true rfl) dX1_edge_62 (by rw [hR9]; exact ⟨Nat.le_of_ble_eq_true rfl, Nat.le_of_ble_eq_true rfl⟩) (fun r9 u9 h9 => ?_)
                obtain ⟨rfl, rfl⟩ := h9
                refine ja_aload_n K 0 dX1_edge_65 rfl ?_
                refine ja_get K hu9 0 rfl rfl 14 (by decide) (List.mem_cons_of_mem _ kfX1_88) rfl (congrArg (fun z9 => some (Value.int z9)) f3) dX1_edge_66 ?_
                refine ja_icmp_ne K (tgt := 85) (¬ jU S (e0) (c0) = some (p0)) dX1_edge_69 (by decide) (not_congr (jeI_inj (o := jU S (e0) (c0)) (o' := some (p0)) (fun p9 h9 => by have := (wu _ _ _ h9).2.1; omega) (fun p9 h9 => by cases h9; omega))) (fun h69 => ?_) (fun h69 => ?_)
                · refine ja_iload_n K 2 dX1_edge_85 rfl ?_
                  refine ja_if_ne K (tgt := 96) (¬ w0 = 0) dX1_edge_86 (by decide) (not_congr (jz_eq (by omega))) (fun h86 => ?_) (fun h86 => ?_)
                  · refine ja_iload_n K 2 dX1_edge_96 rfl ?_
                    refine ja_iconst K (nI 1) dX1_edge_97 (by decide) ?_
                    refine ja_icmp_ne K (tgt := 108) (¬ w0 = 1) dX1_edge_98 (by decide) (not_congr (nI_eq (by omega) (by omega))) (fun h98 => ?_) (fun h98 => ?_)
                    · refine ja_iload_n K 2 dX1_edge_108 rfl ?_
                      refine ja_iconst K (nI 2) dX1_edge_109 (by decide) ?_
                      refine ja_icmp_ne K (tgt := 120) (¬ w0 = 2) dX1_edge_110 (by decide) (not_congr (nI_eq (by omega) (by omega))) (fun h110 => ?_) (fun h110 => ?_)
                      · obtain rfl : w0 = 3 := by omega
                        refine ja_aload_n K 0 dX1_edge_120 rfl ?_
                        refine ja_get K hu9 0 rfl rfl 15 (by decide) (List.mem_cons_of_mem _ kfX1_91) rfl (congrArg (fun z9 => some (Value.int z9)) f4) dX1_edge_121 ?_
                        exact ja_iret K (jms2 (jmsF (u9) (nI 0)) (nI e0)) rfl (Nat.zero_le _) (Nat.zero_le _) dX1_edge_124 hQ9 rfl ⟨by rw [jged_2 ge f11]; rfl, fun r9 h => by rw [jged_2 ge f11] at h; rw [← Option.some.inj h]; rfl, hS8⟩
                      · replace h110 := Classical.not_not.mp h110
                        obtain rfl : w0 = 2 := by omega
                        refine ja_aload_n K 0 dX1_edge_113 rfl ?_
                        refine ja_get K hu9 0 rfl rfl 14 (by decide) (List.mem_cons_of_mem _ kfX1_88) rfl (congrArg (fun z9 => some (Value.int z9)) f3) dX1_edge_114 ?_
                        refine ja_goto K (tgt := 124) dX1_edge_117 (by decide) ?_
                        exact ja_iret K (jms2 (jmsF (u9) (nI 0)) (nI e0)) rfl (Nat.zero_le _) (Nat.zero_le _) dX1_edge_124 hQ9 rfl ⟨by rw [jged_2 ge f11]; rfl, fun r9 h => by rw [jged_2 ge f11] at h; rw [← Option.some.inj h]; show jeI (jU S x0 c0) = _; rw [bp]; rfl, hS8⟩
                    · replace h98 := Classical.not_not.mp h98
                      obtain rfl : w0 = 1 := by omega
                      refine ja_aload_n K 0 dX1_edge_101 rfl ?_
                      refine ja_get K hu9 0 rfl rfl 13 (by decide) (List.mem_cons_of_mem _ kfX1_102) rfl rfl dX1_edge_102 ?_
                      refine ja_goto K (tgt := 124) dX1_edge_105 (by decide) ?_
                      exact ja_iret K (jms2 (jmsF (u9) (nI 0)) (nI e0)) rfl (Nat.zero_le _) (Nat.zero_le _) dX1_edge_124 hQ9 rfl ⟨by rw [jged_2 ge f11]; rfl, fun r9 h => by rw [jged_2 ge f11] at h; rw [← Option.some.inj h]; show nI (jend S x0 c0) = _; rw [← hI44.2]; rw [show 60 - e0 = (59 - e0) + 1 by omega]; simp [jene, h69, bp]; rfl, hS8⟩
                  · replace h86 := Classical.not_not.mp h86
                    obtain rfl : w0 = 0 := by omega
                    refine ja_aload_n K 0 dX1_edge_89 rfl ?_
                    refine ja_get K hu9 0 rfl rfl 12 (by decide) (List.mem_cons_of_mem _ kfX1_85) rfl (congrArg (fun z9 => some (Value.int z9)) f1) dX1_edge_90 ?_
                    refine ja_goto K (tgt := 124) dX1_edge_93 (by decide) ?_
                    exact ja_iret K (jms2 (jmsF (u9) (nI 0)) (nI e0)) rfl (Nat.zero_le _) (Nat.zero_le _) dX1_edge_124 hQ9 rfl ⟨by rw [jged_2 ge f11]; rfl, fun r9 h => by rw [jged_2 ge f11] at h; rw [← Option.some.inj h]; rfl, hS8⟩
                · replace h69 := Classical.not_not.mp h69
                  refine ja_aload_n K 0 dX1_edge_72 rfl ?_
                  refine ja_dup K dX1_edge_73 rfl ?_
                  refine ja_get K hu9 0 rfl rfl 13 (by decide) (List.mem_cons_of_mem _ kfX1_102) rfl rfl dX1_edge_74 ?_
                  refine ja_iconst K (nI 1) dX1_edge_77 (by decide) ?_
                  refine ja_iadd K (nI ((e0 + 1))) dX1_edge_78 (nI_add _ _) ?_
                  refine ja_put K (ws1 := jmc q cI cZ (jms2 (jmsF (u9) (nI 0)) (nI (e0 + 1)))) hu9 0 rfl rfl 13 (by decide) (List.mem_cons_of_mem _ kfX1_102) rfl tyX1 tyX1_ok nmX1 rfl rfl rfl rfl (Nat.le_of_ble_eq_true rfl) dX1_edge_79 rfl ?_
                  refine ja_goto K (tgt := 44) dX1_edge_82 (by decide) ?_
                  have k9 := IH44 (e0 + 1) ⟨by omega, by rw [← hI44.2, show 60 - e0 = (60 - (e0 + 1)) + 1 by omega]; simp [jene, h69, bp]⟩ (by omega)
                  exact k9
            exact L44 x0 ⟨by omega, jend_at bx⟩
          · exact absurd (by decide) h31
        · have g : jged S z w = none := jged_n2 h20
          refine ja_iconst K (nI 1) dX1_edge_23 (by decide) ?_
          refine ja_goto K (tgt := 28) dX1_edge_24 (by decide) ?_
          refine ja_callVI K (q0 := 0) (qc := (RX1, TX1, 16)) (st := []) [.int (nI 1)] (jd_refused l D q cI cZ (u9) (1) (by omega)) (cwV 1 K.1.2.2.2.2 (gX1_X1_refused _) rfl rfl rfl (by decide +kernel) (by rw [hR9]; exact ⟨Nat.le_of_ble_eq_true rfl, Nat.le_of_ble_eq_true rfl⟩)) rfl rfl rfl rfl rfl (Nat.le_of_ble_eq_true rfl) dX1_edge_28 (by rw [hR9]; exact ⟨Nat.le_of_ble_eq_true rfl, Nat.le_of_ble_eq_true rfl⟩) (fun r9 u9 h9 => ?_)
          obtain ⟨rfl, rfl⟩ := h9
          refine ja_if_eq K (tgt := 36) (decide (0 < 1) = false) dX1_edge_31 (by decide) (jbI_ne _) (fun h31 => ?_) (fun h31 => ?_)
          · exact absurd h31 (by decide)
          · refine ja_iconst K (nI 0) dX1_edge_34 (by decide) ?_
            exact ja_iret K (jmsF (u9) (nI 1)) rfl (Nat.zero_le _) (Nat.zero_le _) dX1_edge_35 hQ9 rfl ⟨by rw [g]; rfl, fun r9 h => (by rw [g] at h; cases h), hS8⟩
