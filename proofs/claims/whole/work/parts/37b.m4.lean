set_option maxRecDepth 100000 in
set_option maxHeartbeats 4000000 in
theorem jd_find (l : Launch) (D : va_G) (q : Nat → Nat) (cI cZ : ClassId) (S : JS) (u : JM) (hW9 : jWf S) (hS9 : jmR1 S u) (z : Int32) : jkI l yX1_find wsX1_find ({ frames := 2, cells := 0, slots := 0, locals := 44 }) D vwCl (jxt cI cZ) (jmc q cI cZ) [.ref (q 0), .int z] (jmc q cI cZ u) (fun r u1 => nI (jes S).length = r ∧ jmR1 S u1 ∧ jfd S z u1 (jes S) ∧ jmF u1 = jmF u) := by
  refine jkI_of (cc := cX1_find) (maxL := 7) (ret := (some .int)) (by decide) rfl (Nat.le_of_ble_eq_true rfl) ?_
  intro p e R s m args below meth c Q A K hn9 hR9 hQ9
  obtain ⟨rN, rT, rM, rU, rK, rP, rA, rL, rB⟩ := id hS9
  obtain ⟨wn, wt, wu, wk, wp, wl, wb⟩ := id hW9
  have hu9 : ∀ w ∈ u_ws RX1 TX1 16, w ∈ wsX1_find := fun w h => List.mem_cons_of_mem _ (ku_X1 w h)
  show jaW p l e R s m args below meth c 0 0 Q D vwCl A 7 (jmc q cI cZ u) [(0, .ref (q 0)), (1, .int (z))] 0 []
  refine ja_iconst K (nI 0) dX1_find_0 (by decide) ?_
  refine ja_istore_n K (lv1 := [(0, .ref (q 0)), (1, .int (z)), (2, .int (nI 0))]) dX1_find_1 (by decide) rfl rfl ?_
  refine ja_iconst K (nI 0) dX1_find_2 (by decide) ?_
  refine ja_istore_n K (lv1 := [(0, .ref (q 0)), (1, .int (z)), (2, .int (nI 0)), (3, .int (nI 0))]) dX1_find_3 (by decide) rfl rfl ?_
  have L4 : ∀ (t : Nat) (v : JM), (t ≤ 1001 ∧ jmR1 S v ∧ jmF v = jmF u ∧ jfd S z v (jpT S t)) → jaW p l e R s m args below meth c 0 0 Q D vwCl A 7 (jmc q cI cZ v) [(0, .ref (q 0)), (1, .int (z)), (2, .int (nI ((jpT S t).length))), (3, .int (nI (t)))] 4 [] := by
    refine jl_2 (fun (t : Nat) (v : JM) => 1001 - t) (fun (t : Nat) (v : JM) => t ≤ 1001 ∧ jmR1 S v ∧ jmF v = jmF u ∧ jfd S z v (jpT S t)) _ ?_
    intro t v hI4 IH4
    obtain ⟨rN, rT, rM, rU, rK, rP, rA, rL, rB⟩ := id hI4.2.1
    refine ja_iload_n K 3 dX1_find_4 rfl ?_
    refine ja_sipush K (nI 1000) dX1_find_5 (by decide) ?_
    refine ja_icmp_gt K (tgt := 130) (1000 < t) dX1_find_8 (by decide) (nI_ltI (by omega) (by omega)) (fun h8 => ?_) (fun h8 => ?_)
    · refine ja_iload_n K 2 dX1_find_130 rfl ?_
      exact ja_iret K (v) rfl (Nat.zero_le _) (Nat.zero_le _) dX1_find_131 hQ9 rfl ⟨by rw [← jpT_end, show (1001 : Nat) = t by omega], hI4.2.1, by rw [← jpT_end, show (1001 : Nat) = t by omega]; exact hI4.2.2.2, hI4.2.2.1⟩
    · refine ja_iconst K (nI 0) dX1_find_11 (by decide) ?_
      refine ja_istore K (lv1 := [(0, .ref (q 0)), (1, .int (z)), (2, .int (nI ((jpT S t).length))), (3, .int (nI (t))), (4, .int (nI 0))]) dX1_find_12 (by decide) rfl rfl ?_
      have L14 : ∀ (p0 : Nat) (v1 : JM), (p0 ≤ jN S ∧ jmR1 S v1 ∧ jmF v1 = jmF u ∧ jfd S z v1 (jpT S t ++ jpP S t p0)) → jaW p l e R s m args below meth c 0 0 Q D vwCl A 7 (jmc q cI cZ v1) [(0, .ref (q 0)), (1, .int (z)), (2, .int (nI ((jpT S t ++ jpP S t p0).length))), (3, .int (nI (t))), (4, .int (nI (p0)))] 14 [] := by
        refine jl_2 (fun (p0 : Nat) (v1 : JM) => jN S - p0) (fun (p0 : Nat) (v1 : JM) => p0 ≤ jN S ∧ jmR1 S v1 ∧ jmF v1 = jmF u ∧ jfd S z v1 (jpT S t ++ jpP S t p0)) _ ?_
        intro p0 v1 hI14 IH14
        obtain ⟨rN, rT, rM, rU, rK, rP, rA, rL, rB⟩ := id hI14.2.1
        refine ja_iload K 4 dX1_find_14 rfl ?_
        refine ja_aload_n K 0 dX1_find_16 rfl ?_
        refine ja_get K hu9 0 rfl rfl 1 (by decide) (List.mem_cons_of_mem _ kfX1_42) rfl (congrArg (fun z9 => some (Value.int z9)) rN) dX1_find_17 ?_
        refine ja_icmp_ge K (tgt := 124) ((jN S) ≤ p0) dX1_find_20 (by decide) (nI_leI (by omega) (by omega)) (fun h20 => ?_) (fun h20 => ?_)
        · refine ja_iinc K (lv1 := [(0, .ref (q 0)), (1, .int (z)), (2, .int (nI ((jpT S t ++ jpP S t p0).length))), (3, .int (nI ((t + 1)))), (4, .int (nI (p0)))]) 3 (nI ((t + 1))) dX1_find_124 rfl (ja_inc _) (by decide) rfl rfl ?_
          refine ja_goto K (tgt := 4) dX1_find_127 (by decide) ?_
          refine ja_locals (lv1 := [(0, .ref (q 0)), (1, .int (z)), (2, .int (nI ((jpT S t ++ jpP S t p0).length))), (3, .int (nI ((t + 1))))]) [0, 1, 2, 3] rfl ?_
          have e90 : jpT S (t + 1) = (jpT S t ++ jpP S t p0) := by rw [show p0 = jN S by omega]; rfl
          have k9 := IH4 (t + 1) v1 ⟨by omega, hI14.2.1, hI14.2.2.1, by rw [e90]; exact hI14.2.2.2⟩ (by omega)
          rw [e90] at k9
          exact k9
        · refine ja_iconst K (nI 0) dX1_find_23 (by decide) ?_
          refine ja_istore K (lv1 := [(0, .ref (q 0)), (1, .int (z)), (2, .int (nI ((jpT S t ++ jpP S t p0).length))), (3, .int (nI (t))), (4, .int (nI (p0))), (5, .int (nI 0))]) dX1_find_24 (by decide) rfl rfl ?_
          have L26 : ∀ (c0 : Nat) (v2 : JM), (c0 ≤ jN S ∧ jmR1 S v2 ∧ jmF v2 = jmF u ∧ jfd S z v2 (jpT S t ++ jpP S t p0 ++ jpC S p0 c0) ∧ (¬ jT S p0 = t → c0 = 0)) → jaW p l e R s m args below meth c 0 0 Q D vwCl A 7 (jmc q cI cZ v2) [(0, .ref (q 0)), (1, .int (z)), (2, .int (nI ((jpT S t ++ jpP S t p0 ++ jpC S p0 c0).length))), (3, .int (nI (t))), (4, .int (nI (p0))), (5, .int (nI (c0)))] 26 [] := by
            refine jl_2 (fun (c0 : Nat) (v2 : JM) => jN S - c0) (fun (c0 : Nat) (v2 : JM) => c0 ≤ jN S ∧ jmR1 S v2 ∧ jmF v2 = jmF u ∧ jfd S z v2 (jpT S t ++ jpP S t p0 ++ jpC S p0 c0) ∧ (¬ jT S p0 = t → c0 = 0)) _ ?_
            intro c0 v2 hI26 IH26
            obtain ⟨rN, rT, rM, rU, rK, rP, rA, rL, rB⟩ := id hI26.2.1
            refine ja_iload K 5 dX1_find_26 rfl ?_
            refine ja_aload_n K 0 dX1_find_28 rfl ?_
            refine ja_get K hu9 0 rfl rfl 1 (by decide) (List.mem_cons_of_mem _ kfX1_42) rfl (congrArg (fun z9 => some (Value.int z9)) rN) dX1_find_29 ?_
            refine ja_icmp_ge K (tgt := 118) ((jN S) ≤ c0) dX1_find_32 (by decide) (nI_leI (by omega) (by omega)) (fun h32 => ?_) (fun h32 => ?_)
            · refine ja_iinc K (lv1 := [(0, .ref (q 0)), (1, .int (z)), (2, .int (nI ((jpT S t ++ jpP S t p0 ++ jpC S p0 c0).length))), (3, .int (nI (t))), (4, .int (nI ((p0 + 1)))), (5, .int (nI (c0)))]) 4 (nI ((p0 + 1))) dX1_find_118 rfl (ja_inc _) (by decide) rfl rfl ?_
              refine ja_goto K (tgt := 14) dX1_find_121 (by decide) ?_
              refine ja_locals (lv1 := [(0, .ref (q 0)), (1, .int (z)), (2, .int (nI ((jpT S t ++ jpP S t p0 ++ jpC S p0 c0).length))), (3, .int (nI (t))), (4, .int (nI ((p0 + 1))))]) [0, 1, 2, 3, 4] rfl ?_
              have e90 : jpT S t ++ jpP S t (p0 + 1) = (jpT S t ++ jpP S t p0 ++ jpC S p0 c0) := by
                by_cases q1 : jT S p0 = t
                · rw [jpP_t q1, show c0 = jN S by omega, List.append_assoc]
                · rw [jpP_f q1, hI26.2.2.2.2 q1]; exact (List.append_nil _).symm
              have k9 := IH14 (p0 + 1) v2 ⟨by omega, hI26.2.1, hI26.2.2.1, by rw [e90]; exact hI26.2.2.2.1⟩ (by omega)
              rw [e90] at k9
              exact k9
            · have tq := wt p0 (by omega)
              refine ja_aload_n K 0 dX1_find_35 rfl ?_
              refine ja_get K hu9 0 rfl rfl 2 (by decide) (List.mem_cons_of_mem _ kfX1_7) rfl rfl dX1_find_36 ?_
              refine ja_iload K 4 dX1_find_39 rfl ?_
              refine ja_iald K (v := nI ((jT S (p0)))) 1 0 rfl rfl (p0) rfl (by omega) (by decide) (rT _ (by omega)) dX1_find_41 ?_
              refine ja_iload_n K 3 dX1_find_42 rfl ?_
              refine ja_icmp_ne K (tgt := 118) (¬ (jT S (p0)) = t) dX1_find_43 (by decide) (not_congr (nI_eq (by omega) (by omega))) (fun h43 => ?_) (fun h43 => ?_)
              · refine ja_iinc K (lv1 := [(0, .ref (q 0)), (1, .int (z)), (2, .int (nI ((jpT S t ++ jpP S t p0 ++ jpC S p0 c0).length))), (3, .int (nI (t))), (4, .int (nI ((p0 + 1)))), (5, .int (nI (c0)))]) 4 (nI ((p0 + 1))) dX1_find_118 rfl (ja_inc _) (by decide) rfl rfl ?_
                refine ja_goto K (tgt := 14) dX1_find_121 (by decide) ?_
                refine ja_locals (lv1 := [(0, .ref (q 0)), (1, .int (z)), (2, .int (nI ((jpT S t ++ jpP S t p0 ++ jpC S p0 c0).length))), (3, .int (nI (t))), (4, .int (nI ((p0 + 1))))]) [0, 1, 2, 3, 4] rfl ?_
                have e90 : jpT S t ++ jpP S t (p0 + 1) = (jpT S t ++ jpP S t p0 ++ jpC S p0 c0) := by
                  by_cases q1 : jT S p0 = t
                  · rw [jpP_t q1, show c0 = jN S by exact absurd q1 h43, List.append_assoc]
                  · rw [jpP_f q1, hI26.2.2.2.2 q1]; exact (List.append_nil _).symm
                have k9 := IH14 (p0 + 1) v2 ⟨by omega, hI26.2.1, hI26.2.2.1, by rw [e90]; exact hI26.2.2.2.1⟩ (by omega)
                rw [e90] at k9
                exact k9
              · replace h43 := Classical.not_not.mp h43
                refine ja_iconst K (nI 0) dX1_find_46 (by decide) ?_
                refine ja_istore K (lv1 := [(0, .ref (q 0)), (1, .int (z)), (2, .int (nI ((jpT S t ++ jpP S t p0 ++ jpC S p0 c0).length))), (3, .int (nI (t))), (4, .int (nI (p0))), (5, .int (nI (c0))), (6, .int (nI 0))]) dX1_find_47 (by decide) rfl rfl ?_
                have L49 : ∀ (x : Nat) (v3 : JM), (x ≤ 60 ∧ jmR1 S v3 ∧ jmF v3 = jmF u ∧ jfd S z v3 (jpT S t ++ jpP S t p0 ++ jpC S p0 c0 ++ jpX S p0 c0 x)) → jaW p l e R s m args below meth c 0 0 Q D vwCl A 7 (jmc q cI cZ v3) [(0, .ref (q 0)), (1, .int (z)), (2, .int (nI ((jpT S t ++ jpP S t p0 ++ jpC S p0 c0 ++ jpX S p0 c0 x).length))), (3, .int (nI (t))), (4, .int (nI (p0))), (5, .int (nI (c0))), (6, .int (nI (x)))] 49 [] := by
                  refine jl_2 (fun (x : Nat) (v3 : JM) => 60 - x) (fun (x : Nat) (v3 : JM) => x ≤ 60 ∧ jmR1 S v3 ∧ jmF v3 = jmF u ∧ jfd S z v3 (jpT S t ++ jpP S t p0 ++ jpC S p0 c0 ++ jpX S p0 c0 x)) _ ?_
                  intro x v3 hI49 IH49
                  obtain ⟨rN, rT, rM, rU, rK, rP, rA, rL, rB⟩ := id hI49.2.1
                  refine ja_iload K 6 dX1_find_49 rfl ?_
                  refine ja_bipush K (nI 60) dX1_find_51 (by decide) ?_
                  refine ja_icmp_ge K (tgt := 112) (60 ≤ x) dX1_find_53 (by decide) (nI_leI (by omega) (by omega)) (fun h53 => ?_) (fun h53 => ?_)
                  · refine ja_iinc K (lv1 := [(0, .ref (q 0)), (1, .int (z)), (2, .int (nI ((jpT S t ++ jpP S t p0 ++ jpC S p0 c0 ++ jpX S p0 c0 x).length))), (3, .int (nI (t))), (4, .int (nI (p0))), (5, .int (nI ((c0 + 1)))), (6, .int (nI (x)))]) 5 (nI ((c0 + 1))) dX1_find_112 rfl (ja_inc _) (by decide) rfl rfl ?_
                    refine ja_goto K (tgt := 26) dX1_find_115 (by decide) ?_
                    refine ja_locals (lv1 := [(0, .ref (q 0)), (1, .int (z)), (2, .int (nI ((jpT S t ++ jpP S t p0 ++ jpC S p0 c0 ++ jpX S p0 c0 x).length))), (3, .int (nI (t))), (4, .int (nI (p0))), (5, .int (nI ((c0 + 1))))]) [0, 1, 2, 3, 4, 5] rfl ?_
                    have e90 : (jpT S t ++ jpP S t p0) ++ jpC S p0 (c0 + 1) = (jpT S t ++ jpP S t p0 ++ jpC S p0 c0 ++ jpX S p0 c0 x) := by rw [jpC_s, show x = 60 by omega, ← List.append_assoc]
                    have k9 := IH26 (c0 + 1) v3 ⟨by omega, hI49.2.1, hI49.2.2.1, by rw [e90]; exact hI49.2.2.2, fun q1 => absurd h43 q1⟩ (by omega)
                    rw [e90] at k9
                    exact k9
                  · refine ja_aload_n K 0 dX1_find_56 rfl ?_
                    refine ja_iload K 5 dX1_find_57 rfl ?_
                    refine ja_iload K 6 dX1_find_59 rfl ?_
                    refine ja_callVI K (q0 := 0) (qc := (RX1, TX1, 16)) (st := []) [.int (nI (c0)), .int (nI (x))] (jd_up l D q cI cZ (v3) (c0) (x) (by omega) (by omega) (jU S (x) (c0)) (rU (x) (c0) (by omega) (by omega))) (cwV 2 K.1.2.2.2.2 (gX1_X1_up _) rfl rfl rfl (by decide +kernel) (by rw [hR9]; exact ⟨Nat.le_of_ble_eq_true rfl, Nat.le_of_ble_eq_true rfl⟩)) rfl rfl rfl rfl rfl (Nat.le_of_ble_eq_true rfl) dX1_find_61 (by rw [hR9]; exact ⟨Nat.le_of_ble_eq_true rfl, Nat.le_of_ble_eq_true rfl⟩) (fun r9 u9 h9 => ?_)
                    obtain ⟨rfl, rfl⟩ := h9
                    refine ja_iload K 4 dX1_find_64 rfl ?_
                    refine ja_icmp_ne K (tgt := 106) (¬ jU S (x) (c0) = some (p0)) dX1_find_66 (by decide) (not_congr (jeI_inj (o := jU S (x) (c0)) (o' := some (p0)) (fun p9 h9 => by have := (wu _ _ _ h9).2.1; omega) (fun p9 h9 => by cases h9; omega))) (fun h66 => ?_) (fun h66 => ?_)
                    · refine ja_iinc K (lv1 := [(0, .ref (q 0)), (1, .int (z)), (2, .int (nI ((jpT S t ++ jpP S t p0 ++ jpC S p0 c0 ++ jpX S p0 c0 x).length))), (3, .int (nI (t))), (4, .int (nI (p0))), (5, .int (nI (c0))), (6, .int (nI ((x + 1))))]) 6 (nI ((x + 1))) dX1_find_106 rfl (ja_inc _) (by decide) rfl rfl ?_
                      refine ja_goto K (tgt := 49) dX1_find_109 (by decide) ?_
                      have e90 : ((jpT S t ++ jpP S t p0 ++ jpC S p0 c0) ++ jpX S p0 c0 (x + 1)) = (jpT S t ++ jpP S t p0 ++ jpC S p0 c0 ++ jpX S p0 c0 x) := by rw [jpX_f1 h66]
                      have k9 := IH49 (x + 1) v3 ⟨by omega, hI49.2.1, hI49.2.2.1, by rw [e90]; exact hI49.2.2.2⟩ (by omega)
                      rw [e90] at k9
                      exact k9
                    · replace h66 := Classical.not_not.mp h66
                      refine ja_aload_n K 0 dX1_find_69 rfl ?_
                      refine ja_iload K 5 dX1_find_70 rfl ?_
                      refine ja_iload K 6 dX1_find_72 rfl ?_
                      refine ja_callVI K (q0 := 0) (qc := (RX1, TX1, 16)) (st := []) [.int (nI (c0)), .int (nI (x))] (jd_begins l D q cI cZ S (v3) hW9 hI49.2.1 (c0) (x) (by omega) (by omega)) (cwV 2 K.1.2.2.2.2 (gX1_X1_begins _) rfl rfl rfl (by decide +kernel) (by rw [hR9]; exact ⟨Nat.le_of_ble_eq_true rfl, Nat.le_of_ble_eq_true rfl⟩)) rfl rfl rfl rfl rfl (Nat.le_of_ble_eq_true rfl) dX1_find_74 (by rw [hR9]; exact ⟨Nat.le_of_ble_eq_true rfl, Nat.le_of_ble_eq_true rfl⟩) (fun r9 u9 h9 => ?_)
                      obtain ⟨rfl, rfl⟩ := h9
                      refine ja_if_eq K (tgt := 106) (jst (jU S) (x) (c0) = false) dX1_find_77 (by decide) (jbI_ne _) (fun h77 => ?_) (fun h77 => ?_)
                      · refine ja_iinc K (lv1 := [(0, .ref (q 0)), (1, .int (z)), (2, .int (nI ((jpT S t ++ jpP S t p0 ++ jpC S p0 c0 ++ jpX S p0 c0 x).length))), (3, .int (nI (t))), (4, .int (nI (p0))), (5, .int (nI (c0))), (6, .int (nI ((x + 1))))]) 6 (nI ((x + 1))) dX1_find_106 rfl (ja_inc _) (by decide) rfl rfl ?_
                        refine ja_goto K (tgt := 49) dX1_find_109 (by decide) ?_
                        have e90 : ((jpT S t ++ jpP S t p0 ++ jpC S p0 c0) ++ jpX S p0 c0 (x + 1)) = (jpT S t ++ jpP S t p0 ++ jpC S p0 c0 ++ jpX S p0 c0 x) := by rw [jpX_f2 h77]
                        have k9 := IH49 (x + 1) v3 ⟨by omega, hI49.2.1, hI49.2.2.1, by rw [e90]; exact hI49.2.2.2⟩ (by omega)
                        rw [e90] at k9
                        exact k9
                      · have g77 := eq_true_of_ne_false h77
                        have bpre := jpre_le hW9 (t := t) (p := p0) (c := c0) (x := x) (by omega) (by omega) (by omega) (by omega) h43 h66 g77
                        refine ja_iload_n K 2 dX1_find_80 rfl ?_
                        refine ja_iload_n K 1 dX1_find_81 rfl ?_
                        refine ja_icmp_ne K (tgt := 103) (¬ nI ((jpT S t ++ jpP S t p0 ++ jpC S p0 c0 ++ jpX S p0 c0 x).length) = z) dX1_find_82 (by decide) Iff.rfl (fun h82 => ?_) (fun h82 => ?_)
                        · refine ja_iinc K (lv1 := [(0, .ref (q 0)), (1, .int (z)), (2, .int (nI (((jpT S t ++ jpP S t p0 ++ jpC S p0 c0 ++ jpX S p0 c0 x).length + 1)))), (3, .int (nI (t))), (4, .int (nI (p0))), (5, .int (nI (c0))), (6, .int (nI (x)))]) 2 (nI (((jpT S t ++ jpP S t p0 ++ jpC S p0 c0 ++ jpX S p0 c0 x).length + 1))) dX1_find_103 rfl (ja_inc _) (by decide) rfl rfl ?_
                          refine ja_iinc K (lv1 := [(0, .ref (q 0)), (1, .int (z)), (2, .int (nI (((jpT S t ++ jpP S t p0 ++ jpC S p0 c0 ++ jpX S p0 c0 x).length + 1)))), (3, .int (nI (t))), (4, .int (nI (p0))), (5, .int (nI (c0))), (6, .int (nI ((x + 1))))]) 6 (nI ((x + 1))) dX1_find_106 rfl (ja_inc _) (by decide) rfl rfl ?_
                          refine ja_goto K (tgt := 49) dX1_find_109 (by decide) ?_
                          have e90 : ((jpT S t ++ jpP S t p0 ++ jpC S p0 c0) ++ jpX S p0 c0 (x + 1)) = (jpT S t ++ jpP S t p0 ++ jpC S p0 c0 ++ jpX S p0 c0 x) ++ [(x, c0)] := by rw [jpX_t h66 g77, ← List.append_assoc]
                          have k9 := IH49 (x + 1) v3 ⟨by omega, hI49.2.1, hI49.2.2.1, by rw [e90]; exact jfd_skip hI49.2.2.2 h82⟩ (by omega)
                          rw [e90, List.length_append] at k9
                          exact k9
                        · replace h82 := Classical.not_not.mp h82
                          refine ja_aload_n K 0 dX1_find_85 rfl ?_
                          refine ja_iload K 6 dX1_find_86 rfl ?_
                          refine ja_put K (ws1 := jmc q cI cZ (jms1 (v3) (nI (x)))) hu9 0 rfl rfl 12 (by decide) (List.mem_cons_of_mem _ kfX1_85) rfl tyX1 tyX1_ok nmX1 rfl rfl rfl rfl (Nat.le_of_ble_eq_true rfl) dX1_find_88 rfl ?_
                          refine ja_aload_n K 0 dX1_find_91 rfl ?_
                          refine ja_iload K 4 dX1_find_92 rfl ?_
                          refine ja_put K (ws1 := jmc q cI cZ (jms3 (jms1 (v3) (nI (x))) (nI (p0)))) hu9 0 rfl rfl 14 (by decide) (List.mem_cons_of_mem _ kfX1_88) rfl tyX1 tyX1_ok nmX1 rfl rfl rfl rfl (Nat.le_of_ble_eq_true rfl) dX1_find_94 rfl ?_
                          refine ja_aload_n K 0 dX1_find_97 rfl ?_
                          refine ja_iload K 5 dX1_find_98 rfl ?_
                          refine ja_put K (ws1 := jmc q cI cZ (jms4 (jms3 (jms1 (v3) (nI (x))) (nI (p0))) (nI (c0)))) hu9 0 rfl rfl 15 (by decide) (List.mem_cons_of_mem _ kfX1_91) rfl tyX1 tyX1_ok nmX1 rfl rfl rfl rfl (Nat.le_of_ble_eq_true rfl) dX1_find_100 rfl ?_
                          refine ja_iinc K (lv1 := [(0, .ref (q 0)), (1, .int (z)), (2, .int (nI (((jpT S t ++ jpP S t p0 ++ jpC S p0 c0 ++ jpX S p0 c0 x).length + 1)))), (3, .int (nI (t))), (4, .int (nI (p0))), (5, .int (nI (c0))), (6, .int (nI (x)))]) 2 (nI (((jpT S t ++ jpP S t p0 ++ jpC S p0 c0 ++ jpX S p0 c0 x).length + 1))) dX1_find_103 rfl (ja_inc _) (by decide) rfl rfl ?_
                          refine ja_iinc K (lv1 := [(0, .ref (q 0)), (1, .int (z)), (2, .int (nI (((jpT S t ++ jpP S t p0 ++ jpC S p0 c0 ++ jpX S p0 c0 x).length + 1)))), (3, .int (nI (t))), (4, .int (nI (p0))), (5, .int (nI (c0))), (6, .int (nI ((x + 1))))]) 6 (nI ((x + 1))) dX1_find_106 rfl (ja_inc _) (by decide) rfl rfl ?_
                          refine ja_goto K (tgt := 49) dX1_find_109 (by decide) ?_
                          have e90 : ((jpT S t ++ jpP S t p0 ++ jpC S p0 c0) ++ jpX S p0 c0 (x + 1)) = (jpT S t ++ jpP S t p0 ++ jpC S p0 c0 ++ jpX S p0 c0 x) ++ [(x, c0)] := by rw [jpX_t h66 g77, ← List.append_assoc]
                          have k9 := IH49 (x + 1) (jms4 (jms3 (jms1 v3 (nI x)) (nI p0)) (nI c0)) ⟨by omega, hI49.2.1, hI49.2.2.1, by rw [e90]; exact jfd_hit bpre h82 h66⟩ (by omega)
                          rw [e90, List.length_append] at k9
                          exact k9
                have e91 : (jpT S t ++ jpP S t p0 ++ jpC S p0 c0) ++ jpX S p0 c0 0 = (jpT S t ++ jpP S t p0 ++ jpC S p0 c0) := List.append_nil _
                have k9 := L49 0 v2 ⟨Nat.zero_le _, hI26.2.1, hI26.2.2.1, by rw [e91]; exact hI26.2.2.2.1⟩
                rw [e91] at k9
                exact k9
          have e91 : (jpT S t ++ jpP S t p0) ++ jpC S p0 0 = (jpT S t ++ jpP S t p0) := List.append_nil _
          have k9 := L26 0 v1 ⟨Nat.zero_le _, hI14.2.1, hI14.2.2.1, by rw [e91]; exact hI14.2.2.2, fun _ => rfl⟩
          rw [e91] at k9
          exact k9
      have e91 : jpT S t ++ jpP S t 0 = (jpT S t) := List.append_nil _
      have k9 := L14 0 v ⟨Nat.zero_le _, hI4.2.1, hI4.2.2.1, by rw [e91]; exact hI4.2.2.2⟩
      rw [e91] at k9
      exact k9
  exact L4 0 u ⟨Nat.zero_le _, hS9, rfl, jfd_0 S z u⟩
