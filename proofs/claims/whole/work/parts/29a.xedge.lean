set_option maxRecDepth 100000 in
set_option maxHeartbeats 4000000 in
theorem jc_findEdge (l : Launch) (D : va_G) (q : Nat → Nat) (cI cZ : ClassId) (S : JS) (u : JX) (hW9 : jWf S) (hS9 : jxR1 S u) (z : Int32) : jkI l yX0_findEdge wsX0_findEdge ({ frames := 2, cells := 0, slots := 0, locals := 45 }) D vwCl (jxt cI cZ) (jxc q cI cZ) [.ref (q 0), .int z] (jxc q cI cZ u) (fun r u1 => jeI (jgn S z) = r ∧ u = u1) := by
  refine jkI_of (cc := cX0_findEdge) (maxL := 7) (ret := (some .int)) (by decide) rfl (Nat.le_of_ble_eq_true rfl) ?_
  intro p e R s m args below meth c Q A K hn9 hR9 hQ9
  obtain ⟨rN, rT, rM, rU, rK, rP, rA, rL, rB⟩ := id hS9
  obtain ⟨wn, wt, wu, wk, wp, wl, wb⟩ := id hW9
  have hu9 : ∀ w ∈ u_ws RX0 TX0 13, w ∈ wsX0_findEdge := fun w h => List.mem_cons_of_mem _ (ku_X0 w h)
  show jaW p l e R s m args below meth c 0 0 Q D vwCl A 7 (jxc q cI cZ u) [(0, .ref (q 0)), (1, .int (z))] 0 []
  refine ja_iconst K (nI 0) dX0_findEdge_0 (by decide) ?_
  refine ja_istore_n K (lv1 := [(0, .ref (q 0)), (1, .int (z)), (2, .int (nI 0))]) dX0_findEdge_1 (by decide) rfl rfl ?_
  refine ja_aload_n K 0 dX0_findEdge_2 rfl ?_
  refine ja_iconst K (-1) dX0_findEdge_3 (by decide) ?_
  refine ja_callVI K (q0 := 0) (qc := (RX0, TX0, 13)) (st := []) [.int (-1)] (jc_nextByTime l D q cI cZ S (u) hW9 hS9 (none) (by intro y h; first | (cases h; done) | (cases h; omega) | omega)) (cwV 1 K.1.2.2.2.2 (gX0_X0_nextByTime _) rfl rfl rfl (by decide +kernel) (by rw [hR9]; exact ⟨Nat.le_of_ble_eq_true rfl, Nat.le_of_ble_eq_true rfl⟩)) rfl rfl rfl rfl rfl (Nat.le_of_ble_eq_true rfl) dX0_findEdge_4 (by rw [hR9]; exact ⟨Nat.le_of_ble_eq_true rfl, Nat.le_of_ble_eq_true rfl⟩) (fun r9 u9 h9 => ?_)
  obtain ⟨rfl, rfl⟩ := h9
  refine ja_istore_n K (lv1 := [(0, .ref (q 0)), (1, .int (z)), (2, .int (nI 0)), (3, .int (jeI (jnx (jT S) (none) (jN S))))]) dX0_findEdge_7 (by decide) rfl rfl ?_
  refine ja_iconst K (nI 0) dX0_findEdge_8 (by decide) ?_
  refine ja_istore K (lv1 := [(0, .ref (q 0)), (1, .int (z)), (2, .int (nI 0)), (3, .int (jeI (jnx (jT S) (none) (jN S)))), (4, .int (nI 0))]) dX0_findEdge_9 (by decide) rfl rfl ?_
  have L11 : ∀ (k : Nat) (d0 : Nat) (o : Option Nat) (pre : List (Nat × Nat)), (k + d0 = 14 ∧ (∀ y, o = some y → y < jN S) ∧ jes S = pre ++ jeR (jN S) (jT S) (jU S) d0 o ∧ ∀ j, j < pre.length → ¬ nI j = z) → jaW p l e R s m args below meth c 0 0 Q D vwCl A 7 (jxc q cI cZ u) [(0, .ref (q 0)), (1, .int (z)), (2, .int (nI (pre.length))), (3, .int (jeI (o))), (4, .int (nI (k)))] 11 [] := by
    refine jl_4 (fun (k : Nat) (d0 : Nat) (o : Option Nat) (pre : List (Nat × Nat)) => d0) (fun (k : Nat) (d0 : Nat) (o : Option Nat) (pre : List (Nat × Nat)) => k + d0 = 14 ∧ (∀ y, o = some y → y < jN S) ∧ jes S = pre ++ jeR (jN S) (jT S) (jU S) d0 o ∧ ∀ j, j < pre.length → ¬ nI j = z) _ ?_
    intro k d0 o pre hI11 IH11
    refine ja_iload K 4 dX0_findEdge_11 rfl ?_
    refine ja_bipush K (nI 14) dX0_findEdge_13 (by decide) ?_
    refine ja_icmp_ge K (tgt := 109) (14 ≤ k) dX0_findEdge_15 (by decide) (nI_leI (by omega) (by omega)) (fun h15 => ?_) (fun h15 => ?_)
    · obtain rfl : d0 = 0 := by omega
      refine ja_iconst K (-1) dX0_findEdge_109 (by decide) ?_
      exact ja_iret K (u) rfl (Nat.zero_le _) (Nat.zero_le _) dX0_findEdge_110 hQ9 rfl ⟨by rw [jgn, jge_none hW9 (fun j h => hI11.2.2.2 j (by rw [hI11.2.2.1] at h; simpa [jeR] using h))]; rfl, rfl⟩
    · obtain ⟨d, rfl⟩ : ∃ d1, d0 = d1 + 1 := ⟨d0 - 1, by omega⟩
      refine ja_iload_n K 3 dX0_findEdge_18 rfl ?_
      refine ja_iconst K (-1) dX0_findEdge_19 (by decide) ?_
      refine ja_icmp_eq K (tgt := 109) (o = none) dX0_findEdge_20 (by decide) (jeI_m1 (o := o) (fun p9 h9 => by have := hI11.2.1 p9 h9; omega)) (fun h20 => ?_) (fun h20 => ?_)
      · subst h20
        refine ja_iconst K (-1) dX0_findEdge_109 (by decide) ?_
        exact ja_iret K (u) rfl (Nat.zero_le _) (Nat.zero_le _) dX0_findEdge_110 hQ9 rfl ⟨by rw [jgn, jge_none hW9 (fun j h => hI11.2.2.2 j (by rw [hI11.2.2.1] at h; simpa [jeR] using h))]; rfl, rfl⟩
      · obtain ⟨y20, rfl⟩ := Option.ne_none_iff_exists'.mp h20
        have by20 := hI11.2.1 y20 rfl
        refine ja_iconst K (nI 0) dX0_findEdge_23 (by decide) ?_
        refine ja_istore K (lv1 := [(0, .ref (q 0)), (1, .int (z)), (2, .int (nI (pre.length))), (3, .int (nI (y20))), (4, .int (nI (k))), (5, .int (nI 0))]) dX0_findEdge_24 (by decide) rfl rfl ?_
        have L26 : ∀ (c0 : Nat), (c0 ≤ jN S ∧ ∀ j, j < (pre ++ jfl (fun c1 => jfl (fun x1 => jeX (jU S) y20 c1 x1) 60) c0).length → ¬ nI j = z) → jaW p l e R s m args below meth c 0 0 Q D vwCl A 7 (jxc q cI cZ u) [(0, .ref (q 0)), (1, .int (z)), (2, .int (nI ((pre ++ jfl (fun c1 => jfl (fun x1 => jeX (jU S) y20 c1 x1) 60) c0).length))), (3, .int (nI (y20))), (4, .int (nI (k))), (5, .int (nI (c0)))] 26 [] := by
          refine jl_1 (fun (c0 : Nat) => jN S - c0) (fun (c0 : Nat) => c0 ≤ jN S ∧ ∀ j, j < (pre ++ jfl (fun c1 => jfl (fun x1 => jeX (jU S) y20 c1 x1) 60) c0).length → ¬ nI j = z) _ ?_
          intro c0 hI26 IH26
          refine ja_iload K 5 dX0_findEdge_26 rfl ?_
          refine ja_aload_n K 0 dX0_findEdge_28 rfl ?_
          refine ja_get K hu9 0 rfl rfl 0 (by decide) (List.mem_cons_of_mem _ kfX0_7) rfl (congrArg (fun z9 => some (Value.int z9)) rN) dX0_findEdge_29 ?_
          refine ja_icmp_ge K (tgt := 97) ((jN S) ≤ c0) dX0_findEdge_32 (by decide) (nI_leI (by omega) (by omega)) (fun h32 => ?_) (fun h32 => ?_)
          · refine ja_aload_n K 0 dX0_findEdge_97 rfl ?_
            refine ja_iload_n K 3 dX0_findEdge_98 rfl ?_
            refine ja_callVI K (q0 := 0) (qc := (RX0, TX0, 13)) (st := []) [.int (nI (y20))] (jc_nextByTime l D q cI cZ S (u) hW9 hS9 (some (y20)) (by intro y h; first | (cases h; done) | (cases h; omega) | omega)) (cwV 1 K.1.2.2.2.2 (gX0_X0_nextByTime _) rfl rfl rfl (by decide +kernel) (by rw [hR9]; exact ⟨Nat.le_of_ble_eq_true rfl, Nat.le_of_ble_eq_true rfl⟩)) rfl rfl rfl rfl rfl (Nat.le_of_ble_eq_true rfl) dX0_findEdge_99 (by rw [hR9]; exact ⟨Nat.le_of_ble_eq_true rfl, Nat.le_of_ble_eq_true rfl⟩) (fun r9 u9 h9 => ?_)
            obtain ⟨rfl, rfl⟩ := h9
            refine ja_istore_n K (lv1 := [(0, .ref (q 0)), (1, .int (z)), (2, .int (nI ((pre ++ jfl (fun c1 => jfl (fun x1 => jeX (jU S) y20 c1 x1) 60) c0).length))), (3, .int (jeI (jnx (jT S) (some (y20)) (jN S)))), (4, .int (nI (k))), (5, .int (nI (c0)))]) dX0_findEdge_102 (by decide) rfl rfl ?_
            refine ja_iinc K (lv1 := [(0, .ref (q 0)), (1, .int (z)), (2, .int (nI ((pre ++ jfl (fun c1 => jfl (fun x1 => jeX (jU S) y20 c1 x1) 60) c0).length))), (3, .int (jeI (jnx (jT S) (some (y20)) (jN S)))), (4, .int (nI ((k + 1)))), (5, .int (nI (c0)))]) 4 (nI ((k + 1))) dX0_findEdge_103 rfl (ja_inc _) (by decide) rfl rfl ?_
            refine ja_goto K (tgt := 11) dX0_findEdge_106 (by decide) ?_
            refine ja_locals (lv1 := [(0, .ref (q 0)), (1, .int (z)), (2, .int (nI ((pre ++ jfl (fun c1 => jfl (fun x1 => jeX (jU S) y20 c1 x1) 60) c0).length))), (3, .int (jeI (jnx (jT S) (some (y20)) (jN S)))), (4, .int (nI ((k + 1))))]) [0, 1, 2, 3, 4] rfl ?_
            exact IH11 (k + 1) d (jnx (jT S) (some y20) (jN S)) (pre ++ jfl (fun c1 => jfl (fun x1 => jeX (jU S) y20 c1 x1) 60) c0) ⟨by omega, fun y h => ((jnx_spec (jT S) _ (jN S)).1 y h).1, by rw [hI11.2.2.1, show c0 = jN S by omega]; simp [jeR, jeP], hI26.2⟩ (by omega)
          · refine ja_iconst K (nI 0) dX0_findEdge_35 (by decide) ?_
            refine ja_istore K (lv1 := [(0, .ref (q 0)), (1, .int (z)), (2, .int (nI ((pre ++ jfl (fun c1 => jfl (fun x1 => jeX (jU S) y20 c1 x1) 60) c0).length))), (3, .int (nI (y20))), (4, .int (nI (k))), (5, .int (nI (c0))), (6, .int (nI 0))]) dX0_findEdge_36 (by decide) rfl rfl ?_
            have L38 : ∀ (x : Nat), (x ≤ 60 ∧ ∀ j, j < (pre ++ jfl (fun c1 => jfl (fun x1 => jeX (jU S) y20 c1 x1) 60) c0 ++ jfl (fun x1 => jeX (jU S) y20 c0 x1) x).length → ¬ nI j = z) → jaW p l e R s m args below meth c 0 0 Q D vwCl A 7 (jxc q cI cZ u) [(0, .ref (q 0)), (1, .int (z)), (2, .int (nI ((pre ++ jfl (fun c1 => jfl (fun x1 => jeX (jU S) y20 c1 x1) 60) c0 ++ jfl (fun x1 => jeX (jU S) y20 c0 x1) x).length))), (3, .int (nI (y20))), (4, .int (nI (k))), (5, .int (nI (c0))), (6, .int (nI (x)))] 38 [] := by
              refine jl_1 (fun (x : Nat) => 60 - x) (fun (x : Nat) => x ≤ 60 ∧ ∀ j, j < (pre ++ jfl (fun c1 => jfl (fun x1 => jeX (jU S) y20 c1 x1) 60) c0 ++ jfl (fun x1 => jeX (jU S) y20 c0 x1) x).length → ¬ nI j = z) _ ?_
              intro x hI38 IH38
              refine ja_iload K 6 dX0_findEdge_38 rfl ?_
              refine ja_bipush K (nI 60) dX0_findEdge_40 (by decide) ?_
              refine ja_icmp_ge K (tgt := 91) (60 ≤ x) dX0_findEdge_42 (by decide) (nI_leI (by omega) (by omega)) (fun h42 => ?_) (fun h42 => ?_)
              · refine ja_iinc K (lv1 := [(0, .ref (q 0)), (1, .int (z)), (2, .int (nI ((pre ++ jfl (fun c1 => jfl (fun x1 => jeX (jU S) y20 c1 x1) 60) c0 ++ jfl (fun x1 => jeX (jU S) y20 c0 x1) x).length))), (3, .int (nI (y20))), (4, .int (nI (k))), (5, .int (nI ((c0 + 1)))), (6, .int (nI (x)))]) 5 (nI ((c0 + 1))) dX0_findEdge_91 rfl (ja_inc _) (by decide) rfl rfl ?_
                refine ja_goto K (tgt := 26) dX0_findEdge_94 (by decide) ?_
                refine ja_locals (lv1 := [(0, .ref (q 0)), (1, .int (z)), (2, .int (nI ((pre ++ jfl (fun c1 => jfl (fun x1 => jeX (jU S) y20 c1 x1) 60) c0 ++ jfl (fun x1 => jeX (jU S) y20 c0 x1) x).length))), (3, .int (nI (y20))), (4, .int (nI (k))), (5, .int (nI ((c0 + 1))))]) [0, 1, 2, 3, 4, 5] rfl ?_
                have e90 : (pre ++ jfl (fun c1 => jfl (fun x1 => jeX (jU S) y20 c1 x1) 60) (c0 + 1)).length = (pre ++ jfl (fun c1 => jfl (fun x1 => jeX (jU S) y20 c1 x1) 60) c0 ++ jfl (fun x1 => jeX (jU S) y20 c0 x1) x).length := by rw [show x = 60 by omega]; simp [jfl]; try omega
                have k9 := IH26 (c0 + 1) ⟨by omega, fun j h => hI38.2 j (by rw [e90] at h; exact h)⟩ (by omega)
                rw [e90] at k9
                exact k9
              · refine ja_aload_n K 0 dX0_findEdge_45 rfl ?_
                refine ja_iload K 6 dX0_findEdge_46 rfl ?_
                refine ja_iload K 5 dX0_findEdge_48 rfl ?_
                refine ja_callVI K (q0 := 0) (qc := (RX0, TX0, 13)) (st := []) [.int (nI (x)), .int (nI (c0))] (jc_parentAt l D q cI cZ (u) (x) (c0) (by omega) (by omega) (jU S (x) (c0)) (rU _ _ (by omega) (by omega))) (cwV 2 K.1.2.2.2.2 (gX0_X0_parentAt _) rfl rfl rfl (by decide +kernel) (by rw [hR9]; exact ⟨Nat.le_of_ble_eq_true rfl, Nat.le_of_ble_eq_true rfl⟩)) rfl rfl rfl rfl rfl (Nat.le_of_ble_eq_true rfl) dX0_findEdge_50 (by rw [hR9]; exact ⟨Nat.le_of_ble_eq_true rfl, Nat.le_of_ble_eq_true rfl⟩) (fun r9 u9 h9 => ?_)
                obtain ⟨rfl, rfl⟩ := h9
                refine ja_iload_n K 3 dX0_findEdge_53 rfl ?_
                refine ja_icmp_ne K (tgt := 85) (¬ jU S (x) (c0) = some (y20)) dX0_findEdge_54 (by decide) (not_congr (jeI_inj (o := jU S (x) (c0)) (o' := some (y20)) (fun p9 h9 => by have := (wu _ _ _ h9).2.1; omega) (fun p9 h9 => by cases h9; omega))) (fun h54 => ?_) (fun h54 => ?_)
                · refine ja_iinc K (lv1 := [(0, .ref (q 0)), (1, .int (z)), (2, .int (nI ((pre ++ jfl (fun c1 => jfl (fun x1 => jeX (jU S) y20 c1 x1) 60) c0 ++ jfl (fun x1 => jeX (jU S) y20 c0 x1) x).length))), (3, .int (nI (y20))), (4, .int (nI (k))), (5, .int (nI (c0))), (6, .int (nI ((x + 1))))]) 6 (nI ((x + 1))) dX0_findEdge_85 rfl (ja_inc _) (by decide) rfl rfl ?_
                  refine ja_goto K (tgt := 38) dX0_findEdge_88 (by decide) ?_
                  have e90 : (pre ++ jfl (fun c1 => jfl (fun x1 => jeX (jU S) y20 c1 x1) 60) c0 ++ jfl (fun x1 => jeX (jU S) y20 c0 x1) (x + 1)).length = (pre ++ jfl (fun c1 => jfl (fun x1 => jeX (jU S) y20 c1 x1) 60) c0 ++ jfl (fun x1 => jeX (jU S) y20 c0 x1) x).length := by simp only [jfl]; rw [jeX_f1 h54]; simp
                  have k9 := IH38 (x + 1) ⟨by omega, fun j h => hI38.2 j (by rw [← e90]; exact h)⟩ (by omega)
                  rw [e90] at k9
                  exact k9
                · replace h54 := Classical.not_not.mp h54
                  refine ja_aload_n K 0 dX0_findEdge_57 rfl ?_
                  refine ja_iload K 6 dX0_findEdge_58 rfl ?_
                  refine ja_iload K 5 dX0_findEdge_60 rfl ?_
                  refine ja_callVI K (q0 := 0) (qc := (RX0, TX0, 13)) (st := []) [.int (nI (x)), .int (nI (c0))] (jc_startsEdge l D q cI cZ S (u) hW9 hS9 (x) (c0) (by omega) (by omega)) (cwV 2 K.1.2.2.2.2 (gX0_X0_startsEdge _) rfl rfl rfl (by decide +kernel) (by rw [hR9]; exact ⟨Nat.le_of_ble_eq_true rfl, Nat.le_of_ble_eq_true rfl⟩)) rfl rfl rfl rfl rfl (Nat.le_of_ble_eq_true rfl) dX0_findEdge_62 (by rw [hR9]; exact ⟨Nat.le_of_ble_eq_true rfl, Nat.le_of_ble_eq_true rfl⟩) (fun r9 u9 h9 => ?_)
                  obtain ⟨rfl, rfl⟩ := h9
                  refine ja_if_eq K (tgt := 85) (jst (jU S) (x) (c0) = false) dX0_findEdge_65 (by decide) (jbI_ne _) (fun h65 => ?_) (fun h65 => ?_)
                  · refine ja_iinc K (lv1 := [(0, .ref (q 0)), (1, .int (z)), (2, .int (nI ((pre ++ jfl (fun c1 => jfl (fun x1 => jeX (jU S) y20 c1 x1) 60) c0 ++ jfl (fun x1 => jeX (jU S) y20 c0 x1) x).length))), (3, .int (nI (y20))), (4, .int (nI (k))), (5, .int (nI (c0))), (6, .int (nI ((x + 1))))]) 6 (nI ((x + 1))) dX0_findEdge_85 rfl (ja_inc _) (by decide) rfl rfl ?_
                    refine ja_goto K (tgt := 38) dX0_findEdge_88 (by decide) ?_
                    have e90 : (pre ++ jfl (fun c1 => jfl (fun x1 => jeX (jU S) y20 c1 x1) 60) c0 ++ jfl (fun x1 => jeX (jU S) y20 c0 x1) (x + 1)).length = (pre ++ jfl (fun c1 => jfl (fun x1 => jeX (jU S) y20 c1 x1) 60) c0 ++ jfl (fun x1 => jeX (jU S) y20 c0 x1) x).length := by simp only [jfl]; rw [jeX_f2 h65]; simp
                    have k9 := IH38 (x + 1) ⟨by omega, fun j h => hI38.2 j (by rw [← e90]; exact h)⟩ (by omega)
                    rw [e90] at k9
                    exact k9
                  · replace h65 := eq_true_of_ne_false h65
                    refine ja_iload_n K 2 dX0_findEdge_68 rfl ?_
                    refine ja_iload_n K 1 dX0_findEdge_69 rfl ?_
                    refine ja_icmp_ne K (tgt := 82) (¬ nI ((pre ++ jfl (fun c1 => jfl (fun x1 => jeX (jU S) y20 c1 x1) 60) c0 ++ jfl (fun x1 => jeX (jU S) y20 c0 x1) x).length) = z) dX0_findEdge_70 (by decide) Iff.rfl (fun h70 => ?_) (fun h70 => ?_)
                    · refine ja_iinc K (lv1 := [(0, .ref (q 0)), (1, .int (z)), (2, .int (nI (((pre ++ jfl (fun c1 => jfl (fun x1 => jeX (jU S) y20 c1 x1) 60) c0 ++ jfl (fun x1 => jeX (jU S) y20 c0 x1) x).length + 1)))), (3, .int (nI (y20))), (4, .int (nI (k))), (5, .int (nI (c0))), (6, .int (nI (x)))]) 2 (nI (((pre ++ jfl (fun c1 => jfl (fun x1 => jeX (jU S) y20 c1 x1) 60) c0 ++ jfl (fun x1 => jeX (jU S) y20 c0 x1) x).length + 1))) dX0_findEdge_82 rfl (ja_inc _) (by decide) rfl rfl ?_
                      refine ja_iinc K (lv1 := [(0, .ref (q 0)), (1, .int (z)), (2, .int (nI (((pre ++ jfl (fun c1 => jfl (fun x1 => jeX (jU S) y20 c1 x1) 60) c0 ++ jfl (fun x1 => jeX (jU S) y20 c0 x1) x).length + 1)))), (3, .int (nI (y20))), (4, .int (nI (k))), (5, .int (nI (c0))), (6, .int (nI ((x + 1))))]) 6 (nI ((x + 1))) dX0_findEdge_85 rfl (ja_inc _) (by decide) rfl rfl ?_
                      refine ja_goto K (tgt := 38) dX0_findEdge_88 (by decide) ?_
                      have e90 : (pre ++ jfl (fun c1 => jfl (fun x1 => jeX (jU S) y20 c1 x1) 60) c0 ++ jfl (fun x1 => jeX (jU S) y20 c0 x1) (x + 1)).length = ((pre ++ jfl (fun c1 => jfl (fun x1 => jeX (jU S) y20 c1 x1) 60) c0 ++ jfl (fun x1 => jeX (jU S) y20 c0 x1) x).length + 1) := by simp only [jfl]; rw [jeX_t h54 h65]; simp; omega
                      have k9 := IH38 (x + 1) ⟨by omega, fun j h => (Nat.lt_succ_iff_lt_or_eq.mp (show j < (pre ++ jfl (fun c1 => jfl (fun x1 => jeX (jU S) y20 c1 x1) 60) c0 ++ jfl (fun x1 => jeX (jU S) y20 c0 x1) x).length + 1 by rw [← e90]; exact h)).elim (fun h => hI38.2 j h) (fun h => by rw [h]; exact h70)⟩ (by omega)
                      rw [e90] at k9
                      exact k9
                    · refine ja_iload K 6 dX0_findEdge_73 rfl ?_
                      refine ja_bipush K (nI 14) dX0_findEdge_75 (by decide) ?_
                      refine ja_imul K (nI ((x * 14))) dX0_findEdge_77 (pk_mul _ _) ?_
                      refine ja_iload K 5 dX0_findEdge_78 rfl ?_
                      refine ja_iadd K (nI (((x * 14) + c0))) dX0_findEdge_80 (nI_add _ _) ?_
                      exact ja_iret K (u) rfl (Nat.zero_le _) (Nat.zero_le _) dX0_findEdge_81 hQ9 rfl ⟨by obtain ⟨r1, e1⟩ := jed_here hI11.2.2.1 (c := c0) (x := x) (by omega) (by omega) h54 h65; rw [jgn, ← Classical.not_not.mp h70, jge_at hW9 e1]; rfl, rfl⟩
            have k9 := L38 0 ⟨Nat.zero_le _, fun j h => hI26.2 j (by simpa [jfl] using h)⟩
            rw [show (pre ++ jfl (fun c1 => jfl (fun x1 => jeX (jU S) y20 c1 x1) 60) c0 ++ jfl (fun x1 => jeX (jU S) y20 c0 x1) 0).length = (pre ++ jfl (fun c1 => jfl (fun x1 => jeX (jU S) y20 c1 x1) 60) c0).length by simp [jfl]] at k9
            exact k9
        have k9 := L26 0 ⟨Nat.zero_le _, fun j h => hI11.2.2.2 j (by simpa [jfl] using h)⟩
        rw [show (pre ++ jfl (fun c1 => jfl (fun x1 => jeX (jU S) y20 c1 x1) 60) 0).length = pre.length by simp [jfl]] at k9
        exact k9
  exact L11 0 14 (jnx (jT S) none (jN S)) [] ⟨rfl, fun y h => ((jnx_spec (jT S) _ (jN S)).1 y h).1, by rw [jes, ← jeR_eq wn wt]; rfl, fun j h => absurd h (Nat.not_lt_zero _)⟩
