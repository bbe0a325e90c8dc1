set_option maxRecDepth 100000 in
set_option maxHeartbeats 4000000 in
theorem jd_cut (l : Launch) (D : va_G) (q : Nat → Nat) (cI cZ : ClassId) (S : JS) (u : JM) (hW9 : jWf S) (hS9 : jmR1 S u) (z : Int32) : jkI l yX1_cut wsX1_cut ({ frames := 3, cells := 0, slots := 0, locals := 67 }) D vwCl (jxt cI cZ) (jmc q cI cZ) [.ref (q 0), .int z] (jmc q cI cZ u) (fun r u1 => jmF u1 = nI (jc1 (jcut S z).isSome) ∧ (∀ x0, jcut S z = some x0 → nI x0 = r) ∧ jmR1 S u1) := by
  refine jkI_of (cc := cX1_cut) (maxL := 5) (ret := (some .int)) (by decide) rfl (Nat.le_of_ble_eq_true rfl) ?_
  intro p e R s m args below meth c Q A K hn9 hR9 hQ9
  obtain ⟨rN, rT, rM, rU, rK, rP, rA, rL, rB⟩ := id hS9
  obtain ⟨wn, wt, wu, wk, wp, wl, wb⟩ := id hW9
  have hu9 : ∀ w ∈ u_ws RX1 TX1 16, w ∈ wsX1_cut := fun w h => List.mem_cons_of_mem _ (ku_X1 w h)
  show jaW p l e R s m args below meth c 0 0 Q D vwCl A 5 (jmc q cI cZ u) [(0, .ref (q 0)), (1, .int (z))] 0 []
  refine ja_aload_n K 0 dX1_cut_0 rfl ?_
  refine ja_callVI K (q0 := 0) (qc := (RX1, TX1, 16)) (st := []) [] (jd_trees l D q cI cZ S (u) hW9 hS9) (cwV 0 K.1.2.2.2.2 (gX1_X1_trees _) rfl rfl rfl (by decide +kernel) (by rw [hR9]; exact ⟨Nat.le_of_ble_eq_true rfl, Nat.le_of_ble_eq_true rfl⟩)) rfl rfl rfl rfl rfl (Nat.le_of_ble_eq_true rfl) dX1_cut_1 (by rw [hR9]; exact ⟨Nat.le_of_ble_eq_true rfl, Nat.le_of_ble_eq_true rfl⟩) (fun r9 u9 h9 => ?_)
  obtain ⟨rfl, hS8, hF8⟩ := h9
  obtain ⟨rN, rT, rM, rU, rK, rP, rA, rL, rB⟩ := id hS8
  refine ja_istore_n K (lv1 := [(0, .ref (q 0)), (1, .int (z)), (2, .int (nI ((jct (jsr S) 60))))]) dX1_cut_4 (by decide) rfl rfl ?_
  refine ja_aload_n K 0 dX1_cut_5 rfl ?_
  have b60 := jct_le (jsr S) 60
  refine ja_iload_n K 1 dX1_cut_6 rfl ?_
  refine ja_if_lt K (tgt := 15) (z < 0) dX1_cut_7 (by decide) Iff.rfl (fun h7 => ?_) (fun h7 => ?_)
  · have f7 : jcut S z = none := jcut_neg (fun k hk q => by rw [← q] at h7; exact nI_pos (by omega) h7)
    refine ja_iconst K (nI 1) dX1_cut_15 (by decide) ?_
    refine ja_goto K (tgt := 20) dX1_cut_16 (by decide) ?_
    refine ja_callVI K (q0 := 0) (qc := (RX1, TX1, 16)) (st := []) [.int (nI 1)] (jd_refused l D q cI cZ (u9) (1) (by omega)) (cwV 1 K.1.2.2.2.2 (gX1_X1_refused _) rfl rfl rfl (by decide +kernel) (by rw [hR9]; exact ⟨Nat.le_of_ble_eq_true rfl, Nat.le_of_ble_eq_true rfl⟩)) rfl rfl rfl rfl rfl (Nat.le_of_ble_eq_true rfl) dX1_cut_20 (by rw [hR9]; exact ⟨Nat.le_of_ble_eq_true rfl, Nat.le_of_ble_eq_true rfl⟩) (fun r9 u9 h9 => ?_)
    obtain ⟨rfl, rfl⟩ := h9
    refine ja_if_eq K (tgt := 28) (decide (0 < 1) = false) dX1_cut_23 (by decide) (jbI_ne _) (fun h23 => ?_) (fun h23 => ?_)
    · exact absurd h23 (by decide)
    · refine ja_iconst K (nI 0) dX1_cut_26 (by decide) ?_
      exact ja_iret K (jmsF (u9) (nI 1)) rfl (Nat.zero_le _) (Nat.zero_le _) dX1_cut_27 hQ9 rfl ⟨by rw [f7]; rfl, fun x0 h => (by rw [f7] at h; cases h), hS8⟩
  · refine ja_iload_n K 1 dX1_cut_10 rfl ?_
    refine ja_iload_n K 2 dX1_cut_11 rfl ?_
    refine ja_icmp_le K (tgt := 19) (z ≤ nI ((jct (jsr S) 60))) dX1_cut_12 (by decide) Iff.rfl (fun h12 => ?_) (fun h12 => ?_)
    · obtain ⟨i0, hi0, rfl⟩ := jin_of (n := jct (jsr S) 60 + 1) (jin_le h7 h12 (by omega)) (by omega)
      refine ja_iconst K (nI 0) dX1_cut_19 (by decide) ?_
      refine ja_callVI K (q0 := 0) (qc := (RX1, TX1, 16)) (st := []) [.int (nI 0)] (jd_refused l D q cI cZ (u9) (0) (by omega)) (cwV 1 K.1.2.2.2.2 (gX1_X1_refused _) rfl rfl rfl (by decide +kernel) (by rw [hR9]; exact ⟨Nat.le_of_ble_eq_true rfl, Nat.le_of_ble_eq_true rfl⟩)) rfl rfl rfl rfl rfl (Nat.le_of_ble_eq_true rfl) dX1_cut_20 (by rw [hR9]; exact ⟨Nat.le_of_ble_eq_true rfl, Nat.le_of_ble_eq_true rfl⟩) (fun r9 u9 h9 => ?_)
      obtain ⟨rfl, rfl⟩ := h9
      refine ja_if_eq K (tgt := 28) (decide (0 < 0) = false) dX1_cut_23 (by decide) (jbI_ne _) (fun h23 => ?_) (fun h23 => ?_)
      · refine ja_iconst K (nI 0) dX1_cut_28 (by decide) ?_
        refine ja_istore_n K (lv1 := [(0, .ref (q 0)), (1, .int (nI (i0))), (2, .int (nI ((jct (jsr S) 60)))), (3, .int (nI 0))]) dX1_cut_29 (by decide) rfl rfl ?_
        refine ja_iconst K (nI 0) dX1_cut_30 (by decide) ?_
        refine ja_istore K (lv1 := [(0, .ref (q 0)), (1, .int (nI (i0))), (2, .int (nI ((jct (jsr S) 60)))), (3, .int (nI 0)), (4, .int (nI 0))]) dX1_cut_31 (by decide) rfl rfl ?_
        have L33 : ∀ (x : Nat), (x ≤ 60 ∧ jrn S x ≤ i0 ∧ (jrn S x = i0 → x < 60 → jsr S x = true) ∧ jcf S (nI i0) (60 - x) x = jcut S (nI i0)) → jaW p l e R s m args below meth c 0 0 Q D vwCl A 5 (jmc q cI cZ (jmsF (u9) (nI 0))) [(0, .ref (q 0)), (1, .int (nI (i0))), (2, .int (nI ((jct (jsr S) 60)))), (3, .int (nI (x))), (4, .int (nI ((jrn S x))))] 33 [] := by
          refine jl_1 (fun (x : Nat) => 60 - x) (fun (x : Nat) => x ≤ 60 ∧ jrn S x ≤ i0 ∧ (jrn S x = i0 → x < 60 → jsr S x = true) ∧ jcf S (nI i0) (60 - x) x = jcut S (nI i0)) _ ?_
          intro x hI33 IH33
          refine ja_iload K 4 dX1_cut_33 rfl ?_
          refine ja_iload_n K 1 dX1_cut_35 rfl ?_
          refine ja_icmp_ge K (tgt := 70) (i0 ≤ (jrn S x)) dX1_cut_36 (by decide) (nI_leI (by omega) (by omega)) (fun h36 => ?_) (fun h36 => ?_)
          · refine ja_iload_n K 3 dX1_cut_70 rfl ?_
            exact ja_iret K (jmsF (u9) (nI 0)) rfl (Nat.zero_le _) (Nat.zero_le _) dX1_cut_71 hQ9 rfl ⟨by rw [← hI33.2.2.2, jcf_here hI33.1 (by omega) (fun q => hI33.2.2.1 (by omega) q)]; rfl, fun x0 h => by rw [← hI33.2.2.2, jcf_here hI33.1 (by omega) (fun q => hI33.2.2.1 (by omega) q)] at h; rw [Option.some.inj h], hS8⟩
          · have hx60 : x < 60 := by
              by_cases q1 : x = 60
              · subst q1; have : jrn S 60 = jct (jsr S) 60 := by simp [jrn]
                omega
              · omega
            have js := jrn_step (S := S) hx60
            refine ja_iinc K (lv1 := [(0, .ref (q 0)), (1, .int (nI (i0))), (2, .int (nI ((jct (jsr S) 60)))), (3, .int (nI ((x + 1)))), (4, .int (nI ((jrn S x))))]) 3 (nI ((x + 1))) dX1_cut_39 rfl (ja_inc _) (by decide) rfl rfl ?_
            refine ja_iload_n K 3 dX1_cut_42 rfl ?_
            refine ja_bipush K (nI 60) dX1_cut_43 (by decide) ?_
            refine ja_icmp_eq K (tgt := 56) ((x + 1) = 60) dX1_cut_45 (by decide) (nI_eq (by omega) (by omega)) (fun h45 => ?_) (fun h45 => ?_)
            · refine ja_iload K 4 dX1_cut_56 rfl ?_
              refine ja_iconst K (nI 1) dX1_cut_58 (by decide) ?_
              refine ja_iadd K (nI (((jrn S x) + 1))) dX1_cut_59 (nI_add _ _) ?_
              refine ja_goto K (tgt := 65) dX1_cut_60 (by decide) ?_
              refine ja_istore K (lv1 := [(0, .ref (q 0)), (1, .int (nI (i0))), (2, .int (nI ((jct (jsr S) 60)))), (3, .int (nI ((x + 1)))), (4, .int (nI (((jrn S x) + 1))))]) dX1_cut_65 (by decide) rfl rfl ?_
              refine ja_goto K (tgt := 33) dX1_cut_67 (by decide) ?_
              have e90 : jrn S (x + 1) = ((jrn S x) + 1) := by rw [js, if_pos (Or.inl h45)]
              have k9 := IH33 (x + 1) ⟨by omega, by rw [e90]; omega, fun q1 q2 => absurd h45 (by omega), by rw [jcf_skip hx60 (by omega) (by omega)]; exact hI33.2.2.2⟩ (by omega)
              rw [e90] at k9
              exact k9
            · refine ja_aload_n K 0 dX1_cut_48 rfl ?_
              refine ja_iload_n K 3 dX1_cut_49 rfl ?_
              refine ja_callVI K (q0 := 0) (qc := (RX1, TX1, 16)) (st := []) [.int (nI ((x + 1)))] (jd_differs l D q cI cZ S (jmsF (u9) (nI 0)) hW9 hS8 ((x + 1)) (by omega) (by omega)) (cwV 1 K.1.2.2.2.2 (gX1_X1_differs _) rfl rfl rfl (by decide +kernel) (by rw [hR9]; exact ⟨Nat.le_of_ble_eq_true rfl, Nat.le_of_ble_eq_true rfl⟩)) rfl rfl rfl rfl rfl (Nat.le_of_ble_eq_true rfl) dX1_cut_50 (by rw [hR9]; exact ⟨Nat.le_of_ble_eq_true rfl, Nat.le_of_ble_eq_true rfl⟩) (fun r9 u9 h9 => ?_)
              obtain ⟨rfl, rfl⟩ := h9
              refine ja_if_eq K (tgt := 63) (jany (fun c1 => jU S ((x + 1)) c1 != jU S ((x + 1) - 1) c1) (jN S) = false) dX1_cut_53 (by decide) (jbI_ne _) (fun h53 => ?_) (fun h53 => ?_)
              · have g53 : jsr S (x + 1) = false := by simp only [jsr, show (x + 1 == 0) = false by simp, Bool.false_or]; exact h53
                refine ja_iload K 4 dX1_cut_63 rfl ?_
                refine ja_istore K (lv1 := [(0, .ref (q 0)), (1, .int (nI (i0))), (2, .int (nI ((jct (jsr S) 60)))), (3, .int (nI ((x + 1)))), (4, .int (nI ((jrn S x))))]) dX1_cut_65 (by decide) rfl rfl ?_
                refine ja_goto K (tgt := 33) dX1_cut_67 (by decide) ?_
                have e90 : jrn S (x + 1) = (jrn S x) := by rw [js, if_neg (fun h => h.elim h45 (fun q => by rw [g53] at q; cases q)), Nat.add_zero]
                have k9 := IH33 (x + 1) ⟨by omega, by rw [e90]; omega, fun q1 q2 => absurd (e90 ▸ q1 : jrn S x = i0) (by omega), by rw [jcf_skip hx60 (by omega) (by omega)]; exact hI33.2.2.2⟩ (by omega)
                rw [e90] at k9
                exact k9
              · have g53 : jsr S (x + 1) = true := by simp only [jsr, show (x + 1 == 0) = false by simp, Bool.false_or]; exact eq_true_of_ne_false h53
                refine ja_iload K 4 dX1_cut_56 rfl ?_
                refine ja_iconst K (nI 1) dX1_cut_58 (by decide) ?_
                refine ja_iadd K (nI (((jrn S x) + 1))) dX1_cut_59 (nI_add _ _) ?_
                refine ja_goto K (tgt := 65) dX1_cut_60 (by decide) ?_
                refine ja_istore K (lv1 := [(0, .ref (q 0)), (1, .int (nI (i0))), (2, .int (nI ((jct (jsr S) 60)))), (3, .int (nI ((x + 1)))), (4, .int (nI (((jrn S x) + 1))))]) dX1_cut_65 (by decide) rfl rfl ?_
                refine ja_goto K (tgt := 33) dX1_cut_67 (by decide) ?_
                have e90 : jrn S (x + 1) = ((jrn S x) + 1) := by rw [js, if_pos (Or.inr g53)]
                have k9 := IH33 (x + 1) ⟨by omega, by rw [e90]; omega, fun q1 q2 => g53, by rw [jcf_skip hx60 (by omega) (by omega)]; exact hI33.2.2.2⟩ (by omega)
                rw [e90] at k9
                exact k9
        have k9 := L33 0 ⟨Nat.zero_le _, by simp [jrn, jct, jsr0], fun _ _ => jsr0 S, rfl⟩
        rw [show jrn S 0 = 0 by simp [jrn, jct, jsr0]] at k9
        exact k9
      · exact absurd (by decide) h23
    · have f12 : jcut S z = none := jcut_neg (fun k hk q => by rw [← q, nI_leI (by omega) (by omega)] at h12; exact h12 hk)
      refine ja_iconst K (nI 1) dX1_cut_15 (by decide) ?_
      refine ja_goto K (tgt := 20) dX1_cut_16 (by decide) ?_
      refine ja_callVI K (q0 := 0) (qc := (RX1, TX1, 16)) (st := []) [.int (nI 1)] (jd_refused l D q cI cZ (u9) (1) (by omega)) (cwV 1 K.1.2.2.2.2 (gX1_X1_refused _) rfl rfl rfl (by decide +kernel) (by rw [hR9]; exact ⟨Nat.le_of_ble_eq_true rfl, Nat.le_of_ble_eq_true rfl⟩)) rfl rfl rfl rfl rfl (Nat.le_of_ble_eq_true rfl) dX1_cut_20 (by rw [hR9]; exact ⟨Nat.le_of_ble_eq_true rfl, Nat.le_of_ble_eq_true rfl⟩) (fun r9 u9 h9 => ?_)
      obtain ⟨rfl, rfl⟩ := h9
      refine ja_if_eq K (tgt := 28) (decide (0 < 1) = false) dX1_cut_23 (by decide) (jbI_ne _) (fun h23 => ?_) (fun h23 => ?_)
      · exact absurd h23 (by decide)
      · refine ja_iconst K (nI 0) dX1_cut_26 (by decide) ?_
        exact ja_iret K (jmsF (u9) (nI 1)) rfl (Nat.zero_le _) (Nat.zero_le _) dX1_cut_27 hQ9 rfl ⟨by rw [f12]; rfl, fun x0 h => (by rw [f12] at h; cases h), hS8⟩
